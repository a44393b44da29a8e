/-! ===== BLOWERS OF BOTH READERS, 2 (wip/r/gen99qn.py) ===== -/
theorem pl_blower2 {T : Nat → Int32} {S x p : Int32} {n n' : Nat} {h h' g g' : am_H} {r r' : Option Value} (R : rq T S x p 2 h g) (A : rp 2 h g) (B : rp_t h g) (hc_z : rn n am_m31 0 (lv_args 0 [.ref 44]) [] h r h') (hm_z : rn n' am_m163 0 (lv_args 0 [.ref 164]) [] g r' g') : pl_Q T S x 2 h' g' r' := by
  have zm1_z : ((-1) : Int32).toInt = (-1) := by decide
  have z0_z : (0 : Int32).toInt = 0 := by decide
  have z1_z : (1 : Int32).toInt = 1 := by decide
  have z2_z : (2 : Int32).toInt = 2 := by decide
  have z3_z : (3 : Int32).toInt = 3 := by decide
  have z4_z : (4 : Int32).toInt = 4 := by decide
  have z9_z : (9 : Int32).toInt = 9 := by decide
  have z20_z : (20 : Int32).toInt = 20 := by decide
  have z99_z : (99 : Int32).toInt = 99 := by decide
  have g0_z : am_get (lv_args 0 [.ref 44]) 0 = some (.ref 44) := rfl
  have g0m : am_get (lv_args 0 [.ref 164]) 0 = some (.ref 164) := rfl
  obtain ⟨⟨⟨a1_z, a2_z, a3_z, a4_z, a5_z, a6_z⟩, ⟨nb1_z, nb2_z, nb3_z⟩, ⟨nt1_z, nt2_z, nt3_z⟩, ⟨nl1_z, nl2_z, nl3_z⟩, ⟨nr1_z, nr2_z, nr3_z⟩, ⟨nk1_z, nk2_z, nk3_z⟩, ⟨AC0, AC1, AC2, AC3⟩, AD, AE, AG⟩, ⟨⟨c1_z, c2_z, c3_z, c4_z, c5_z, c6_z, c7_z, c8_z⟩, ⟨m2_z, m3_z, m4_z, m5_z, m6_z, m7_z, m8_z⟩, R3, R4, R5, R6, R7, R8, R9, R10⟩⟩ := (⟨A, R⟩ : rp 2 h g ∧ rq T S x p 2 h g)
  obtain ⟨cb, ecb⟩ : ∃ v, rg_v h 2 2 = v := ⟨_, rfl⟩
  have cb0_z : 0 ≤ cb.toInt := by rw [← ecb]; exact nb2_z
  have cb9_z : cb.toInt ≤ 4 := by rw [← ecb]; exact nb3_z
  have cbn := rt_cl cb0_z
  obtain ⟨ct, ect⟩ : ∃ v, rg_v h 2 4 = v := ⟨_, rfl⟩
  have ct0_z : 0 ≤ ct.toInt := by rw [← ect]; exact nt2_z
  have ct9_z : ct.toInt ≤ 8 := by rw [← ect]; exact nt3_z
  have ctn := rt_cl ct0_z
  obtain ⟨cl, ecl⟩ : ∃ v, rg_v h 2 9 = v := ⟨_, rfl⟩
  have cl0_z : 0 ≤ cl.toInt := by rw [← ecl]; exact nl2_z
  have cl9_z : cl.toInt ≤ 6 := by rw [← ecl]; exact nl3_z
  have cln := rt_cl cl0_z
  obtain ⟨cr, ecr⟩ : ∃ v, rg_v h 2 12 = v := ⟨_, rfl⟩
  have cr0_z : 0 ≤ cr.toInt := by rw [← ecr]; exact nr2_z
  have cr9_z : cr.toInt ≤ 3 := by rw [← ecr]; exact nr3_z
  have crn := rt_cl cr0_z
  replace hc_z := rn_aload_n (am_cur_of (i := (0, 1, .aload_n 0, (0, 0, 0), 0)) (by decide +kernel)) g0_z hc_z
  replace hc_z := rn_aload_n (am_cur_of (i := (1, 1, .aload_n 0, (0, 0, 0), 0)) (by decide +kernel)) g0_z hc_z
  replace hc_z := rn_getM (x := 2) (am_cur_of (i := (2, 3, .getfield 25, (4, 6, 415), 0)) (by decide +kernel)) R3 hc_z
  replace hc_z := rn_getI (v := cb) (am_cur_of (i := (5, 3, .getfield 151, (1, 2, 259), 0)) (by decide +kernel)) (by decide +kernel) ecb hc_z
  replace hc_z := rn_iconst (w := 4) (am_cur_of (i := (8, 1, .iconst 4, (0, 0, 0), 0)) (by decide +kernel)) (by decide) hc_z
  replace hc_z := rn_callV (M' := am_m32) (o := 44) (ar := [.int 4, .int cb]) (rest := []) (L := lv_args 0 [.ref 44, .int cb, .int 4]) (am_cur_of (i := (9, 3, .invokevirtual 154, (32, 781, 3), 0)) (by decide +kernel)) rfl rfl rfl rfl hc_z
  obtain ⟨r651_z, h652_z, q653_z, hc_z⟩ := hc_z
  rcases rp_more R4 q653_z with ⟨ge, f1_z, f2_z⟩ | ⟨lt, n2_z, r2_z, hq2_z, e2_z⟩
  · have K := rs_stick (a := 31) (by decide) (by decide) rfl (by decide) f1_z f2_z hc_z
    replace hm_z := rn_aload_n (am_cur_of (i := (0, 1, .aload_n 0, (0, 0, 0), 0)) (by decide +kernel)) g0m hm_z
    replace hm_z := rn_getI (v := cb) (am_cur_of (i := (1, 3, .getfield 201, (12, 17, 1401), 0)) (by decide +kernel)) (by decide +kernel) (nb1_z.symm.trans ecb) hm_z
    replace hm_z := rn_iconst (w := 4) (am_cur_of (i := (4, 1, .iconst 4, (0, 0, 0), 0)) (by decide +kernel)) (by decide) hm_z
    replace hm_z := rn_cmp (am_cur_of (i := (5, 3, .if_icmp .ne 9, (8, 0, 0), 0)) (by decide +kernel)) hm_z
    rcases hm_z with ⟨b654_z, hm_z⟩ | ⟨b654_z, hm_z⟩
    · replace b654_z : ¬ cb = (4 : Int32) ∧ ¬ cb.toInt = (4 : Int32).toInt := b654_z
      omega
    · replace b654_z : cb = (4 : Int32) ∧ cb.toInt = (4 : Int32).toInt := b654_z
      replace hm_z := rn_aload_n (am_cur_of (i := (8, 1, .aload_n 0, (0, 0, 0), 0)) (by decide +kernel)) g0m hm_z
      replace hm_z := rn_iconst (w := 2) (am_cur_of (i := (9, 1, .iconst 2, (0, 0, 0), 0)) (by decide +kernel)) (by decide) hm_z
      replace hm_z := rn_callV (M' := am_m158) (o := 164) (ar := [.int 2]) (rest := []) (L := lv_args 0 [.ref 164, .int 2]) (am_cur_of (i := (10, 3, .invokevirtual 181, (158, 1665, 3), 0)) (by decide +kernel)) rfl rfl rfl rfl hm_z
      obtain ⟨r655_z, h656_z, q657_z, hm_z⟩ := hm_z
      obtain ⟨rfl, yq657_z⟩ := rp_wrong q657_z
      subst yq657_z
      replace hm_z : rn _ _ _ _ [.int 0] _ _ _ := hm_z
      replace hm_z := rn_iret (am_cur_of (i := (13, 1, .ireturn, (0, 0, 0), 0)) (by decide +kernel)) hm_z
      obtain ⟨e658_z, e659_z⟩ := hm_z
      subst e658_z e659_z
      exact Or.inr ⟨rfl, _, 2, by decide, K.1, K.2.trans R5, rfl, R6⟩
  · replace hm_z := rn_aload_n (am_cur_of (i := (0, 1, .aload_n 0, (0, 0, 0), 0)) (by decide +kernel)) g0m hm_z
    replace hm_z := rn_getI (v := cb) (am_cur_of (i := (1, 3, .getfield 201, (12, 17, 1401), 0)) (by decide +kernel)) (by decide +kernel) (nb1_z.symm.trans ecb) hm_z
    replace hm_z := rn_iconst (w := 4) (am_cur_of (i := (4, 1, .iconst 4, (0, 0, 0), 0)) (by decide +kernel)) (by decide) hm_z
    replace hm_z := rn_cmp (am_cur_of (i := (5, 3, .if_icmp .ne 9, (8, 0, 0), 0)) (by decide +kernel)) hm_z
    rcases hm_z with ⟨b660_z, hm_z⟩ | ⟨b660_z, hm_z⟩
    · replace b660_z : ¬ cb = (4 : Int32) ∧ ¬ cb.toInt = (4 : Int32).toInt := b660_z
      replace hm_z := rn_aload_n (am_cur_of (i := (14, 1, .aload_n 0, (0, 0, 0), 0)) (by decide +kernel)) g0m hm_z
      replace hm_z := rn_callV (M' := am_m151) (o := 164) (ar := []) (rest := []) (L := lv_args 0 [.ref 164]) (am_cur_of (i := (15, 3, .invokevirtual 191, (151, 1636, 3), 0)) (by decide +kernel)) rfl rfl rfl rfl hm_z
      obtain ⟨r661_z, h662_z, q663_z, hm_z⟩ := hm_z
      have vo := rn_void rfl q663_z
      subst vo
      have R' : rq T S x p 2 h g := ⟨⟨c1_z, c2_z, c3_z, c4_z, c5_z, c6_z, fun k hk_z => c7_z k hk_z, fun k hk_z => c8_z k hk_z⟩, ⟨m2_z, m3_z, m4_z, m5_z, m6_z, fun k hk_z => m7_z k hk_z, fun k hk_z => m8_z k hk_z⟩, R3, R4, R5, R6, R7, R8, R9, R10⟩
      have A' : rp 2 h g := ⟨⟨a1_z, a2_z, a3_z, a4_z, a5_z, a6_z⟩, ⟨nb1_z, nb2_z, nb3_z⟩, ⟨nt1_z, nt2_z, nt3_z⟩, ⟨nl1_z, nl2_z, nl3_z⟩, ⟨nr1_z, nr2_z, nr3_z⟩, ⟨nk1_z, nk2_z, nk3_z⟩, ⟨fun hb_z k hk_z => AC0 hb_z k hk_z, fun hb_z k hk_z => AC1 hb_z k hk_z, fun hb_z k hk_z => AC2 hb_z k hk_z, fun hb_z k hk_z => AC3 hb_z k hk_z⟩, fun t ht => AD t ht, fun t ht => AE t ht, fun t ht => AG t ht⟩
      have B' : rp_t h g := by
        obtain ⟨b0_z, b1_z, b2_z, b3_z, b4_z, b5_z, b6_z, t, o0_z, o1_z, o2_z, o3_z, o4_z, o5_z, o6_z⟩ := B
        exact ⟨b0_z, b1_z, b2_z, b3_z, b4_z, b5_z, b6_z, t, o0_z, o1_z, o2_z, o3_z, o4_z, o5_z, o6_z⟩
      obtain ⟨-, -, x1_z, p1_z, R, le1_z, t5_z, t6_z⟩ := pr_tok (rq_0 R') hq2_z q663_z
      replace A := rp_x (by decide) A' (rx_C_f t5_z) (rx_M_f t6_z)
      replace B := rp_tk B' (rg_v_fr t5_z (by decide)) (fun k => rg_v_fr t6_z (rg_v_in (by decide) k)) (rx_M_f t6_z)
      clear A' B' R'
      replace ecb : rg_v h652_z 2 2 = cb := (rx_v (rx_C_f t5_z) (o := 2) (k := 2) (by decide)).trans ecb
      replace ect : rg_v h652_z 2 4 = ct := (rx_v (rx_C_f t5_z) (o := 2) (k := 4) (by decide)).trans ect
      replace ecl : rg_v h652_z 2 9 = cl := (rx_v (rx_C_f t5_z) (o := 2) (k := 9) (by decide)).trans ecl
      replace ecr : rg_v h652_z 2 12 = cr := (rx_v (rx_C_f t5_z) (o := 2) (k := 12) (by decide)).trans ecr
      rcases e2_z with ⟨-, rfl⟩ | ⟨e2_z, -⟩
      rotate_left
      · exact absurd R.2.2.2.1 e2_z
      replace hm_z : rn _ _ _ _ [] _ _ _ := hm_z
      replace hc_z : rn _ _ _ _ [.int 1] _ _ _ := hc_z
      clear a1_z a2_z a3_z a4_z a5_z a6_z nb1_z nb2_z nb3_z nt1_z nt2_z nt3_z nl1_z nl2_z nl3_z nr1_z nr2_z nr3_z nk1_z nk2_z nk3_z AC0 AC1 AC2 AC3 AD AE AG c1_z c2_z c3_z c4_z c5_z c6_z c7_z c8_z m2_z m3_z m4_z m5_z m6_z m7_z m8_z R3 R4 R5 R6 R7 R8 R9 R10
      obtain ⟨⟨⟨a1_z, a2_z, a3_z, a4_z, a5_z, a6_z⟩, ⟨nb1_z, nb2_z, nb3_z⟩, ⟨nt1_z, nt2_z, nt3_z⟩, ⟨nl1_z, nl2_z, nl3_z⟩, ⟨nr1_z, nr2_z, nr3_z⟩, ⟨nk1_z, nk2_z, nk3_z⟩, ⟨AC0, AC1, AC2, AC3⟩, AD, AE, AG⟩, ⟨⟨c1_z, c2_z, c3_z, c4_z, c5_z, c6_z, c7_z, c8_z⟩, ⟨m2_z, m3_z, m4_z, m5_z, m6_z, m7_z, m8_z⟩, R3, R4, R5, R6, R7, R8, R9, R10⟩⟩ := (⟨A, R⟩ : rp 2 h652_z h662_z ∧ rq T S x1_z p1_z 2 h652_z h662_z)
      have q4_z : cb.toInt = 0 ∨ cb.toInt = 1 ∨ cb.toInt = 2 ∨ cb.toInt = 3 := by omega
      rcases q4_z with q4_z | q4_z | q4_z | q4_z
      · obtain rfl : cb = 0 := rt_i32 (q4_z.trans (by decide))
        replace hc_z := rn_ifF (am_cur_of (i := (12, 3, .ifCond .eq 10, (10, 0, 0), 0)) (by decide +kernel)) (by decide) hc_z
        replace hc_z := rn_aload_n (am_cur_of (i := (15, 1, .aload_n 0, (0, 0, 0), 0)) (by decide +kernel)) g0_z hc_z
        replace hc_z := rn_callV (M' := am_m33) (o := 44) (ar := []) (rest := []) (L := lv_args 0 [.ref 44]) (am_cur_of (i := (16, 3, .invokevirtual 158, (33, 785, 3), 0)) (by decide +kernel)) rfl rfl rfl rfl hc_z
        obtain ⟨r664_z, h665_z, q666_z, hc_z⟩ := hc_z
        rcases rp_own R4 q666_z with ⟨k3_z, rfl, eh⟩ | ⟨k3_z, f1_z, f2_z⟩
        · replace eh := eh.symm
          subst eh
          have k2_z := tk_3 R10 k3_z
          replace hc_z : rn _ _ _ _ [.int 1] _ _ _ := hc_z
          replace hc_z := rn_ifT (am_cur_of (i := (19, 3, .ifCond .ne 4, (11, 0, 0), 0)) (by decide +kernel)) (by decide) hc_z
          replace hc_z := rn_aload_n (am_cur_of (i := (23, 1, .aload_n 0, (0, 0, 0), 0)) (by decide +kernel)) g0_z hc_z
          replace hc_z := rn_getM (x := 2) (am_cur_of (i := (24, 3, .getfield 25, (4, 6, 415), 0)) (by decide +kernel)) R3 hc_z
          replace hc_z := rn_aload_n (am_cur_of (i := (27, 1, .aload_n 0, (0, 0, 0), 0)) (by decide +kernel)) g0_z hc_z
          replace hc_z := rn_getI (v := rg_v h652_z 44 11) (am_cur_of (i := (28, 3, .getfield 91, (4, 11, 420), 0)) (by decide +kernel)) (by decide +kernel) rfl hc_z
          replace hc_z := rn_callV (M' := am_m34) (o := 2) (ar := [.int (rg_v h652_z 44 11)]) (rest := []) (L := lv_args 0 [.ref 2, .int (rg_v h652_z 44 11)]) (am_cur_of (i := (31, 3, .invokevirtual 162, (34, 789, 3), 0)) (by decide +kernel)) rfl rfl rfl rfl hc_z
          obtain ⟨r667_z, h668_z, q669_z, hc_z⟩ := hc_z
          obtain ⟨eh, i2_z, rfl, hi2_z⟩ := rp_bn2 ecb (by omega) q669_z
          replace eh := eh.symm
          subst eh
          have hib := rp_fm_b hi2_z (by omega)
          have names : ∀ b : Nat, (b : Int) < (0 : Int32).toInt → rg_v h652_z (19 + b) 0 = rg_v h662_z 169 (4 + b) := by
            intro b hb_z
            match b with
            | 0 => exact AC0 (by rw [ecb]; exact hb_z) 0 (by decide)
            | 1 => exact AC1 (by rw [ecb]; exact hb_z) 0 (by decide)
            | 2 => exact AC2 (by rw [ecb]; exact hb_z) 0 (by decide)
            | 3 => exact AC3 (by rw [ecb]; exact hb_z) 0 (by decide)
            | b + 4 => omega
          replace hc_z : rn _ _ _ _ [.int i2_z] _ _ _ := hc_z
          replace hc_z := rn_iconst (w := (-1)) (am_cur_of (i := (34, 1, .iconst (-1), (0, 0, 0), 0)) (by decide +kernel)) (by decide) hc_z
          replace hc_z := rn_cmp (am_cur_of (i := (35, 3, .if_icmp .eq 9, (22, 0, 0), 0)) (by decide +kernel)) hc_z
          rcases hc_z with ⟨b670_z, hc_z⟩ | ⟨b670_z, hc_z⟩
          · replace b670_z : i2_z = ((-1) : Int32) ∧ i2_z.toInt = ((-1) : Int32).toInt := b670_z
            replace hc_z := rn_aload_n (am_cur_of (i := (44, 1, .aload_n 0, (0, 0, 0), 0)) (by decide +kernel)) g0_z hc_z
            replace hc_z := rn_getM (x := 2) (am_cur_of (i := (45, 3, .getfield 25, (4, 6, 415), 0)) (by decide +kernel)) R3 hc_z
            replace hc_z := rn_getR (x := 3) (am_cur_of (i := (48, 3, .getfield 166, (1, 3, 265), 0)) (by decide +kernel)) (by decide +kernel) hc_z
            replace hc_z := rn_aload_n (am_cur_of (i := (51, 1, .aload_n 0, (0, 0, 0), 0)) (by decide +kernel)) g0_z hc_z
            replace hc_z := rn_getM (x := 2) (am_cur_of (i := (52, 3, .getfield 25, (4, 6, 415), 0)) (by decide +kernel)) R3 hc_z
            replace hc_z := rn_getI (v := 0) (am_cur_of (i := (55, 3, .getfield 151, (1, 2, 259), 0)) (by decide +kernel)) (by decide +kernel) ecb hc_z
            replace hc_z := rn_aaload (s := "AirBed$Blower") (N := 4) (q := 0) (am_cur_of (i := (58, 1, .aaload, (0, 0, 0), 0)) (by decide +kernel)) (by decide +kernel) rfl hc_z
            obtain ⟨p671_z, hc_z⟩ := hc_z
            rw [show rg_r h652_z 3 0 = 19 from rp_bc2 (rn_G hc_z) (q := 0) (by decide)] at hc_z
            replace hc_z := rn_astore_n (am_cur_of (i := (59, 1, .astore_n 1, (0, 0, 0), 0)) (by decide +kernel)) hc_z
            obtain ⟨_, s672_z, s673_z, g1_z, hc_z⟩ := hc_z
            replace g0_z := s672_z 0 _ (by decide) rfl g0_z
            clear s672_z s673_z
            replace hc_z := rn_aload_n (am_cur_of (i := (60, 1, .aload_n 1, (0, 0, 0), 0)) (by decide +kernel)) g1_z hc_z
            replace hc_z := rn_aload_n (am_cur_of (i := (61, 1, .aload_n 0, (0, 0, 0), 0)) (by decide +kernel)) g0_z hc_z
            replace hc_z := rn_getI (v := rg_v h652_z 44 11) (am_cur_of (i := (62, 3, .getfield 91, (4, 11, 420), 0)) (by decide +kernel)) (by decide +kernel) rfl hc_z
            replace hc_z := rn_put (am_cur_of (i := (65, 3, .putfield 170, (3, 0, 204), 0)) (by decide +kernel)) (by decide +kernel) hc_z
            replace hc_z := rn_aload_n (am_cur_of (i := (68, 1, .aload_n 0, (0, 0, 0), 0)) (by decide +kernel)) g0_z hc_z
            replace hc_z := rn_callV (M' := am_m19) (o := 44) (ar := []) (rest := []) (L := lv_args 0 [.ref 44]) (am_cur_of (i := (69, 3, .invokevirtual 57, (19, 727, 3), 0)) (by decide +kernel)) rfl rfl rfl rfl hc_z
            obtain ⟨r674_z, h675_z, q676_z, hc_z⟩ := hc_z
            have vo := rn_void rfl q676_z
            subst vo
            replace hm_z := rn_aload_n (am_cur_of (i := (18, 1, .aload_n 0, (0, 0, 0), 0)) (by decide +kernel)) g0m hm_z
            replace hm_z := rn_aload_n (am_cur_of (i := (19, 1, .aload_n 0, (0, 0, 0), 0)) (by decide +kernel)) g0m hm_z
            replace hm_z := rn_getR (x := 169) (am_cur_of (i := (20, 3, .getfield 27, (12, 24, 1408), 0)) (by decide +kernel)) (by decide +kernel) hm_z
            replace hm_z := rn_iconst (w := 4) (am_cur_of (i := (23, 1, .iconst 4, (0, 0, 0), 0)) (by decide +kernel)) (by decide) hm_z
            replace hm_z := rn_aload_n (am_cur_of (i := (24, 1, .aload_n 0, (0, 0, 0), 0)) (by decide +kernel)) g0m hm_z
            replace hm_z := rn_getI (v := 0) (am_cur_of (i := (25, 3, .getfield 201, (12, 17, 1401), 0)) (by decide +kernel)) (by decide +kernel) (nb1_z.symm.trans ecb) hm_z
            replace hm_z := rn_callV (M' := am_m164) (o := 164) (ar := [.int 0, .int 4, .ref 169]) (rest := []) (L := lv_args 0 [.ref 164, .ref 169, .int 4, .int 0]) (am_cur_of (i := (28, 3, .invokevirtual 248, (164, 1688, 3), 0)) (by decide +kernel)) rfl rfl rfl rfl hm_z
            obtain ⟨r677_z, h678_z, q679_z, hm_z⟩ := hm_z
            rcases rp_newB (nb := 0) (by omega) (by omega) q679_z with ⟨y1_z, rfl, y3_z⟩ | ⟨y1_z, rfl, y3_z, y4_z, y5_z, y6_z⟩ | ⟨y1_z, rfl, y5_z, y4_z, y6_z, y7_z⟩
            · exact absurd k2_z.1 y1_z
            · have ei := rp_fm_u hi2_z (k2_z.2 ▸ y5_z) names
              rw [← ei] at y6_z
              omega
            · have vo := rn_void rfl y7_z
              subst vo
              have R' : rq T S x1_z p1_z 2 (am_up h652_z 19 0 (.int (rg_v h652_z 44 11))) (am_up h662_z 169 4 (.int (rg_v h662_z 164 9))) := ⟨⟨c1_z, c2_z, c3_z, c4_z, c5_z, c6_z, fun k hk_z => c7_z k hk_z, fun k hk_z => c8_z k hk_z⟩, ⟨m2_z, m3_z, m4_z, m5_z, m6_z, fun k hk_z => m7_z k hk_z, fun k hk_z => m8_z k hk_z⟩, R3, R4, R5, R6, R7, R8, R9, R10⟩
              have A' : rp 2 (am_up h652_z 19 0 (.int (rg_v h652_z 44 11))) (am_up h662_z 169 4 (.int (rg_v h662_z 164 9))) := ⟨⟨a1_z, a2_z, a3_z, a4_z, a5_z, a6_z⟩, ⟨nb1_z, nb2_z, nb3_z⟩, ⟨nt1_z, nt2_z, nt3_z⟩, ⟨nl1_z, nl2_z, nl3_z⟩, ⟨nr1_z, nr2_z, nr3_z⟩, ⟨nk1_z, nk2_z, nk3_z⟩, ⟨fun hb_z => absurd hb_z (by rw [show rg_v (am_up h652_z 19 0 (.int (rg_v h652_z 44 11))) 2 2 = 0 from ecb]; decide), fun hb_z => absurd hb_z (by rw [show rg_v (am_up h652_z 19 0 (.int (rg_v h652_z 44 11))) 2 2 = 0 from ecb]; decide), fun hb_z => absurd hb_z (by rw [show rg_v (am_up h652_z 19 0 (.int (rg_v h652_z 44 11))) 2 2 = 0 from ecb]; decide), fun hb_z => absurd hb_z (by rw [show rg_v (am_up h652_z 19 0 (.int (rg_v h652_z 44 11))) 2 2 = 0 from ecb]; decide)⟩, fun t ht => AD t ht, fun t ht => AE t ht, fun t ht => AG t ht⟩
              have B' : rp_t (am_up h652_z 19 0 (.int (rg_v h652_z 44 11))) (am_up h662_z 169 4 (.int (rg_v h662_z 164 9))) := by
                obtain ⟨b0_z, b1_z, b2_z, b3_z, b4_z, b5_z, b6_z, t, o0_z, o1_z, o2_z, o3_z, o4_z, o5_z, o6_z⟩ := B
                exact ⟨b0_z, b1_z, b2_z, b3_z, b4_z, b5_z, b6_z, t, o0_z, o1_z, o2_z, o3_z, o4_z, o5_z, o6_z⟩
              obtain ⟨-, -, x2_z, p2_z, R, le2_z, t5_z, t6_z⟩ := pr_tok (rq_0 R') q676_z y7_z
              replace A := rp_x (by decide) A' (rx_C_f t5_z) (rx_M_f t6_z)
              replace B := rp_tk B' (rg_v_fr t5_z (by decide)) (fun k => rg_v_fr t6_z (rg_v_in (by decide) k)) (rx_M_f t6_z)
              clear A' B' R'
              replace le2_z : x.toInt ≤ p2_z.toInt := Int.le_trans (Int.le_trans le1_z R8) le2_z
              replace ecb : rg_v h675_z 2 2 = 0 := (rx_v (rx_C_f t5_z) (o := 2) (k := 2) (by decide)).trans ecb
              replace ect : rg_v h675_z 2 4 = ct := (rx_v (rx_C_f t5_z) (o := 2) (k := 4) (by decide)).trans ect
              replace ecl : rg_v h675_z 2 9 = cl := (rx_v (rx_C_f t5_z) (o := 2) (k := 9) (by decide)).trans ecl
              replace ecr : rg_v h675_z 2 12 = cr := (rx_v (rx_C_f t5_z) (o := 2) (k := 12) (by decide)).trans ecr
              have E0 : rg_v h675_z 19 0 = rg_v h678_z 169 4 := (rx_v (rx_C_f t5_z) (o := 19) (k := 0) (by decide)).trans (Eq.trans (k2_z.2) (rx_w (rx_M_f t6_z) (o := 169) (k := 4) (by omega) (by decide)).symm)
              replace hm_z : rn _ _ _ _ [.int 1] _ _ _ := hm_z
              replace hc_z : rn _ _ _ _ [] _ _ _ := hc_z
              clear a1_z a2_z a3_z a4_z a5_z a6_z nb1_z nb2_z nb3_z nt1_z nt2_z nt3_z nl1_z nl2_z nl3_z nr1_z nr2_z nr3_z nk1_z nk2_z nk3_z AC0 AC1 AC2 AC3 AD AE AG c1_z c2_z c3_z c4_z c5_z c6_z c7_z c8_z m2_z m3_z m4_z m5_z m6_z m7_z m8_z R3 R4 R5 R6 R7 R8 R9 R10
              obtain ⟨⟨⟨a1_z, a2_z, a3_z, a4_z, a5_z, a6_z⟩, ⟨nb1_z, nb2_z, nb3_z⟩, ⟨nt1_z, nt2_z, nt3_z⟩, ⟨nl1_z, nl2_z, nl3_z⟩, ⟨nr1_z, nr2_z, nr3_z⟩, ⟨nk1_z, nk2_z, nk3_z⟩, ⟨AC0, AC1, AC2, AC3⟩, AD, AE, AG⟩, ⟨⟨c1_z, c2_z, c3_z, c4_z, c5_z, c6_z, c7_z, c8_z⟩, ⟨m2_z, m3_z, m4_z, m5_z, m6_z, m7_z, m8_z⟩, R3, R4, R5, R6, R7, R8, R9, R10⟩⟩ := (⟨A, R⟩ : rp 2 h675_z h678_z ∧ rq T S x2_z p2_z 2 h675_z h678_z)
              replace hc_z := rn_aload_n (am_cur_of (i := (72, 1, .aload_n 1, (0, 0, 0), 0)) (by decide +kernel)) g1_z hc_z
              replace hc_z := rn_aload_n (am_cur_of (i := (73, 1, .aload_n 0, (0, 0, 0), 0)) (by decide +kernel)) g0_z hc_z
              replace hc_z := rn_iconst (w := 1) (am_cur_of (i := (74, 1, .iconst 1, (0, 0, 0), 0)) (by decide +kernel)) (by decide) hc_z
              replace hc_z := rn_bipush (w := 99) (am_cur_of (i := (75, 2, .bipush 99, (0, 0, 0), 0)) (by decide +kernel)) (by decide) hc_z
              replace hc_z := rn_callV (M' := am_m30) (o := 44) (ar := [.int 99, .int 1]) (rest := [.ref 19]) (L := lv_args 0 [.ref 44, .int 1, .int 99]) (am_cur_of (i := (77, 3, .invokevirtual 142, (30, 773, 3), 0)) (by decide +kernel)) rfl rfl rfl rfl hc_z
              obtain ⟨r680_z, h681_z, q682_z, hc_z⟩ := hc_z
              replace hm_z := rn_ifT (am_cur_of (i := (31, 3, .ifCond .ne 5, (20, 0, 0), 0)) (by decide +kernel)) (by decide) hm_z
              replace hm_z := rn_bipush (w := 28) (am_cur_of (i := (36, 2, .bipush 28, (0, 0, 0), 0)) (by decide +kernel)) (by decide) hm_z
              replace hm_z := rn_bipush (w := 7) (am_cur_of (i := (38, 2, .bipush 7, (0, 0, 0), 0)) (by decide +kernel)) (by decide) hm_z
              replace hm_z := rn_aload_n (am_cur_of (i := (40, 1, .aload_n 0, (0, 0, 0), 0)) (by decide +kernel)) g0m hm_z
              replace hm_z := rn_getI (v := 0) (am_cur_of (i := (41, 3, .getfield 201, (12, 17, 1401), 0)) (by decide +kernel)) (by decide +kernel) (nb1_z.symm.trans ecb) hm_z
              replace hm_z := rn_imul (w := 0) (am_cur_of (i := (44, 1, .imul, (0, 0, 0), 0)) (by decide +kernel)) (by decide) hm_z
              replace hm_z := rn_iadd (w := 28) (am_cur_of (i := (45, 1, .iadd, (0, 0, 0), 0)) (by decide +kernel)) (by decide) hm_z
              replace hm_z := rn_istore_n (am_cur_of (i := (46, 1, .istore_n 1, (0, 0, 0), 0)) (by decide +kernel)) hm_z
              obtain ⟨_, s683_z, s684_z, g1m, hm_z⟩ := hm_z
              replace g0m := s683_z 0 _ (by decide) rfl g0m
              clear s683_z s684_z
              replace hm_z := rn_iconst (w := 0) (am_cur_of (i := (47, 1, .iconst 0, (0, 0, 0), 0)) (by decide +kernel)) (by decide) hm_z
              replace hm_z := rn_istore_n (am_cur_of (i := (48, 1, .istore_n 2, (0, 0, 0), 0)) (by decide +kernel)) hm_z
              obtain ⟨_, s685_z, s686_z, g2m, hm_z⟩ := hm_z
              replace g0m := s685_z 0 _ (by decide) rfl g0m
              replace g1m := s685_z 1 _ (by decide) rfl g1m
              clear s685_z s686_z
              replace hm_z := rn_iload_n (am_cur_of (i := (49, 1, .iload_n 2, (0, 0, 0), 0)) (by decide +kernel)) g2m hm_z
              replace hm_z := rn_bipush (w := 7) (am_cur_of (i := (50, 2, .bipush 7, (0, 0, 0), 0)) (by decide +kernel)) (by decide) hm_z
              replace hm_z := rn_cmpF (am_cur_of (i := (52, 3, .if_icmp .ge 87, (79, 0, 0), 0)) (by decide +kernel)) (by decide) hm_z
              replace hm_z := rn_iload_n (am_cur_of (i := (55, 1, .iload_n 2, (0, 0, 0), 0)) (by decide +kernel)) g2m hm_z
              replace hm_z := rn_ifT (am_cur_of (i := (56, 3, .ifCond .eq 13, (40, 0, 0), 0)) (by decide +kernel)) (by decide) hm_z
              replace hm_z := rn_iconst (w := 1) (am_cur_of (i := (69, 1, .iconst 1, (0, 0, 0), 0)) (by decide +kernel)) (by decide) hm_z
              replace hm_z := rn_goto (am_cur_of (i := (70, 3, .goto 4, (43, 0, 0), 0)) (by decide +kernel)) hm_z
              replace hm_z := rn_istore_n (am_cur_of (i := (74, 1, .istore_n 3, (0, 0, 0), 0)) (by decide +kernel)) hm_z
              obtain ⟨_, s687_z, s688_z, g3m, hm_z⟩ := hm_z
              replace g0m := s687_z 0 _ (by decide) rfl g0m
              replace g1m := s687_z 1 _ (by decide) rfl g1m
              replace g2m := s687_z 2 _ (by decide) rfl g2m
              clear s687_z s688_z
              replace hm_z := rn_iload_n (am_cur_of (i := (75, 1, .iload_n 2, (0, 0, 0), 0)) (by decide +kernel)) g2m hm_z
              replace hm_z := rn_iconst (w := 1) (am_cur_of (i := (76, 1, .iconst 1, (0, 0, 0), 0)) (by decide +kernel)) (by decide) hm_z
              replace hm_z := rn_cmpF (am_cur_of (i := (77, 3, .if_icmp .eq 8, (50, 0, 0), 0)) (by decide +kernel)) (by decide) hm_z
              replace hm_z := rn_iload_n (am_cur_of (i := (80, 1, .iload_n 2, (0, 0, 0), 0)) (by decide +kernel)) g2m hm_z
              replace hm_z := rn_iconst (w := 2) (am_cur_of (i := (81, 1, .iconst 2, (0, 0, 0), 0)) (by decide +kernel)) (by decide) hm_z
              replace hm_z := rn_cmpT (am_cur_of (i := (82, 3, .if_icmp .ne 8, (52, 0, 0), 0)) (by decide +kernel)) (by decide) hm_z
              replace hm_z := rn_iload_n (am_cur_of (i := (90, 1, .iload_n 2, (0, 0, 0), 0)) (by decide +kernel)) g2m hm_z
              replace hm_z := rn_iconst (w := 3) (am_cur_of (i := (91, 1, .iconst 3, (0, 0, 0), 0)) (by decide +kernel)) (by decide) hm_z
              replace hm_z := rn_cmpF (am_cur_of (i := (92, 3, .if_icmp .eq 8, (58, 0, 0), 0)) (by decide +kernel)) (by decide) hm_z
              replace hm_z := rn_iload_n (am_cur_of (i := (95, 1, .iload_n 2, (0, 0, 0), 0)) (by decide +kernel)) g2m hm_z
              replace hm_z := rn_iconst (w := 5) (am_cur_of (i := (96, 1, .iconst 5, (0, 0, 0), 0)) (by decide +kernel)) (by decide) hm_z
              replace hm_z := rn_cmpT (am_cur_of (i := (97, 3, .if_icmp .ne 8, (60, 0, 0), 0)) (by decide +kernel)) (by decide) hm_z
              replace hm_z := rn_bipush (w := 99) (am_cur_of (i := (105, 2, .bipush 99, (0, 0, 0), 0)) (by decide +kernel)) (by decide) hm_z
              replace hm_z := rn_istore (am_cur_of (i := (107, 2, .istore 4, (0, 0, 0), 0)) (by decide +kernel)) hm_z
              obtain ⟨_, s689_z, s690_z, g4m, hm_z⟩ := hm_z
              replace g0m := s689_z 0 _ (by decide) rfl g0m
              replace g1m := s689_z 1 _ (by decide) rfl g1m
              replace g2m := s689_z 2 _ (by decide) rfl g2m
              replace g3m := s689_z 3 _ (by decide) rfl g3m
              clear s689_z s690_z
              replace hm_z := rn_aload_n (am_cur_of (i := (109, 1, .aload_n 0, (0, 0, 0), 0)) (by decide +kernel)) g0m hm_z
              replace hm_z := rn_iload_n (am_cur_of (i := (110, 1, .iload_n 3, (0, 0, 0), 0)) (by decide +kernel)) g3m hm_z
              replace hm_z := rn_iload (am_cur_of (i := (111, 2, .iload 4, (0, 0, 0), 0)) (by decide +kernel)) g4m hm_z
              replace hm_z := rn_callV (M' := am_m161) (o := 164) (ar := [.int 99, .int 1]) (rest := []) (L := lv_args 0 [.ref 164, .int 1, .int 99]) (am_cur_of (i := (113, 3, .invokevirtual 197, (161, 1677, 3), 0)) (by decide +kernel)) rfl rfl rfl rfl hm_z
              obtain ⟨r691_z, h692_z, q693_z, hm_z⟩ := hm_z
              have R' : rq T S x2_z p2_z 2 h675_z h678_z := ⟨⟨c1_z, c2_z, c3_z, c4_z, c5_z, c6_z, fun k hk_z => c7_z k hk_z, fun k hk_z => c8_z k hk_z⟩, ⟨m2_z, m3_z, m4_z, m5_z, m6_z, fun k hk_z => m7_z k hk_z, fun k hk_z => m8_z k hk_z⟩, R3, R4, R5, R6, R7, R8, R9, R10⟩
              have A' : rp 2 h675_z h678_z := ⟨⟨a1_z, a2_z, a3_z, a4_z, a5_z, a6_z⟩, ⟨nb1_z, nb2_z, nb3_z⟩, ⟨nt1_z, nt2_z, nt3_z⟩, ⟨nl1_z, nl2_z, nl3_z⟩, ⟨nr1_z, nr2_z, nr3_z⟩, ⟨nk1_z, nk2_z, nk3_z⟩, ⟨fun hb_z => absurd hb_z (by rw [show rg_v h675_z 2 2 = 0 from ecb]; decide), fun hb_z => absurd hb_z (by rw [show rg_v h675_z 2 2 = 0 from ecb]; decide), fun hb_z => absurd hb_z (by rw [show rg_v h675_z 2 2 = 0 from ecb]; decide), fun hb_z => absurd hb_z (by rw [show rg_v h675_z 2 2 = 0 from ecb]; decide)⟩, fun t ht => AD t ht, fun t ht => AE t ht, fun t ht => AG t ht⟩
              have B' : rp_t h675_z h678_z := by
                obtain ⟨b0_z, b1_z, b2_z, b3_z, b4_z, b5_z, b6_z, t, o0_z, o1_z, o2_z, o3_z, o4_z, o5_z, o6_z⟩ := B
                exact ⟨b0_z, b1_z, b2_z, b3_z, b4_z, b5_z, b6_z, t, o0_z, o1_z, o2_z, o3_z, o4_z, o5_z, o6_z⟩
              rcases pr_num R' (by decide) (by decide) q682_z q693_z with ⟨v3_z, x3_z, p3_z, rfl, rfl, lo3_z, hi3_z, R, le3_z, got, X, Y, t7_z, t167_z⟩ | ⟨rfl, F⟩
              · replace A := rp_x (by decide) A' X Y
                replace B := rp_tk B' t7_z t167_z Y
                clear A' B' R'
                replace le3_z : x.toInt ≤ p3_z.toInt := Int.le_trans (Int.le_trans le2_z R8) le3_z
                replace ecb : rg_v h681_z 2 2 = 0 := (rx_v X (o := 2) (k := 2) (by decide)).trans ecb
                replace ect : rg_v h681_z 2 4 = ct := (rx_v X (o := 2) (k := 4) (by decide)).trans ect
                replace ecl : rg_v h681_z 2 9 = cl := (rx_v X (o := 2) (k := 9) (by decide)).trans ecl
                replace ecr : rg_v h681_z 2 12 = cr := (rx_v X (o := 2) (k := 12) (by decide)).trans ecr
                replace E0 : rg_v h681_z 19 0 = rg_v h692_z 169 4 := (rx_v X (o := 19) (k := 0) (by decide)).trans (E0.trans (rx_w Y (o := 169) (k := 4) (by omega) (by decide)).symm)
                replace hm_z : rn _ _ _ _ [.int 1] _ _ _ := hm_z
                replace hc_z : rn _ _ _ _ [.int v3_z, .ref 19] _ _ _ := hc_z
                clear a1_z a2_z a3_z a4_z a5_z a6_z nb1_z nb2_z nb3_z nt1_z nt2_z nt3_z nl1_z nl2_z nl3_z nr1_z nr2_z nr3_z nk1_z nk2_z nk3_z AC0 AC1 AC2 AC3 AD AE AG c1_z c2_z c3_z c4_z c5_z c6_z c7_z c8_z m2_z m3_z m4_z m5_z m6_z m7_z m8_z R3 R4 R5 R6 R7 R8 R9 R10
                obtain ⟨⟨⟨a1_z, a2_z, a3_z, a4_z, a5_z, a6_z⟩, ⟨nb1_z, nb2_z, nb3_z⟩, ⟨nt1_z, nt2_z, nt3_z⟩, ⟨nl1_z, nl2_z, nl3_z⟩, ⟨nr1_z, nr2_z, nr3_z⟩, ⟨nk1_z, nk2_z, nk3_z⟩, ⟨AC0, AC1, AC2, AC3⟩, AD, AE, AG⟩, ⟨⟨c1_z, c2_z, c3_z, c4_z, c5_z, c6_z, c7_z, c8_z⟩, ⟨m2_z, m3_z, m4_z, m5_z, m6_z, m7_z, m8_z⟩, R3, R4, R5, R6, R7, R8, R9, R10⟩⟩ := (⟨A, R⟩ : rp 2 h681_z h692_z ∧ rq T S x3_z p3_z 2 h681_z h692_z)
                replace hc_z := rn_put (am_cur_of (i := (80, 3, .putfield 175, (3, 1, 206), 0)) (by decide +kernel)) (by decide +kernel) hc_z
                replace hc_z := rn_aload_n (am_cur_of (i := (83, 1, .aload_n 1, (0, 0, 0), 0)) (by decide +kernel)) g1_z hc_z
                replace hc_z := rn_aload_n (am_cur_of (i := (84, 1, .aload_n 0, (0, 0, 0), 0)) (by decide +kernel)) g0_z hc_z
                replace hc_z := rn_iconst (w := 0) (am_cur_of (i := (85, 1, .iconst 0, (0, 0, 0), 0)) (by decide +kernel)) (by decide) hc_z
                replace hc_z := rn_bipush (w := 20) (am_cur_of (i := (86, 2, .bipush 20, (0, 0, 0), 0)) (by decide +kernel)) (by decide) hc_z
                replace hc_z := rn_callV (M' := am_m30) (o := 44) (ar := [.int 20, .int 0]) (rest := [.ref 19]) (L := lv_args 0 [.ref 44, .int 0, .int 20]) (am_cur_of (i := (88, 3, .invokevirtual 142, (30, 773, 3), 0)) (by decide +kernel)) rfl rfl rfl rfl hc_z
                obtain ⟨r694_z, h695_z, q696_z, hc_z⟩ := hc_z
                replace hm_z := rn_ifT (am_cur_of (i := (116, 3, .ifCond .ne 5, (69, 0, 0), 0)) (by decide +kernel)) (by decide) hm_z
                replace hm_z := rn_aload_n (am_cur_of (i := (121, 1, .aload_n 0, (0, 0, 0), 0)) (by decide +kernel)) g0m hm_z
                replace hm_z := rn_getR (x := 170) (am_cur_of (i := (122, 3, .getfield 30, (12, 25, 1409), 0)) (by decide +kernel)) (by decide +kernel) hm_z
                replace hm_z := rn_iload_n (am_cur_of (i := (125, 1, .iload_n 1, (0, 0, 0), 0)) (by decide +kernel)) g1m hm_z
                replace hm_z := rn_iload_n (am_cur_of (i := (126, 1, .iload_n 2, (0, 0, 0), 0)) (by decide +kernel)) g2m hm_z
                replace hm_z := rn_iadd (w := 28) (am_cur_of (i := (127, 1, .iadd, (0, 0, 0), 0)) (by decide +kernel)) (by decide) hm_z
                replace hm_z := rn_aload_n (am_cur_of (i := (128, 1, .aload_n 0, (0, 0, 0), 0)) (by decide +kernel)) g0m hm_z
                replace hm_z := rn_getI (v := v3_z) (am_cur_of (i := (129, 3, .getfield 188, (12, 11, 1395), 0)) (by decide +kernel)) (by decide +kernel) got hm_z
                replace hm_z := rn_iastore (N := 56) (q := 28) (am_cur_of (i := (132, 1, .iastore, (0, 0, 0), 0)) (by decide +kernel)) (by decide +kernel) rfl hm_z
                obtain ⟨p697_z, hm_z⟩ := hm_z
                replace hm_z := rn_iinc (w := 1) (am_cur_of (i := (133, 3, .iinc 2 1, (0, 0, 0), 0)) (by decide +kernel)) g2m (by decide) hm_z
                obtain ⟨_, s698_z, s699_z, g2m, hm_z⟩ := hm_z
                replace g0m := s698_z 0 _ (by decide) rfl g0m
                replace g1m := s698_z 1 _ (by decide) rfl g1m
                replace g3m := s698_z 3 _ (by decide) rfl g3m
                replace g4m := s698_z 4 _ (by decide) rfl g4m
                clear s698_z s699_z
                replace hm_z := rn_goto (am_cur_of (i := (136, 3, .goto (-87), (29, 0, 0), 0)) (by decide +kernel)) hm_z
                replace hm_z := rn_iload_n (am_cur_of (i := (49, 1, .iload_n 2, (0, 0, 0), 0)) (by decide +kernel)) g2m hm_z
                replace hm_z := rn_bipush (w := 7) (am_cur_of (i := (50, 2, .bipush 7, (0, 0, 0), 0)) (by decide +kernel)) (by decide) hm_z
                replace hm_z := rn_cmpF (am_cur_of (i := (52, 3, .if_icmp .ge 87, (79, 0, 0), 0)) (by decide +kernel)) (by decide) hm_z
                replace hm_z := rn_iload_n (am_cur_of (i := (55, 1, .iload_n 2, (0, 0, 0), 0)) (by decide +kernel)) g2m hm_z
                replace hm_z := rn_ifF (am_cur_of (i := (56, 3, .ifCond .eq 13, (40, 0, 0), 0)) (by decide +kernel)) (by decide) hm_z
                replace hm_z := rn_iload_n (am_cur_of (i := (59, 1, .iload_n 2, (0, 0, 0), 0)) (by decide +kernel)) g2m hm_z
                replace hm_z := rn_iconst (w := 2) (am_cur_of (i := (60, 1, .iconst 2, (0, 0, 0), 0)) (by decide +kernel)) (by decide) hm_z
                replace hm_z := rn_cmpF (am_cur_of (i := (61, 3, .if_icmp .eq 8, (40, 0, 0), 0)) (by decide +kernel)) (by decide) hm_z
                replace hm_z := rn_iload_n (am_cur_of (i := (64, 1, .iload_n 2, (0, 0, 0), 0)) (by decide +kernel)) g2m hm_z
                replace hm_z := rn_iconst (w := 3) (am_cur_of (i := (65, 1, .iconst 3, (0, 0, 0), 0)) (by decide +kernel)) (by decide) hm_z
                replace hm_z := rn_cmpT (am_cur_of (i := (66, 3, .if_icmp .ne 7, (42, 0, 0), 0)) (by decide +kernel)) (by decide) hm_z
                replace hm_z := rn_iconst (w := 0) (am_cur_of (i := (73, 1, .iconst 0, (0, 0, 0), 0)) (by decide +kernel)) (by decide) hm_z
                replace hm_z := rn_istore_n (am_cur_of (i := (74, 1, .istore_n 3, (0, 0, 0), 0)) (by decide +kernel)) hm_z
                obtain ⟨_, s700_z, s701_z, g3m, hm_z⟩ := hm_z
                replace g0m := s700_z 0 _ (by decide) rfl g0m
                replace g1m := s700_z 1 _ (by decide) rfl g1m
                replace g2m := s700_z 2 _ (by decide) rfl g2m
                replace g4m := s700_z 4 _ (by decide) rfl g4m
                clear s700_z s701_z
                replace hm_z := rn_iload_n (am_cur_of (i := (75, 1, .iload_n 2, (0, 0, 0), 0)) (by decide +kernel)) g2m hm_z
                replace hm_z := rn_iconst (w := 1) (am_cur_of (i := (76, 1, .iconst 1, (0, 0, 0), 0)) (by decide +kernel)) (by decide) hm_z
                replace hm_z := rn_cmpT (am_cur_of (i := (77, 3, .if_icmp .eq 8, (50, 0, 0), 0)) (by decide +kernel)) (by decide) hm_z
                replace hm_z := rn_bipush (w := 20) (am_cur_of (i := (85, 2, .bipush 20, (0, 0, 0), 0)) (by decide +kernel)) (by decide) hm_z
                replace hm_z := rn_goto (am_cur_of (i := (87, 3, .goto 20, (61, 0, 0), 0)) (by decide +kernel)) hm_z
                replace hm_z := rn_istore (am_cur_of (i := (107, 2, .istore 4, (0, 0, 0), 0)) (by decide +kernel)) hm_z
                obtain ⟨_, s702_z, s703_z, g4m, hm_z⟩ := hm_z
                replace g0m := s702_z 0 _ (by decide) rfl g0m
                replace g1m := s702_z 1 _ (by decide) rfl g1m
                replace g2m := s702_z 2 _ (by decide) rfl g2m
                replace g3m := s702_z 3 _ (by decide) rfl g3m
                clear s702_z s703_z
                replace hm_z := rn_aload_n (am_cur_of (i := (109, 1, .aload_n 0, (0, 0, 0), 0)) (by decide +kernel)) g0m hm_z
                replace hm_z := rn_iload_n (am_cur_of (i := (110, 1, .iload_n 3, (0, 0, 0), 0)) (by decide +kernel)) g3m hm_z
                replace hm_z := rn_iload (am_cur_of (i := (111, 2, .iload 4, (0, 0, 0), 0)) (by decide +kernel)) g4m hm_z
                replace hm_z := rn_callV (M' := am_m161) (o := 164) (ar := [.int 20, .int 0]) (rest := []) (L := lv_args 0 [.ref 164, .int 0, .int 20]) (am_cur_of (i := (113, 3, .invokevirtual 197, (161, 1677, 3), 0)) (by decide +kernel)) rfl rfl rfl rfl hm_z
                obtain ⟨r704_z, h705_z, q706_z, hm_z⟩ := hm_z
                have R' : rq T S x3_z p3_z 2 (am_up h681_z 19 1 (.int v3_z)) (am_up h692_z 170 28 (.int v3_z)) := ⟨⟨c1_z, c2_z, c3_z, c4_z, c5_z, c6_z, fun k hk_z => c7_z k hk_z, fun k hk_z => c8_z k hk_z⟩, ⟨m2_z, m3_z, m4_z, m5_z, m6_z, fun k hk_z => m7_z k hk_z, fun k hk_z => m8_z k hk_z⟩, R3, R4, R5, R6, R7, R8, R9, R10⟩
                have A' : rp 2 (am_up h681_z 19 1 (.int v3_z)) (am_up h692_z 170 28 (.int v3_z)) := ⟨⟨a1_z, a2_z, a3_z, a4_z, a5_z, a6_z⟩, ⟨nb1_z, nb2_z, nb3_z⟩, ⟨nt1_z, nt2_z, nt3_z⟩, ⟨nl1_z, nl2_z, nl3_z⟩, ⟨nr1_z, nr2_z, nr3_z⟩, ⟨nk1_z, nk2_z, nk3_z⟩, ⟨fun hb_z => absurd hb_z (by rw [show rg_v (am_up h681_z 19 1 (.int v3_z)) 2 2 = 0 from ecb]; decide), fun hb_z => absurd hb_z (by rw [show rg_v (am_up h681_z 19 1 (.int v3_z)) 2 2 = 0 from ecb]; decide), fun hb_z => absurd hb_z (by rw [show rg_v (am_up h681_z 19 1 (.int v3_z)) 2 2 = 0 from ecb]; decide), fun hb_z => absurd hb_z (by rw [show rg_v (am_up h681_z 19 1 (.int v3_z)) 2 2 = 0 from ecb]; decide)⟩, fun t ht => AD t ht, fun t ht => AE t ht, fun t ht => AG t ht⟩
                have B' : rp_t (am_up h681_z 19 1 (.int v3_z)) (am_up h692_z 170 28 (.int v3_z)) := by
                  obtain ⟨b0_z, b1_z, b2_z, b3_z, b4_z, b5_z, b6_z, t, o0_z, o1_z, o2_z, o3_z, o4_z, o5_z, o6_z⟩ := B
                  exact ⟨b0_z, b1_z, b2_z, b3_z, b4_z, b5_z, b6_z, t, o0_z, o1_z, o2_z, o3_z, o4_z, o5_z, o6_z⟩
                rcases pr_num R' (by decide) (by decide) q696_z q706_z with ⟨v4_z, x4_z, p4_z, rfl, rfl, lo4_z, hi4_z, R, le4_z, got, X, Y, t7_z, t167_z⟩ | ⟨rfl, F⟩
                · replace A := rp_x (by decide) A' X Y
                  replace B := rp_tk B' t7_z t167_z Y
                  clear A' B' R'
                  replace le4_z : x.toInt ≤ p4_z.toInt := Int.le_trans (Int.le_trans le3_z R8) le4_z
                  replace ecb : rg_v h695_z 2 2 = 0 := (rx_v X (o := 2) (k := 2) (by decide)).trans ecb
                  replace ect : rg_v h695_z 2 4 = ct := (rx_v X (o := 2) (k := 4) (by decide)).trans ect
                  replace ecl : rg_v h695_z 2 9 = cl := (rx_v X (o := 2) (k := 9) (by decide)).trans ecl
                  replace ecr : rg_v h695_z 2 12 = cr := (rx_v X (o := 2) (k := 12) (by decide)).trans ecr
                  replace E0 : rg_v h695_z 19 0 = rg_v h705_z 169 4 := (rx_v X (o := 19) (k := 0) (by decide)).trans (E0.trans (rx_w Y (o := 169) (k := 4) (by omega) (by decide)).symm)
                  have E1 : rg_v h695_z 19 1 = rg_v h705_z 170 28 := (rx_v X (o := 19) (k := 1) (by decide)).trans (Eq.trans (rfl) (rx_w Y (o := 170) (k := 28) (by omega) (by decide)).symm)
                  replace hm_z : rn _ _ _ _ [.int 1] _ _ _ := hm_z
                  replace hc_z : rn _ _ _ _ [.int v4_z, .ref 19] _ _ _ := hc_z
                  clear a1_z a2_z a3_z a4_z a5_z a6_z nb1_z nb2_z nb3_z nt1_z nt2_z nt3_z nl1_z nl2_z nl3_z nr1_z nr2_z nr3_z nk1_z nk2_z nk3_z AC0 AC1 AC2 AC3 AD AE AG c1_z c2_z c3_z c4_z c5_z c6_z c7_z c8_z m2_z m3_z m4_z m5_z m6_z m7_z m8_z R3 R4 R5 R6 R7 R8 R9 R10
                  obtain ⟨⟨⟨a1_z, a2_z, a3_z, a4_z, a5_z, a6_z⟩, ⟨nb1_z, nb2_z, nb3_z⟩, ⟨nt1_z, nt2_z, nt3_z⟩, ⟨nl1_z, nl2_z, nl3_z⟩, ⟨nr1_z, nr2_z, nr3_z⟩, ⟨nk1_z, nk2_z, nk3_z⟩, ⟨AC0, AC1, AC2, AC3⟩, AD, AE, AG⟩, ⟨⟨c1_z, c2_z, c3_z, c4_z, c5_z, c6_z, c7_z, c8_z⟩, ⟨m2_z, m3_z, m4_z, m5_z, m6_z, m7_z, m8_z⟩, R3, R4, R5, R6, R7, R8, R9, R10⟩⟩ := (⟨A, R⟩ : rp 2 h695_z h705_z ∧ rq T S x4_z p4_z 2 h695_z h705_z)
                  replace hc_z := rn_put (am_cur_of (i := (91, 3, .putfield 178, (3, 2, 208), 0)) (by decide +kernel)) (by decide +kernel) hc_z
                  replace hc_z := rn_aload_n (am_cur_of (i := (94, 1, .aload_n 1, (0, 0, 0), 0)) (by decide +kernel)) g1_z hc_z
                  replace hc_z := rn_aload_n (am_cur_of (i := (95, 1, .aload_n 0, (0, 0, 0), 0)) (by decide +kernel)) g0_z hc_z
                  replace hc_z := rn_iconst (w := 1) (am_cur_of (i := (96, 1, .iconst 1, (0, 0, 0), 0)) (by decide +kernel)) (by decide) hc_z
                  replace hc_z := rn_bipush (w := 20) (am_cur_of (i := (97, 2, .bipush 20, (0, 0, 0), 0)) (by decide +kernel)) (by decide) hc_z
                  replace hc_z := rn_callV (M' := am_m30) (o := 44) (ar := [.int 20, .int 1]) (rest := [.ref 19]) (L := lv_args 0 [.ref 44, .int 1, .int 20]) (am_cur_of (i := (99, 3, .invokevirtual 142, (30, 773, 3), 0)) (by decide +kernel)) rfl rfl rfl rfl hc_z
                  obtain ⟨r707_z, h708_z, q709_z, hc_z⟩ := hc_z
                  replace hm_z := rn_ifT (am_cur_of (i := (116, 3, .ifCond .ne 5, (69, 0, 0), 0)) (by decide +kernel)) (by decide) hm_z
                  replace hm_z := rn_aload_n (am_cur_of (i := (121, 1, .aload_n 0, (0, 0, 0), 0)) (by decide +kernel)) g0m hm_z
                  replace hm_z := rn_getR (x := 170) (am_cur_of (i := (122, 3, .getfield 30, (12, 25, 1409), 0)) (by decide +kernel)) (by decide +kernel) hm_z
                  replace hm_z := rn_iload_n (am_cur_of (i := (125, 1, .iload_n 1, (0, 0, 0), 0)) (by decide +kernel)) g1m hm_z
                  replace hm_z := rn_iload_n (am_cur_of (i := (126, 1, .iload_n 2, (0, 0, 0), 0)) (by decide +kernel)) g2m hm_z
                  replace hm_z := rn_iadd (w := 29) (am_cur_of (i := (127, 1, .iadd, (0, 0, 0), 0)) (by decide +kernel)) (by decide) hm_z
                  replace hm_z := rn_aload_n (am_cur_of (i := (128, 1, .aload_n 0, (0, 0, 0), 0)) (by decide +kernel)) g0m hm_z
                  replace hm_z := rn_getI (v := v4_z) (am_cur_of (i := (129, 3, .getfield 188, (12, 11, 1395), 0)) (by decide +kernel)) (by decide +kernel) got hm_z
                  replace hm_z := rn_iastore (N := 56) (q := 29) (am_cur_of (i := (132, 1, .iastore, (0, 0, 0), 0)) (by decide +kernel)) (by decide +kernel) rfl hm_z
                  obtain ⟨p710_z, hm_z⟩ := hm_z
                  replace hm_z := rn_iinc (w := 2) (am_cur_of (i := (133, 3, .iinc 2 1, (0, 0, 0), 0)) (by decide +kernel)) g2m (by decide) hm_z
                  obtain ⟨_, s711_z, s712_z, g2m, hm_z⟩ := hm_z
                  replace g0m := s711_z 0 _ (by decide) rfl g0m
                  replace g1m := s711_z 1 _ (by decide) rfl g1m
                  replace g3m := s711_z 3 _ (by decide) rfl g3m
                  replace g4m := s711_z 4 _ (by decide) rfl g4m
                  clear s711_z s712_z
                  replace hm_z := rn_goto (am_cur_of (i := (136, 3, .goto (-87), (29, 0, 0), 0)) (by decide +kernel)) hm_z
                  replace hm_z := rn_iload_n (am_cur_of (i := (49, 1, .iload_n 2, (0, 0, 0), 0)) (by decide +kernel)) g2m hm_z
                  replace hm_z := rn_bipush (w := 7) (am_cur_of (i := (50, 2, .bipush 7, (0, 0, 0), 0)) (by decide +kernel)) (by decide) hm_z
                  replace hm_z := rn_cmpF (am_cur_of (i := (52, 3, .if_icmp .ge 87, (79, 0, 0), 0)) (by decide +kernel)) (by decide) hm_z
                  replace hm_z := rn_iload_n (am_cur_of (i := (55, 1, .iload_n 2, (0, 0, 0), 0)) (by decide +kernel)) g2m hm_z
                  replace hm_z := rn_ifF (am_cur_of (i := (56, 3, .ifCond .eq 13, (40, 0, 0), 0)) (by decide +kernel)) (by decide) hm_z
                  replace hm_z := rn_iload_n (am_cur_of (i := (59, 1, .iload_n 2, (0, 0, 0), 0)) (by decide +kernel)) g2m hm_z
                  replace hm_z := rn_iconst (w := 2) (am_cur_of (i := (60, 1, .iconst 2, (0, 0, 0), 0)) (by decide +kernel)) (by decide) hm_z
                  replace hm_z := rn_cmpT (am_cur_of (i := (61, 3, .if_icmp .eq 8, (40, 0, 0), 0)) (by decide +kernel)) (by decide) hm_z
                  replace hm_z := rn_iconst (w := 1) (am_cur_of (i := (69, 1, .iconst 1, (0, 0, 0), 0)) (by decide +kernel)) (by decide) hm_z
                  replace hm_z := rn_goto (am_cur_of (i := (70, 3, .goto 4, (43, 0, 0), 0)) (by decide +kernel)) hm_z
                  replace hm_z := rn_istore_n (am_cur_of (i := (74, 1, .istore_n 3, (0, 0, 0), 0)) (by decide +kernel)) hm_z
                  obtain ⟨_, s713_z, s714_z, g3m, hm_z⟩ := hm_z
                  replace g0m := s713_z 0 _ (by decide) rfl g0m
                  replace g1m := s713_z 1 _ (by decide) rfl g1m
                  replace g2m := s713_z 2 _ (by decide) rfl g2m
                  replace g4m := s713_z 4 _ (by decide) rfl g4m
                  clear s713_z s714_z
                  replace hm_z := rn_iload_n (am_cur_of (i := (75, 1, .iload_n 2, (0, 0, 0), 0)) (by decide +kernel)) g2m hm_z
                  replace hm_z := rn_iconst (w := 1) (am_cur_of (i := (76, 1, .iconst 1, (0, 0, 0), 0)) (by decide +kernel)) (by decide) hm_z
                  replace hm_z := rn_cmpF (am_cur_of (i := (77, 3, .if_icmp .eq 8, (50, 0, 0), 0)) (by decide +kernel)) (by decide) hm_z
                  replace hm_z := rn_iload_n (am_cur_of (i := (80, 1, .iload_n 2, (0, 0, 0), 0)) (by decide +kernel)) g2m hm_z
                  replace hm_z := rn_iconst (w := 2) (am_cur_of (i := (81, 1, .iconst 2, (0, 0, 0), 0)) (by decide +kernel)) (by decide) hm_z
                  replace hm_z := rn_cmpF (am_cur_of (i := (82, 3, .if_icmp .ne 8, (52, 0, 0), 0)) (by decide +kernel)) (by decide) hm_z
                  replace hm_z := rn_bipush (w := 20) (am_cur_of (i := (85, 2, .bipush 20, (0, 0, 0), 0)) (by decide +kernel)) (by decide) hm_z
                  replace hm_z := rn_goto (am_cur_of (i := (87, 3, .goto 20, (61, 0, 0), 0)) (by decide +kernel)) hm_z
                  replace hm_z := rn_istore (am_cur_of (i := (107, 2, .istore 4, (0, 0, 0), 0)) (by decide +kernel)) hm_z
                  obtain ⟨_, s715_z, s716_z, g4m, hm_z⟩ := hm_z
                  replace g0m := s715_z 0 _ (by decide) rfl g0m
                  replace g1m := s715_z 1 _ (by decide) rfl g1m
                  replace g2m := s715_z 2 _ (by decide) rfl g2m
                  replace g3m := s715_z 3 _ (by decide) rfl g3m
                  clear s715_z s716_z
                  replace hm_z := rn_aload_n (am_cur_of (i := (109, 1, .aload_n 0, (0, 0, 0), 0)) (by decide +kernel)) g0m hm_z
                  replace hm_z := rn_iload_n (am_cur_of (i := (110, 1, .iload_n 3, (0, 0, 0), 0)) (by decide +kernel)) g3m hm_z
                  replace hm_z := rn_iload (am_cur_of (i := (111, 2, .iload 4, (0, 0, 0), 0)) (by decide +kernel)) g4m hm_z
                  replace hm_z := rn_callV (M' := am_m161) (o := 164) (ar := [.int 20, .int 1]) (rest := []) (L := lv_args 0 [.ref 164, .int 1, .int 20]) (am_cur_of (i := (113, 3, .invokevirtual 197, (161, 1677, 3), 0)) (by decide +kernel)) rfl rfl rfl rfl hm_z
                  obtain ⟨r717_z, h718_z, q719_z, hm_z⟩ := hm_z
                  have R' : rq T S x4_z p4_z 2 (am_up h695_z 19 2 (.int v4_z)) (am_up h705_z 170 29 (.int v4_z)) := ⟨⟨c1_z, c2_z, c3_z, c4_z, c5_z, c6_z, fun k hk_z => c7_z k hk_z, fun k hk_z => c8_z k hk_z⟩, ⟨m2_z, m3_z, m4_z, m5_z, m6_z, fun k hk_z => m7_z k hk_z, fun k hk_z => m8_z k hk_z⟩, R3, R4, R5, R6, R7, R8, R9, R10⟩
                  have A' : rp 2 (am_up h695_z 19 2 (.int v4_z)) (am_up h705_z 170 29 (.int v4_z)) := ⟨⟨a1_z, a2_z, a3_z, a4_z, a5_z, a6_z⟩, ⟨nb1_z, nb2_z, nb3_z⟩, ⟨nt1_z, nt2_z, nt3_z⟩, ⟨nl1_z, nl2_z, nl3_z⟩, ⟨nr1_z, nr2_z, nr3_z⟩, ⟨nk1_z, nk2_z, nk3_z⟩, ⟨fun hb_z => absurd hb_z (by rw [show rg_v (am_up h695_z 19 2 (.int v4_z)) 2 2 = 0 from ecb]; decide), fun hb_z => absurd hb_z (by rw [show rg_v (am_up h695_z 19 2 (.int v4_z)) 2 2 = 0 from ecb]; decide), fun hb_z => absurd hb_z (by rw [show rg_v (am_up h695_z 19 2 (.int v4_z)) 2 2 = 0 from ecb]; decide), fun hb_z => absurd hb_z (by rw [show rg_v (am_up h695_z 19 2 (.int v4_z)) 2 2 = 0 from ecb]; decide)⟩, fun t ht => AD t ht, fun t ht => AE t ht, fun t ht => AG t ht⟩
                  have B' : rp_t (am_up h695_z 19 2 (.int v4_z)) (am_up h705_z 170 29 (.int v4_z)) := by
                    obtain ⟨b0_z, b1_z, b2_z, b3_z, b4_z, b5_z, b6_z, t, o0_z, o1_z, o2_z, o3_z, o4_z, o5_z, o6_z⟩ := B
                    exact ⟨b0_z, b1_z, b2_z, b3_z, b4_z, b5_z, b6_z, t, o0_z, o1_z, o2_z, o3_z, o4_z, o5_z, o6_z⟩
                  rcases pr_num R' (by decide) (by decide) q709_z q719_z with ⟨v5_z, x5_z, p5_z, rfl, rfl, lo5_z, hi5_z, R, le5_z, got, X, Y, t7_z, t167_z⟩ | ⟨rfl, F⟩
                  · replace A := rp_x (by decide) A' X Y
                    replace B := rp_tk B' t7_z t167_z Y
                    clear A' B' R'
                    replace le5_z : x.toInt ≤ p5_z.toInt := Int.le_trans (Int.le_trans le4_z R8) le5_z
                    replace ecb : rg_v h708_z 2 2 = 0 := (rx_v X (o := 2) (k := 2) (by decide)).trans ecb
                    replace ect : rg_v h708_z 2 4 = ct := (rx_v X (o := 2) (k := 4) (by decide)).trans ect
                    replace ecl : rg_v h708_z 2 9 = cl := (rx_v X (o := 2) (k := 9) (by decide)).trans ecl
                    replace ecr : rg_v h708_z 2 12 = cr := (rx_v X (o := 2) (k := 12) (by decide)).trans ecr
                    replace E0 : rg_v h708_z 19 0 = rg_v h718_z 169 4 := (rx_v X (o := 19) (k := 0) (by decide)).trans (E0.trans (rx_w Y (o := 169) (k := 4) (by omega) (by decide)).symm)
                    replace E1 : rg_v h708_z 19 1 = rg_v h718_z 170 28 := (rx_v X (o := 19) (k := 1) (by decide)).trans (E1.trans (rx_w Y (o := 170) (k := 28) (by omega) (by decide)).symm)
                    have E2 : rg_v h708_z 19 2 = rg_v h718_z 170 29 := (rx_v X (o := 19) (k := 2) (by decide)).trans (Eq.trans (rfl) (rx_w Y (o := 170) (k := 29) (by omega) (by decide)).symm)
                    replace hm_z : rn _ _ _ _ [.int 1] _ _ _ := hm_z
                    replace hc_z : rn _ _ _ _ [.int v5_z, .ref 19] _ _ _ := hc_z
                    clear a1_z a2_z a3_z a4_z a5_z a6_z nb1_z nb2_z nb3_z nt1_z nt2_z nt3_z nl1_z nl2_z nl3_z nr1_z nr2_z nr3_z nk1_z nk2_z nk3_z AC0 AC1 AC2 AC3 AD AE AG c1_z c2_z c3_z c4_z c5_z c6_z c7_z c8_z m2_z m3_z m4_z m5_z m6_z m7_z m8_z R3 R4 R5 R6 R7 R8 R9 R10
                    obtain ⟨⟨⟨a1_z, a2_z, a3_z, a4_z, a5_z, a6_z⟩, ⟨nb1_z, nb2_z, nb3_z⟩, ⟨nt1_z, nt2_z, nt3_z⟩, ⟨nl1_z, nl2_z, nl3_z⟩, ⟨nr1_z, nr2_z, nr3_z⟩, ⟨nk1_z, nk2_z, nk3_z⟩, ⟨AC0, AC1, AC2, AC3⟩, AD, AE, AG⟩, ⟨⟨c1_z, c2_z, c3_z, c4_z, c5_z, c6_z, c7_z, c8_z⟩, ⟨m2_z, m3_z, m4_z, m5_z, m6_z, m7_z, m8_z⟩, R3, R4, R5, R6, R7, R8, R9, R10⟩⟩ := (⟨A, R⟩ : rp 2 h708_z h718_z ∧ rq T S x5_z p5_z 2 h708_z h718_z)
                    replace hc_z := rn_put (am_cur_of (i := (102, 3, .putfield 181, (3, 3, 211), 0)) (by decide +kernel)) (by decide +kernel) hc_z
                    replace hc_z := rn_aload_n (am_cur_of (i := (105, 1, .aload_n 1, (0, 0, 0), 0)) (by decide +kernel)) g1_z hc_z
                    replace hc_z := rn_aload_n (am_cur_of (i := (106, 1, .aload_n 0, (0, 0, 0), 0)) (by decide +kernel)) g0_z hc_z
                    replace hc_z := rn_iconst (w := 1) (am_cur_of (i := (107, 1, .iconst 1, (0, 0, 0), 0)) (by decide +kernel)) (by decide) hc_z
                    replace hc_z := rn_bipush (w := 9) (am_cur_of (i := (108, 2, .bipush 9, (0, 0, 0), 0)) (by decide +kernel)) (by decide) hc_z
                    replace hc_z := rn_callV (M' := am_m30) (o := 44) (ar := [.int 9, .int 1]) (rest := [.ref 19]) (L := lv_args 0 [.ref 44, .int 1, .int 9]) (am_cur_of (i := (110, 3, .invokevirtual 142, (30, 773, 3), 0)) (by decide +kernel)) rfl rfl rfl rfl hc_z
                    obtain ⟨r720_z, h721_z, q722_z, hc_z⟩ := hc_z
                    replace hm_z := rn_ifT (am_cur_of (i := (116, 3, .ifCond .ne 5, (69, 0, 0), 0)) (by decide +kernel)) (by decide) hm_z
                    replace hm_z := rn_aload_n (am_cur_of (i := (121, 1, .aload_n 0, (0, 0, 0), 0)) (by decide +kernel)) g0m hm_z
                    replace hm_z := rn_getR (x := 170) (am_cur_of (i := (122, 3, .getfield 30, (12, 25, 1409), 0)) (by decide +kernel)) (by decide +kernel) hm_z
                    replace hm_z := rn_iload_n (am_cur_of (i := (125, 1, .iload_n 1, (0, 0, 0), 0)) (by decide +kernel)) g1m hm_z
                    replace hm_z := rn_iload_n (am_cur_of (i := (126, 1, .iload_n 2, (0, 0, 0), 0)) (by decide +kernel)) g2m hm_z
                    replace hm_z := rn_iadd (w := 30) (am_cur_of (i := (127, 1, .iadd, (0, 0, 0), 0)) (by decide +kernel)) (by decide) hm_z
                    replace hm_z := rn_aload_n (am_cur_of (i := (128, 1, .aload_n 0, (0, 0, 0), 0)) (by decide +kernel)) g0m hm_z
                    replace hm_z := rn_getI (v := v5_z) (am_cur_of (i := (129, 3, .getfield 188, (12, 11, 1395), 0)) (by decide +kernel)) (by decide +kernel) got hm_z
                    replace hm_z := rn_iastore (N := 56) (q := 30) (am_cur_of (i := (132, 1, .iastore, (0, 0, 0), 0)) (by decide +kernel)) (by decide +kernel) rfl hm_z
                    obtain ⟨p723_z, hm_z⟩ := hm_z
                    replace hm_z := rn_iinc (w := 3) (am_cur_of (i := (133, 3, .iinc 2 1, (0, 0, 0), 0)) (by decide +kernel)) g2m (by decide) hm_z
                    obtain ⟨_, s724_z, s725_z, g2m, hm_z⟩ := hm_z
                    replace g0m := s724_z 0 _ (by decide) rfl g0m
                    replace g1m := s724_z 1 _ (by decide) rfl g1m
                    replace g3m := s724_z 3 _ (by decide) rfl g3m
                    replace g4m := s724_z 4 _ (by decide) rfl g4m
                    clear s724_z s725_z
                    replace hm_z := rn_goto (am_cur_of (i := (136, 3, .goto (-87), (29, 0, 0), 0)) (by decide +kernel)) hm_z
                    replace hm_z := rn_iload_n (am_cur_of (i := (49, 1, .iload_n 2, (0, 0, 0), 0)) (by decide +kernel)) g2m hm_z
                    replace hm_z := rn_bipush (w := 7) (am_cur_of (i := (50, 2, .bipush 7, (0, 0, 0), 0)) (by decide +kernel)) (by decide) hm_z
                    replace hm_z := rn_cmpF (am_cur_of (i := (52, 3, .if_icmp .ge 87, (79, 0, 0), 0)) (by decide +kernel)) (by decide) hm_z
                    replace hm_z := rn_iload_n (am_cur_of (i := (55, 1, .iload_n 2, (0, 0, 0), 0)) (by decide +kernel)) g2m hm_z
                    replace hm_z := rn_ifF (am_cur_of (i := (56, 3, .ifCond .eq 13, (40, 0, 0), 0)) (by decide +kernel)) (by decide) hm_z
                    replace hm_z := rn_iload_n (am_cur_of (i := (59, 1, .iload_n 2, (0, 0, 0), 0)) (by decide +kernel)) g2m hm_z
                    replace hm_z := rn_iconst (w := 2) (am_cur_of (i := (60, 1, .iconst 2, (0, 0, 0), 0)) (by decide +kernel)) (by decide) hm_z
                    replace hm_z := rn_cmpF (am_cur_of (i := (61, 3, .if_icmp .eq 8, (40, 0, 0), 0)) (by decide +kernel)) (by decide) hm_z
                    replace hm_z := rn_iload_n (am_cur_of (i := (64, 1, .iload_n 2, (0, 0, 0), 0)) (by decide +kernel)) g2m hm_z
                    replace hm_z := rn_iconst (w := 3) (am_cur_of (i := (65, 1, .iconst 3, (0, 0, 0), 0)) (by decide +kernel)) (by decide) hm_z
                    replace hm_z := rn_cmpF (am_cur_of (i := (66, 3, .if_icmp .ne 7, (42, 0, 0), 0)) (by decide +kernel)) (by decide) hm_z
                    replace hm_z := rn_iconst (w := 1) (am_cur_of (i := (69, 1, .iconst 1, (0, 0, 0), 0)) (by decide +kernel)) (by decide) hm_z
                    replace hm_z := rn_goto (am_cur_of (i := (70, 3, .goto 4, (43, 0, 0), 0)) (by decide +kernel)) hm_z
                    replace hm_z := rn_istore_n (am_cur_of (i := (74, 1, .istore_n 3, (0, 0, 0), 0)) (by decide +kernel)) hm_z
                    obtain ⟨_, s726_z, s727_z, g3m, hm_z⟩ := hm_z
                    replace g0m := s726_z 0 _ (by decide) rfl g0m
                    replace g1m := s726_z 1 _ (by decide) rfl g1m
                    replace g2m := s726_z 2 _ (by decide) rfl g2m
                    replace g4m := s726_z 4 _ (by decide) rfl g4m
                    clear s726_z s727_z
                    replace hm_z := rn_iload_n (am_cur_of (i := (75, 1, .iload_n 2, (0, 0, 0), 0)) (by decide +kernel)) g2m hm_z
                    replace hm_z := rn_iconst (w := 1) (am_cur_of (i := (76, 1, .iconst 1, (0, 0, 0), 0)) (by decide +kernel)) (by decide) hm_z
                    replace hm_z := rn_cmpF (am_cur_of (i := (77, 3, .if_icmp .eq 8, (50, 0, 0), 0)) (by decide +kernel)) (by decide) hm_z
                    replace hm_z := rn_iload_n (am_cur_of (i := (80, 1, .iload_n 2, (0, 0, 0), 0)) (by decide +kernel)) g2m hm_z
                    replace hm_z := rn_iconst (w := 2) (am_cur_of (i := (81, 1, .iconst 2, (0, 0, 0), 0)) (by decide +kernel)) (by decide) hm_z
                    replace hm_z := rn_cmpT (am_cur_of (i := (82, 3, .if_icmp .ne 8, (52, 0, 0), 0)) (by decide +kernel)) (by decide) hm_z
                    replace hm_z := rn_iload_n (am_cur_of (i := (90, 1, .iload_n 2, (0, 0, 0), 0)) (by decide +kernel)) g2m hm_z
                    replace hm_z := rn_iconst (w := 3) (am_cur_of (i := (91, 1, .iconst 3, (0, 0, 0), 0)) (by decide +kernel)) (by decide) hm_z
                    replace hm_z := rn_cmpT (am_cur_of (i := (92, 3, .if_icmp .eq 8, (58, 0, 0), 0)) (by decide +kernel)) (by decide) hm_z
                    replace hm_z := rn_bipush (w := 9) (am_cur_of (i := (100, 2, .bipush 9, (0, 0, 0), 0)) (by decide +kernel)) (by decide) hm_z
                    replace hm_z := rn_goto (am_cur_of (i := (102, 3, .goto 5, (61, 0, 0), 0)) (by decide +kernel)) hm_z
                    replace hm_z := rn_istore (am_cur_of (i := (107, 2, .istore 4, (0, 0, 0), 0)) (by decide +kernel)) hm_z
                    obtain ⟨_, s728_z, s729_z, g4m, hm_z⟩ := hm_z
                    replace g0m := s728_z 0 _ (by decide) rfl g0m
                    replace g1m := s728_z 1 _ (by decide) rfl g1m
                    replace g2m := s728_z 2 _ (by decide) rfl g2m
                    replace g3m := s728_z 3 _ (by decide) rfl g3m
                    clear s728_z s729_z
                    replace hm_z := rn_aload_n (am_cur_of (i := (109, 1, .aload_n 0, (0, 0, 0), 0)) (by decide +kernel)) g0m hm_z
                    replace hm_z := rn_iload_n (am_cur_of (i := (110, 1, .iload_n 3, (0, 0, 0), 0)) (by decide +kernel)) g3m hm_z
                    replace hm_z := rn_iload (am_cur_of (i := (111, 2, .iload 4, (0, 0, 0), 0)) (by decide +kernel)) g4m hm_z
                    replace hm_z := rn_callV (M' := am_m161) (o := 164) (ar := [.int 9, .int 1]) (rest := []) (L := lv_args 0 [.ref 164, .int 1, .int 9]) (am_cur_of (i := (113, 3, .invokevirtual 197, (161, 1677, 3), 0)) (by decide +kernel)) rfl rfl rfl rfl hm_z
                    obtain ⟨r730_z, h731_z, q732_z, hm_z⟩ := hm_z
                    have R' : rq T S x5_z p5_z 2 (am_up h708_z 19 3 (.int v5_z)) (am_up h718_z 170 30 (.int v5_z)) := ⟨⟨c1_z, c2_z, c3_z, c4_z, c5_z, c6_z, fun k hk_z => c7_z k hk_z, fun k hk_z => c8_z k hk_z⟩, ⟨m2_z, m3_z, m4_z, m5_z, m6_z, fun k hk_z => m7_z k hk_z, fun k hk_z => m8_z k hk_z⟩, R3, R4, R5, R6, R7, R8, R9, R10⟩
                    have A' : rp 2 (am_up h708_z 19 3 (.int v5_z)) (am_up h718_z 170 30 (.int v5_z)) := ⟨⟨a1_z, a2_z, a3_z, a4_z, a5_z, a6_z⟩, ⟨nb1_z, nb2_z, nb3_z⟩, ⟨nt1_z, nt2_z, nt3_z⟩, ⟨nl1_z, nl2_z, nl3_z⟩, ⟨nr1_z, nr2_z, nr3_z⟩, ⟨nk1_z, nk2_z, nk3_z⟩, ⟨fun hb_z => absurd hb_z (by rw [show rg_v (am_up h708_z 19 3 (.int v5_z)) 2 2 = 0 from ecb]; decide), fun hb_z => absurd hb_z (by rw [show rg_v (am_up h708_z 19 3 (.int v5_z)) 2 2 = 0 from ecb]; decide), fun hb_z => absurd hb_z (by rw [show rg_v (am_up h708_z 19 3 (.int v5_z)) 2 2 = 0 from ecb]; decide), fun hb_z => absurd hb_z (by rw [show rg_v (am_up h708_z 19 3 (.int v5_z)) 2 2 = 0 from ecb]; decide)⟩, fun t ht => AD t ht, fun t ht => AE t ht, fun t ht => AG t ht⟩
                    have B' : rp_t (am_up h708_z 19 3 (.int v5_z)) (am_up h718_z 170 30 (.int v5_z)) := by
                      obtain ⟨b0_z, b1_z, b2_z, b3_z, b4_z, b5_z, b6_z, t, o0_z, o1_z, o2_z, o3_z, o4_z, o5_z, o6_z⟩ := B
                      exact ⟨b0_z, b1_z, b2_z, b3_z, b4_z, b5_z, b6_z, t, o0_z, o1_z, o2_z, o3_z, o4_z, o5_z, o6_z⟩
                    rcases pr_num R' (by decide) (by decide) q722_z q732_z with ⟨v6_z, x6_z, p6_z, rfl, rfl, lo6_z, hi6_z, R, le6_z, got, X, Y, t7_z, t167_z⟩ | ⟨rfl, F⟩
                    · replace A := rp_x (by decide) A' X Y
                      replace B := rp_tk B' t7_z t167_z Y
                      clear A' B' R'
                      replace le6_z : x.toInt ≤ p6_z.toInt := Int.le_trans (Int.le_trans le5_z R8) le6_z
                      replace ecb : rg_v h721_z 2 2 = 0 := (rx_v X (o := 2) (k := 2) (by decide)).trans ecb
                      replace ect : rg_v h721_z 2 4 = ct := (rx_v X (o := 2) (k := 4) (by decide)).trans ect
                      replace ecl : rg_v h721_z 2 9 = cl := (rx_v X (o := 2) (k := 9) (by decide)).trans ecl
                      replace ecr : rg_v h721_z 2 12 = cr := (rx_v X (o := 2) (k := 12) (by decide)).trans ecr
                      replace E0 : rg_v h721_z 19 0 = rg_v h731_z 169 4 := (rx_v X (o := 19) (k := 0) (by decide)).trans (E0.trans (rx_w Y (o := 169) (k := 4) (by omega) (by decide)).symm)
                      replace E1 : rg_v h721_z 19 1 = rg_v h731_z 170 28 := (rx_v X (o := 19) (k := 1) (by decide)).trans (E1.trans (rx_w Y (o := 170) (k := 28) (by omega) (by decide)).symm)
                      replace E2 : rg_v h721_z 19 2 = rg_v h731_z 170 29 := (rx_v X (o := 19) (k := 2) (by decide)).trans (E2.trans (rx_w Y (o := 170) (k := 29) (by omega) (by decide)).symm)
                      have E3 : rg_v h721_z 19 3 = rg_v h731_z 170 30 := (rx_v X (o := 19) (k := 3) (by decide)).trans (Eq.trans (rfl) (rx_w Y (o := 170) (k := 30) (by omega) (by decide)).symm)
                      replace hm_z : rn _ _ _ _ [.int 1] _ _ _ := hm_z
                      replace hc_z : rn _ _ _ _ [.int v6_z, .ref 19] _ _ _ := hc_z
                      clear a1_z a2_z a3_z a4_z a5_z a6_z nb1_z nb2_z nb3_z nt1_z nt2_z nt3_z nl1_z nl2_z nl3_z nr1_z nr2_z nr3_z nk1_z nk2_z nk3_z AC0 AC1 AC2 AC3 AD AE AG c1_z c2_z c3_z c4_z c5_z c6_z c7_z c8_z m2_z m3_z m4_z m5_z m6_z m7_z m8_z R3 R4 R5 R6 R7 R8 R9 R10
                      obtain ⟨⟨⟨a1_z, a2_z, a3_z, a4_z, a5_z, a6_z⟩, ⟨nb1_z, nb2_z, nb3_z⟩, ⟨nt1_z, nt2_z, nt3_z⟩, ⟨nl1_z, nl2_z, nl3_z⟩, ⟨nr1_z, nr2_z, nr3_z⟩, ⟨nk1_z, nk2_z, nk3_z⟩, ⟨AC0, AC1, AC2, AC3⟩, AD, AE, AG⟩, ⟨⟨c1_z, c2_z, c3_z, c4_z, c5_z, c6_z, c7_z, c8_z⟩, ⟨m2_z, m3_z, m4_z, m5_z, m6_z, m7_z, m8_z⟩, R3, R4, R5, R6, R7, R8, R9, R10⟩⟩ := (⟨A, R⟩ : rp 2 h721_z h731_z ∧ rq T S x6_z p6_z 2 h721_z h731_z)
                      replace hc_z := rn_put (am_cur_of (i := (113, 3, .putfield 184, (3, 4, 216), 0)) (by decide +kernel)) (by decide +kernel) hc_z
                      replace hc_z := rn_aload_n (am_cur_of (i := (116, 1, .aload_n 1, (0, 0, 0), 0)) (by decide +kernel)) g1_z hc_z
                      replace hc_z := rn_aload_n (am_cur_of (i := (117, 1, .aload_n 0, (0, 0, 0), 0)) (by decide +kernel)) g0_z hc_z
                      replace hc_z := rn_iconst (w := 0) (am_cur_of (i := (118, 1, .iconst 0, (0, 0, 0), 0)) (by decide +kernel)) (by decide) hc_z
                      replace hc_z := rn_bipush (w := 99) (am_cur_of (i := (119, 2, .bipush 99, (0, 0, 0), 0)) (by decide +kernel)) (by decide) hc_z
                      replace hc_z := rn_callV (M' := am_m30) (o := 44) (ar := [.int 99, .int 0]) (rest := [.ref 19]) (L := lv_args 0 [.ref 44, .int 0, .int 99]) (am_cur_of (i := (121, 3, .invokevirtual 142, (30, 773, 3), 0)) (by decide +kernel)) rfl rfl rfl rfl hc_z
                      obtain ⟨r733_z, h734_z, q735_z, hc_z⟩ := hc_z
                      replace hm_z := rn_ifT (am_cur_of (i := (116, 3, .ifCond .ne 5, (69, 0, 0), 0)) (by decide +kernel)) (by decide) hm_z
                      replace hm_z := rn_aload_n (am_cur_of (i := (121, 1, .aload_n 0, (0, 0, 0), 0)) (by decide +kernel)) g0m hm_z
                      replace hm_z := rn_getR (x := 170) (am_cur_of (i := (122, 3, .getfield 30, (12, 25, 1409), 0)) (by decide +kernel)) (by decide +kernel) hm_z
                      replace hm_z := rn_iload_n (am_cur_of (i := (125, 1, .iload_n 1, (0, 0, 0), 0)) (by decide +kernel)) g1m hm_z
                      replace hm_z := rn_iload_n (am_cur_of (i := (126, 1, .iload_n 2, (0, 0, 0), 0)) (by decide +kernel)) g2m hm_z
                      replace hm_z := rn_iadd (w := 31) (am_cur_of (i := (127, 1, .iadd, (0, 0, 0), 0)) (by decide +kernel)) (by decide) hm_z
                      replace hm_z := rn_aload_n (am_cur_of (i := (128, 1, .aload_n 0, (0, 0, 0), 0)) (by decide +kernel)) g0m hm_z
                      replace hm_z := rn_getI (v := v6_z) (am_cur_of (i := (129, 3, .getfield 188, (12, 11, 1395), 0)) (by decide +kernel)) (by decide +kernel) got hm_z
                      replace hm_z := rn_iastore (N := 56) (q := 31) (am_cur_of (i := (132, 1, .iastore, (0, 0, 0), 0)) (by decide +kernel)) (by decide +kernel) rfl hm_z
                      obtain ⟨p736_z, hm_z⟩ := hm_z
                      replace hm_z := rn_iinc (w := 4) (am_cur_of (i := (133, 3, .iinc 2 1, (0, 0, 0), 0)) (by decide +kernel)) g2m (by decide) hm_z
                      obtain ⟨_, s737_z, s738_z, g2m, hm_z⟩ := hm_z
                      replace g0m := s737_z 0 _ (by decide) rfl g0m
                      replace g1m := s737_z 1 _ (by decide) rfl g1m
                      replace g3m := s737_z 3 _ (by decide) rfl g3m
                      replace g4m := s737_z 4 _ (by decide) rfl g4m
                      clear s737_z s738_z
                      replace hm_z := rn_goto (am_cur_of (i := (136, 3, .goto (-87), (29, 0, 0), 0)) (by decide +kernel)) hm_z
                      replace hm_z := rn_iload_n (am_cur_of (i := (49, 1, .iload_n 2, (0, 0, 0), 0)) (by decide +kernel)) g2m hm_z
                      replace hm_z := rn_bipush (w := 7) (am_cur_of (i := (50, 2, .bipush 7, (0, 0, 0), 0)) (by decide +kernel)) (by decide) hm_z
                      replace hm_z := rn_cmpF (am_cur_of (i := (52, 3, .if_icmp .ge 87, (79, 0, 0), 0)) (by decide +kernel)) (by decide) hm_z
                      replace hm_z := rn_iload_n (am_cur_of (i := (55, 1, .iload_n 2, (0, 0, 0), 0)) (by decide +kernel)) g2m hm_z
                      replace hm_z := rn_ifF (am_cur_of (i := (56, 3, .ifCond .eq 13, (40, 0, 0), 0)) (by decide +kernel)) (by decide) hm_z
                      replace hm_z := rn_iload_n (am_cur_of (i := (59, 1, .iload_n 2, (0, 0, 0), 0)) (by decide +kernel)) g2m hm_z
                      replace hm_z := rn_iconst (w := 2) (am_cur_of (i := (60, 1, .iconst 2, (0, 0, 0), 0)) (by decide +kernel)) (by decide) hm_z
                      replace hm_z := rn_cmpF (am_cur_of (i := (61, 3, .if_icmp .eq 8, (40, 0, 0), 0)) (by decide +kernel)) (by decide) hm_z
                      replace hm_z := rn_iload_n (am_cur_of (i := (64, 1, .iload_n 2, (0, 0, 0), 0)) (by decide +kernel)) g2m hm_z
                      replace hm_z := rn_iconst (w := 3) (am_cur_of (i := (65, 1, .iconst 3, (0, 0, 0), 0)) (by decide +kernel)) (by decide) hm_z
                      replace hm_z := rn_cmpT (am_cur_of (i := (66, 3, .if_icmp .ne 7, (42, 0, 0), 0)) (by decide +kernel)) (by decide) hm_z
                      replace hm_z := rn_iconst (w := 0) (am_cur_of (i := (73, 1, .iconst 0, (0, 0, 0), 0)) (by decide +kernel)) (by decide) hm_z
                      replace hm_z := rn_istore_n (am_cur_of (i := (74, 1, .istore_n 3, (0, 0, 0), 0)) (by decide +kernel)) hm_z
                      obtain ⟨_, s739_z, s740_z, g3m, hm_z⟩ := hm_z
                      replace g0m := s739_z 0 _ (by decide) rfl g0m
                      replace g1m := s739_z 1 _ (by decide) rfl g1m
                      replace g2m := s739_z 2 _ (by decide) rfl g2m
                      replace g4m := s739_z 4 _ (by decide) rfl g4m
                      clear s739_z s740_z
                      replace hm_z := rn_iload_n (am_cur_of (i := (75, 1, .iload_n 2, (0, 0, 0), 0)) (by decide +kernel)) g2m hm_z
                      replace hm_z := rn_iconst (w := 1) (am_cur_of (i := (76, 1, .iconst 1, (0, 0, 0), 0)) (by decide +kernel)) (by decide) hm_z
                      replace hm_z := rn_cmpF (am_cur_of (i := (77, 3, .if_icmp .eq 8, (50, 0, 0), 0)) (by decide +kernel)) (by decide) hm_z
                      replace hm_z := rn_iload_n (am_cur_of (i := (80, 1, .iload_n 2, (0, 0, 0), 0)) (by decide +kernel)) g2m hm_z
                      replace hm_z := rn_iconst (w := 2) (am_cur_of (i := (81, 1, .iconst 2, (0, 0, 0), 0)) (by decide +kernel)) (by decide) hm_z
                      replace hm_z := rn_cmpT (am_cur_of (i := (82, 3, .if_icmp .ne 8, (52, 0, 0), 0)) (by decide +kernel)) (by decide) hm_z
                      replace hm_z := rn_iload_n (am_cur_of (i := (90, 1, .iload_n 2, (0, 0, 0), 0)) (by decide +kernel)) g2m hm_z
                      replace hm_z := rn_iconst (w := 3) (am_cur_of (i := (91, 1, .iconst 3, (0, 0, 0), 0)) (by decide +kernel)) (by decide) hm_z
                      replace hm_z := rn_cmpF (am_cur_of (i := (92, 3, .if_icmp .eq 8, (58, 0, 0), 0)) (by decide +kernel)) (by decide) hm_z
                      replace hm_z := rn_iload_n (am_cur_of (i := (95, 1, .iload_n 2, (0, 0, 0), 0)) (by decide +kernel)) g2m hm_z
                      replace hm_z := rn_iconst (w := 5) (am_cur_of (i := (96, 1, .iconst 5, (0, 0, 0), 0)) (by decide +kernel)) (by decide) hm_z
                      replace hm_z := rn_cmpT (am_cur_of (i := (97, 3, .if_icmp .ne 8, (60, 0, 0), 0)) (by decide +kernel)) (by decide) hm_z
                      replace hm_z := rn_bipush (w := 99) (am_cur_of (i := (105, 2, .bipush 99, (0, 0, 0), 0)) (by decide +kernel)) (by decide) hm_z
                      replace hm_z := rn_istore (am_cur_of (i := (107, 2, .istore 4, (0, 0, 0), 0)) (by decide +kernel)) hm_z
                      obtain ⟨_, s741_z, s742_z, g4m, hm_z⟩ := hm_z
                      replace g0m := s741_z 0 _ (by decide) rfl g0m
                      replace g1m := s741_z 1 _ (by decide) rfl g1m
                      replace g2m := s741_z 2 _ (by decide) rfl g2m
                      replace g3m := s741_z 3 _ (by decide) rfl g3m
                      clear s741_z s742_z
                      replace hm_z := rn_aload_n (am_cur_of (i := (109, 1, .aload_n 0, (0, 0, 0), 0)) (by decide +kernel)) g0m hm_z
                      replace hm_z := rn_iload_n (am_cur_of (i := (110, 1, .iload_n 3, (0, 0, 0), 0)) (by decide +kernel)) g3m hm_z
                      replace hm_z := rn_iload (am_cur_of (i := (111, 2, .iload 4, (0, 0, 0), 0)) (by decide +kernel)) g4m hm_z
                      replace hm_z := rn_callV (M' := am_m161) (o := 164) (ar := [.int 99, .int 0]) (rest := []) (L := lv_args 0 [.ref 164, .int 0, .int 99]) (am_cur_of (i := (113, 3, .invokevirtual 197, (161, 1677, 3), 0)) (by decide +kernel)) rfl rfl rfl rfl hm_z
                      obtain ⟨r743_z, h744_z, q745_z, hm_z⟩ := hm_z
                      have R' : rq T S x6_z p6_z 2 (am_up h721_z 19 4 (.int v6_z)) (am_up h731_z 170 31 (.int v6_z)) := ⟨⟨c1_z, c2_z, c3_z, c4_z, c5_z, c6_z, fun k hk_z => c7_z k hk_z, fun k hk_z => c8_z k hk_z⟩, ⟨m2_z, m3_z, m4_z, m5_z, m6_z, fun k hk_z => m7_z k hk_z, fun k hk_z => m8_z k hk_z⟩, R3, R4, R5, R6, R7, R8, R9, R10⟩
                      have A' : rp 2 (am_up h721_z 19 4 (.int v6_z)) (am_up h731_z 170 31 (.int v6_z)) := ⟨⟨a1_z, a2_z, a3_z, a4_z, a5_z, a6_z⟩, ⟨nb1_z, nb2_z, nb3_z⟩, ⟨nt1_z, nt2_z, nt3_z⟩, ⟨nl1_z, nl2_z, nl3_z⟩, ⟨nr1_z, nr2_z, nr3_z⟩, ⟨nk1_z, nk2_z, nk3_z⟩, ⟨fun hb_z => absurd hb_z (by rw [show rg_v (am_up h721_z 19 4 (.int v6_z)) 2 2 = 0 from ecb]; decide), fun hb_z => absurd hb_z (by rw [show rg_v (am_up h721_z 19 4 (.int v6_z)) 2 2 = 0 from ecb]; decide), fun hb_z => absurd hb_z (by rw [show rg_v (am_up h721_z 19 4 (.int v6_z)) 2 2 = 0 from ecb]; decide), fun hb_z => absurd hb_z (by rw [show rg_v (am_up h721_z 19 4 (.int v6_z)) 2 2 = 0 from ecb]; decide)⟩, fun t ht => AD t ht, fun t ht => AE t ht, fun t ht => AG t ht⟩
                      have B' : rp_t (am_up h721_z 19 4 (.int v6_z)) (am_up h731_z 170 31 (.int v6_z)) := by
                        obtain ⟨b0_z, b1_z, b2_z, b3_z, b4_z, b5_z, b6_z, t, o0_z, o1_z, o2_z, o3_z, o4_z, o5_z, o6_z⟩ := B
                        exact ⟨b0_z, b1_z, b2_z, b3_z, b4_z, b5_z, b6_z, t, o0_z, o1_z, o2_z, o3_z, o4_z, o5_z, o6_z⟩
                      rcases pr_num R' (by decide) (by decide) q735_z q745_z with ⟨v7_z, x7_z, p7_z, rfl, rfl, lo7_z, hi7_z, R, le7_z, got, X, Y, t7_z, t167_z⟩ | ⟨rfl, F⟩
                      · replace A := rp_x (by decide) A' X Y
                        replace B := rp_tk B' t7_z t167_z Y
                        clear A' B' R'
                        replace le7_z : x.toInt ≤ p7_z.toInt := Int.le_trans (Int.le_trans le6_z R8) le7_z
                        replace ecb : rg_v h734_z 2 2 = 0 := (rx_v X (o := 2) (k := 2) (by decide)).trans ecb
                        replace ect : rg_v h734_z 2 4 = ct := (rx_v X (o := 2) (k := 4) (by decide)).trans ect
                        replace ecl : rg_v h734_z 2 9 = cl := (rx_v X (o := 2) (k := 9) (by decide)).trans ecl
                        replace ecr : rg_v h734_z 2 12 = cr := (rx_v X (o := 2) (k := 12) (by decide)).trans ecr
                        replace E0 : rg_v h734_z 19 0 = rg_v h744_z 169 4 := (rx_v X (o := 19) (k := 0) (by decide)).trans (E0.trans (rx_w Y (o := 169) (k := 4) (by omega) (by decide)).symm)
                        replace E1 : rg_v h734_z 19 1 = rg_v h744_z 170 28 := (rx_v X (o := 19) (k := 1) (by decide)).trans (E1.trans (rx_w Y (o := 170) (k := 28) (by omega) (by decide)).symm)
                        replace E2 : rg_v h734_z 19 2 = rg_v h744_z 170 29 := (rx_v X (o := 19) (k := 2) (by decide)).trans (E2.trans (rx_w Y (o := 170) (k := 29) (by omega) (by decide)).symm)
                        replace E3 : rg_v h734_z 19 3 = rg_v h744_z 170 30 := (rx_v X (o := 19) (k := 3) (by decide)).trans (E3.trans (rx_w Y (o := 170) (k := 30) (by omega) (by decide)).symm)
                        have E4 : rg_v h734_z 19 4 = rg_v h744_z 170 31 := (rx_v X (o := 19) (k := 4) (by decide)).trans (Eq.trans (rfl) (rx_w Y (o := 170) (k := 31) (by omega) (by decide)).symm)
                        replace hm_z : rn _ _ _ _ [.int 1] _ _ _ := hm_z
                        replace hc_z : rn _ _ _ _ [.int v7_z, .ref 19] _ _ _ := hc_z
                        clear a1_z a2_z a3_z a4_z a5_z a6_z nb1_z nb2_z nb3_z nt1_z nt2_z nt3_z nl1_z nl2_z nl3_z nr1_z nr2_z nr3_z nk1_z nk2_z nk3_z AC0 AC1 AC2 AC3 AD AE AG c1_z c2_z c3_z c4_z c5_z c6_z c7_z c8_z m2_z m3_z m4_z m5_z m6_z m7_z m8_z R3 R4 R5 R6 R7 R8 R9 R10
                        obtain ⟨⟨⟨a1_z, a2_z, a3_z, a4_z, a5_z, a6_z⟩, ⟨nb1_z, nb2_z, nb3_z⟩, ⟨nt1_z, nt2_z, nt3_z⟩, ⟨nl1_z, nl2_z, nl3_z⟩, ⟨nr1_z, nr2_z, nr3_z⟩, ⟨nk1_z, nk2_z, nk3_z⟩, ⟨AC0, AC1, AC2, AC3⟩, AD, AE, AG⟩, ⟨⟨c1_z, c2_z, c3_z, c4_z, c5_z, c6_z, c7_z, c8_z⟩, ⟨m2_z, m3_z, m4_z, m5_z, m6_z, m7_z, m8_z⟩, R3, R4, R5, R6, R7, R8, R9, R10⟩⟩ := (⟨A, R⟩ : rp 2 h734_z h744_z ∧ rq T S x7_z p7_z 2 h734_z h744_z)
                        replace hc_z := rn_put (am_cur_of (i := (124, 3, .putfield 187, (3, 5, 218), 0)) (by decide +kernel)) (by decide +kernel) hc_z
                        replace hc_z := rn_aload_n (am_cur_of (i := (127, 1, .aload_n 1, (0, 0, 0), 0)) (by decide +kernel)) g1_z hc_z
                        replace hc_z := rn_aload_n (am_cur_of (i := (128, 1, .aload_n 0, (0, 0, 0), 0)) (by decide +kernel)) g0_z hc_z
                        replace hc_z := rn_iconst (w := 0) (am_cur_of (i := (129, 1, .iconst 0, (0, 0, 0), 0)) (by decide +kernel)) (by decide) hc_z
                        replace hc_z := rn_bipush (w := 9) (am_cur_of (i := (130, 2, .bipush 9, (0, 0, 0), 0)) (by decide +kernel)) (by decide) hc_z
                        replace hc_z := rn_callV (M' := am_m30) (o := 44) (ar := [.int 9, .int 0]) (rest := [.ref 19]) (L := lv_args 0 [.ref 44, .int 0, .int 9]) (am_cur_of (i := (132, 3, .invokevirtual 142, (30, 773, 3), 0)) (by decide +kernel)) rfl rfl rfl rfl hc_z
                        obtain ⟨r746_z, h747_z, q748_z, hc_z⟩ := hc_z
                        replace hm_z := rn_ifT (am_cur_of (i := (116, 3, .ifCond .ne 5, (69, 0, 0), 0)) (by decide +kernel)) (by decide) hm_z
                        replace hm_z := rn_aload_n (am_cur_of (i := (121, 1, .aload_n 0, (0, 0, 0), 0)) (by decide +kernel)) g0m hm_z
                        replace hm_z := rn_getR (x := 170) (am_cur_of (i := (122, 3, .getfield 30, (12, 25, 1409), 0)) (by decide +kernel)) (by decide +kernel) hm_z
                        replace hm_z := rn_iload_n (am_cur_of (i := (125, 1, .iload_n 1, (0, 0, 0), 0)) (by decide +kernel)) g1m hm_z
                        replace hm_z := rn_iload_n (am_cur_of (i := (126, 1, .iload_n 2, (0, 0, 0), 0)) (by decide +kernel)) g2m hm_z
                        replace hm_z := rn_iadd (w := 32) (am_cur_of (i := (127, 1, .iadd, (0, 0, 0), 0)) (by decide +kernel)) (by decide) hm_z
                        replace hm_z := rn_aload_n (am_cur_of (i := (128, 1, .aload_n 0, (0, 0, 0), 0)) (by decide +kernel)) g0m hm_z
                        replace hm_z := rn_getI (v := v7_z) (am_cur_of (i := (129, 3, .getfield 188, (12, 11, 1395), 0)) (by decide +kernel)) (by decide +kernel) got hm_z
                        replace hm_z := rn_iastore (N := 56) (q := 32) (am_cur_of (i := (132, 1, .iastore, (0, 0, 0), 0)) (by decide +kernel)) (by decide +kernel) rfl hm_z
                        obtain ⟨p749_z, hm_z⟩ := hm_z
                        replace hm_z := rn_iinc (w := 5) (am_cur_of (i := (133, 3, .iinc 2 1, (0, 0, 0), 0)) (by decide +kernel)) g2m (by decide) hm_z
                        obtain ⟨_, s750_z, s751_z, g2m, hm_z⟩ := hm_z
                        replace g0m := s750_z 0 _ (by decide) rfl g0m
                        replace g1m := s750_z 1 _ (by decide) rfl g1m
                        replace g3m := s750_z 3 _ (by decide) rfl g3m
                        replace g4m := s750_z 4 _ (by decide) rfl g4m
                        clear s750_z s751_z
                        replace hm_z := rn_goto (am_cur_of (i := (136, 3, .goto (-87), (29, 0, 0), 0)) (by decide +kernel)) hm_z
                        replace hm_z := rn_iload_n (am_cur_of (i := (49, 1, .iload_n 2, (0, 0, 0), 0)) (by decide +kernel)) g2m hm_z
                        replace hm_z := rn_bipush (w := 7) (am_cur_of (i := (50, 2, .bipush 7, (0, 0, 0), 0)) (by decide +kernel)) (by decide) hm_z
                        replace hm_z := rn_cmpF (am_cur_of (i := (52, 3, .if_icmp .ge 87, (79, 0, 0), 0)) (by decide +kernel)) (by decide) hm_z
                        replace hm_z := rn_iload_n (am_cur_of (i := (55, 1, .iload_n 2, (0, 0, 0), 0)) (by decide +kernel)) g2m hm_z
                        replace hm_z := rn_ifF (am_cur_of (i := (56, 3, .ifCond .eq 13, (40, 0, 0), 0)) (by decide +kernel)) (by decide) hm_z
                        replace hm_z := rn_iload_n (am_cur_of (i := (59, 1, .iload_n 2, (0, 0, 0), 0)) (by decide +kernel)) g2m hm_z
                        replace hm_z := rn_iconst (w := 2) (am_cur_of (i := (60, 1, .iconst 2, (0, 0, 0), 0)) (by decide +kernel)) (by decide) hm_z
                        replace hm_z := rn_cmpF (am_cur_of (i := (61, 3, .if_icmp .eq 8, (40, 0, 0), 0)) (by decide +kernel)) (by decide) hm_z
                        replace hm_z := rn_iload_n (am_cur_of (i := (64, 1, .iload_n 2, (0, 0, 0), 0)) (by decide +kernel)) g2m hm_z
                        replace hm_z := rn_iconst (w := 3) (am_cur_of (i := (65, 1, .iconst 3, (0, 0, 0), 0)) (by decide +kernel)) (by decide) hm_z
                        replace hm_z := rn_cmpT (am_cur_of (i := (66, 3, .if_icmp .ne 7, (42, 0, 0), 0)) (by decide +kernel)) (by decide) hm_z
                        replace hm_z := rn_iconst (w := 0) (am_cur_of (i := (73, 1, .iconst 0, (0, 0, 0), 0)) (by decide +kernel)) (by decide) hm_z
                        replace hm_z := rn_istore_n (am_cur_of (i := (74, 1, .istore_n 3, (0, 0, 0), 0)) (by decide +kernel)) hm_z
                        obtain ⟨_, s752_z, s753_z, g3m, hm_z⟩ := hm_z
                        replace g0m := s752_z 0 _ (by decide) rfl g0m
                        replace g1m := s752_z 1 _ (by decide) rfl g1m
                        replace g2m := s752_z 2 _ (by decide) rfl g2m
                        replace g4m := s752_z 4 _ (by decide) rfl g4m
                        clear s752_z s753_z
                        replace hm_z := rn_iload_n (am_cur_of (i := (75, 1, .iload_n 2, (0, 0, 0), 0)) (by decide +kernel)) g2m hm_z
                        replace hm_z := rn_iconst (w := 1) (am_cur_of (i := (76, 1, .iconst 1, (0, 0, 0), 0)) (by decide +kernel)) (by decide) hm_z
                        replace hm_z := rn_cmpF (am_cur_of (i := (77, 3, .if_icmp .eq 8, (50, 0, 0), 0)) (by decide +kernel)) (by decide) hm_z
                        replace hm_z := rn_iload_n (am_cur_of (i := (80, 1, .iload_n 2, (0, 0, 0), 0)) (by decide +kernel)) g2m hm_z
                        replace hm_z := rn_iconst (w := 2) (am_cur_of (i := (81, 1, .iconst 2, (0, 0, 0), 0)) (by decide +kernel)) (by decide) hm_z
                        replace hm_z := rn_cmpT (am_cur_of (i := (82, 3, .if_icmp .ne 8, (52, 0, 0), 0)) (by decide +kernel)) (by decide) hm_z
                        replace hm_z := rn_iload_n (am_cur_of (i := (90, 1, .iload_n 2, (0, 0, 0), 0)) (by decide +kernel)) g2m hm_z
                        replace hm_z := rn_iconst (w := 3) (am_cur_of (i := (91, 1, .iconst 3, (0, 0, 0), 0)) (by decide +kernel)) (by decide) hm_z
                        replace hm_z := rn_cmpF (am_cur_of (i := (92, 3, .if_icmp .eq 8, (58, 0, 0), 0)) (by decide +kernel)) (by decide) hm_z
                        replace hm_z := rn_iload_n (am_cur_of (i := (95, 1, .iload_n 2, (0, 0, 0), 0)) (by decide +kernel)) g2m hm_z
                        replace hm_z := rn_iconst (w := 5) (am_cur_of (i := (96, 1, .iconst 5, (0, 0, 0), 0)) (by decide +kernel)) (by decide) hm_z
                        replace hm_z := rn_cmpF (am_cur_of (i := (97, 3, .if_icmp .ne 8, (60, 0, 0), 0)) (by decide +kernel)) (by decide) hm_z
                        replace hm_z := rn_bipush (w := 9) (am_cur_of (i := (100, 2, .bipush 9, (0, 0, 0), 0)) (by decide +kernel)) (by decide) hm_z
                        replace hm_z := rn_goto (am_cur_of (i := (102, 3, .goto 5, (61, 0, 0), 0)) (by decide +kernel)) hm_z
                        replace hm_z := rn_istore (am_cur_of (i := (107, 2, .istore 4, (0, 0, 0), 0)) (by decide +kernel)) hm_z
                        obtain ⟨_, s754_z, s755_z, g4m, hm_z⟩ := hm_z
                        replace g0m := s754_z 0 _ (by decide) rfl g0m
                        replace g1m := s754_z 1 _ (by decide) rfl g1m
                        replace g2m := s754_z 2 _ (by decide) rfl g2m
                        replace g3m := s754_z 3 _ (by decide) rfl g3m
                        clear s754_z s755_z
                        replace hm_z := rn_aload_n (am_cur_of (i := (109, 1, .aload_n 0, (0, 0, 0), 0)) (by decide +kernel)) g0m hm_z
                        replace hm_z := rn_iload_n (am_cur_of (i := (110, 1, .iload_n 3, (0, 0, 0), 0)) (by decide +kernel)) g3m hm_z
                        replace hm_z := rn_iload (am_cur_of (i := (111, 2, .iload 4, (0, 0, 0), 0)) (by decide +kernel)) g4m hm_z
                        replace hm_z := rn_callV (M' := am_m161) (o := 164) (ar := [.int 9, .int 0]) (rest := []) (L := lv_args 0 [.ref 164, .int 0, .int 9]) (am_cur_of (i := (113, 3, .invokevirtual 197, (161, 1677, 3), 0)) (by decide +kernel)) rfl rfl rfl rfl hm_z
                        obtain ⟨r756_z, h757_z, q758_z, hm_z⟩ := hm_z
                        have R' : rq T S x7_z p7_z 2 (am_up h734_z 19 5 (.int v7_z)) (am_up h744_z 170 32 (.int v7_z)) := ⟨⟨c1_z, c2_z, c3_z, c4_z, c5_z, c6_z, fun k hk_z => c7_z k hk_z, fun k hk_z => c8_z k hk_z⟩, ⟨m2_z, m3_z, m4_z, m5_z, m6_z, fun k hk_z => m7_z k hk_z, fun k hk_z => m8_z k hk_z⟩, R3, R4, R5, R6, R7, R8, R9, R10⟩
                        have A' : rp 2 (am_up h734_z 19 5 (.int v7_z)) (am_up h744_z 170 32 (.int v7_z)) := ⟨⟨a1_z, a2_z, a3_z, a4_z, a5_z, a6_z⟩, ⟨nb1_z, nb2_z, nb3_z⟩, ⟨nt1_z, nt2_z, nt3_z⟩, ⟨nl1_z, nl2_z, nl3_z⟩, ⟨nr1_z, nr2_z, nr3_z⟩, ⟨nk1_z, nk2_z, nk3_z⟩, ⟨fun hb_z => absurd hb_z (by rw [show rg_v (am_up h734_z 19 5 (.int v7_z)) 2 2 = 0 from ecb]; decide), fun hb_z => absurd hb_z (by rw [show rg_v (am_up h734_z 19 5 (.int v7_z)) 2 2 = 0 from ecb]; decide), fun hb_z => absurd hb_z (by rw [show rg_v (am_up h734_z 19 5 (.int v7_z)) 2 2 = 0 from ecb]; decide), fun hb_z => absurd hb_z (by rw [show rg_v (am_up h734_z 19 5 (.int v7_z)) 2 2 = 0 from ecb]; decide)⟩, fun t ht => AD t ht, fun t ht => AE t ht, fun t ht => AG t ht⟩
                        have B' : rp_t (am_up h734_z 19 5 (.int v7_z)) (am_up h744_z 170 32 (.int v7_z)) := by
                          obtain ⟨b0_z, b1_z, b2_z, b3_z, b4_z, b5_z, b6_z, t, o0_z, o1_z, o2_z, o3_z, o4_z, o5_z, o6_z⟩ := B
                          exact ⟨b0_z, b1_z, b2_z, b3_z, b4_z, b5_z, b6_z, t, o0_z, o1_z, o2_z, o3_z, o4_z, o5_z, o6_z⟩
                        rcases pr_num R' (by decide) (by decide) q748_z q758_z with ⟨v8_z, x8_z, p8_z, rfl, rfl, lo8_z, hi8_z, R, le8_z, got, X, Y, t7_z, t167_z⟩ | ⟨rfl, F⟩
                        · replace A := rp_x (by decide) A' X Y
                          replace B := rp_tk B' t7_z t167_z Y
                          clear A' B' R'
                          replace le8_z : x.toInt ≤ p8_z.toInt := Int.le_trans (Int.le_trans le7_z R8) le8_z
                          replace ecb : rg_v h747_z 2 2 = 0 := (rx_v X (o := 2) (k := 2) (by decide)).trans ecb
                          replace ect : rg_v h747_z 2 4 = ct := (rx_v X (o := 2) (k := 4) (by decide)).trans ect
                          replace ecl : rg_v h747_z 2 9 = cl := (rx_v X (o := 2) (k := 9) (by decide)).trans ecl
                          replace ecr : rg_v h747_z 2 12 = cr := (rx_v X (o := 2) (k := 12) (by decide)).trans ecr
                          replace E0 : rg_v h747_z 19 0 = rg_v h757_z 169 4 := (rx_v X (o := 19) (k := 0) (by decide)).trans (E0.trans (rx_w Y (o := 169) (k := 4) (by omega) (by decide)).symm)
                          replace E1 : rg_v h747_z 19 1 = rg_v h757_z 170 28 := (rx_v X (o := 19) (k := 1) (by decide)).trans (E1.trans (rx_w Y (o := 170) (k := 28) (by omega) (by decide)).symm)
                          replace E2 : rg_v h747_z 19 2 = rg_v h757_z 170 29 := (rx_v X (o := 19) (k := 2) (by decide)).trans (E2.trans (rx_w Y (o := 170) (k := 29) (by omega) (by decide)).symm)
                          replace E3 : rg_v h747_z 19 3 = rg_v h757_z 170 30 := (rx_v X (o := 19) (k := 3) (by decide)).trans (E3.trans (rx_w Y (o := 170) (k := 30) (by omega) (by decide)).symm)
                          replace E4 : rg_v h747_z 19 4 = rg_v h757_z 170 31 := (rx_v X (o := 19) (k := 4) (by decide)).trans (E4.trans (rx_w Y (o := 170) (k := 31) (by omega) (by decide)).symm)
                          have E5 : rg_v h747_z 19 5 = rg_v h757_z 170 32 := (rx_v X (o := 19) (k := 5) (by decide)).trans (Eq.trans (rfl) (rx_w Y (o := 170) (k := 32) (by omega) (by decide)).symm)
                          replace hm_z : rn _ _ _ _ [.int 1] _ _ _ := hm_z
                          replace hc_z : rn _ _ _ _ [.int v8_z, .ref 19] _ _ _ := hc_z
                          clear a1_z a2_z a3_z a4_z a5_z a6_z nb1_z nb2_z nb3_z nt1_z nt2_z nt3_z nl1_z nl2_z nl3_z nr1_z nr2_z nr3_z nk1_z nk2_z nk3_z AC0 AC1 AC2 AC3 AD AE AG c1_z c2_z c3_z c4_z c5_z c6_z c7_z c8_z m2_z m3_z m4_z m5_z m6_z m7_z m8_z R3 R4 R5 R6 R7 R8 R9 R10
                          obtain ⟨⟨⟨a1_z, a2_z, a3_z, a4_z, a5_z, a6_z⟩, ⟨nb1_z, nb2_z, nb3_z⟩, ⟨nt1_z, nt2_z, nt3_z⟩, ⟨nl1_z, nl2_z, nl3_z⟩, ⟨nr1_z, nr2_z, nr3_z⟩, ⟨nk1_z, nk2_z, nk3_z⟩, ⟨AC0, AC1, AC2, AC3⟩, AD, AE, AG⟩, ⟨⟨c1_z, c2_z, c3_z, c4_z, c5_z, c6_z, c7_z, c8_z⟩, ⟨m2_z, m3_z, m4_z, m5_z, m6_z, m7_z, m8_z⟩, R3, R4, R5, R6, R7, R8, R9, R10⟩⟩ := (⟨A, R⟩ : rp 2 h747_z h757_z ∧ rq T S x8_z p8_z 2 h747_z h757_z)
                          replace hc_z := rn_put (am_cur_of (i := (135, 3, .putfield 190, (3, 6, 220), 0)) (by decide +kernel)) (by decide +kernel) hc_z
                          replace hc_z := rn_aload_n (am_cur_of (i := (138, 1, .aload_n 1, (0, 0, 0), 0)) (by decide +kernel)) g1_z hc_z
                          replace hc_z := rn_aload_n (am_cur_of (i := (139, 1, .aload_n 0, (0, 0, 0), 0)) (by decide +kernel)) g0_z hc_z
                          replace hc_z := rn_iconst (w := 0) (am_cur_of (i := (140, 1, .iconst 0, (0, 0, 0), 0)) (by decide +kernel)) (by decide) hc_z
                          replace hc_z := rn_bipush (w := 99) (am_cur_of (i := (141, 2, .bipush 99, (0, 0, 0), 0)) (by decide +kernel)) (by decide) hc_z
                          replace hc_z := rn_callV (M' := am_m30) (o := 44) (ar := [.int 99, .int 0]) (rest := [.ref 19]) (L := lv_args 0 [.ref 44, .int 0, .int 99]) (am_cur_of (i := (143, 3, .invokevirtual 142, (30, 773, 3), 0)) (by decide +kernel)) rfl rfl rfl rfl hc_z
                          obtain ⟨r759_z, h760_z, q761_z, hc_z⟩ := hc_z
                          replace hm_z := rn_ifT (am_cur_of (i := (116, 3, .ifCond .ne 5, (69, 0, 0), 0)) (by decide +kernel)) (by decide) hm_z
                          replace hm_z := rn_aload_n (am_cur_of (i := (121, 1, .aload_n 0, (0, 0, 0), 0)) (by decide +kernel)) g0m hm_z
                          replace hm_z := rn_getR (x := 170) (am_cur_of (i := (122, 3, .getfield 30, (12, 25, 1409), 0)) (by decide +kernel)) (by decide +kernel) hm_z
                          replace hm_z := rn_iload_n (am_cur_of (i := (125, 1, .iload_n 1, (0, 0, 0), 0)) (by decide +kernel)) g1m hm_z
                          replace hm_z := rn_iload_n (am_cur_of (i := (126, 1, .iload_n 2, (0, 0, 0), 0)) (by decide +kernel)) g2m hm_z
                          replace hm_z := rn_iadd (w := 33) (am_cur_of (i := (127, 1, .iadd, (0, 0, 0), 0)) (by decide +kernel)) (by decide) hm_z
                          replace hm_z := rn_aload_n (am_cur_of (i := (128, 1, .aload_n 0, (0, 0, 0), 0)) (by decide +kernel)) g0m hm_z
                          replace hm_z := rn_getI (v := v8_z) (am_cur_of (i := (129, 3, .getfield 188, (12, 11, 1395), 0)) (by decide +kernel)) (by decide +kernel) got hm_z
                          replace hm_z := rn_iastore (N := 56) (q := 33) (am_cur_of (i := (132, 1, .iastore, (0, 0, 0), 0)) (by decide +kernel)) (by decide +kernel) rfl hm_z
                          obtain ⟨p762_z, hm_z⟩ := hm_z
                          replace hm_z := rn_iinc (w := 6) (am_cur_of (i := (133, 3, .iinc 2 1, (0, 0, 0), 0)) (by decide +kernel)) g2m (by decide) hm_z
                          obtain ⟨_, s763_z, s764_z, g2m, hm_z⟩ := hm_z
                          replace g0m := s763_z 0 _ (by decide) rfl g0m
                          replace g1m := s763_z 1 _ (by decide) rfl g1m
                          replace g3m := s763_z 3 _ (by decide) rfl g3m
                          replace g4m := s763_z 4 _ (by decide) rfl g4m
                          clear s763_z s764_z
                          replace hm_z := rn_goto (am_cur_of (i := (136, 3, .goto (-87), (29, 0, 0), 0)) (by decide +kernel)) hm_z
                          replace hm_z := rn_iload_n (am_cur_of (i := (49, 1, .iload_n 2, (0, 0, 0), 0)) (by decide +kernel)) g2m hm_z
                          replace hm_z := rn_bipush (w := 7) (am_cur_of (i := (50, 2, .bipush 7, (0, 0, 0), 0)) (by decide +kernel)) (by decide) hm_z
                          replace hm_z := rn_cmpF (am_cur_of (i := (52, 3, .if_icmp .ge 87, (79, 0, 0), 0)) (by decide +kernel)) (by decide) hm_z
                          replace hm_z := rn_iload_n (am_cur_of (i := (55, 1, .iload_n 2, (0, 0, 0), 0)) (by decide +kernel)) g2m hm_z
                          replace hm_z := rn_ifF (am_cur_of (i := (56, 3, .ifCond .eq 13, (40, 0, 0), 0)) (by decide +kernel)) (by decide) hm_z
                          replace hm_z := rn_iload_n (am_cur_of (i := (59, 1, .iload_n 2, (0, 0, 0), 0)) (by decide +kernel)) g2m hm_z
                          replace hm_z := rn_iconst (w := 2) (am_cur_of (i := (60, 1, .iconst 2, (0, 0, 0), 0)) (by decide +kernel)) (by decide) hm_z
                          replace hm_z := rn_cmpF (am_cur_of (i := (61, 3, .if_icmp .eq 8, (40, 0, 0), 0)) (by decide +kernel)) (by decide) hm_z
                          replace hm_z := rn_iload_n (am_cur_of (i := (64, 1, .iload_n 2, (0, 0, 0), 0)) (by decide +kernel)) g2m hm_z
                          replace hm_z := rn_iconst (w := 3) (am_cur_of (i := (65, 1, .iconst 3, (0, 0, 0), 0)) (by decide +kernel)) (by decide) hm_z
                          replace hm_z := rn_cmpT (am_cur_of (i := (66, 3, .if_icmp .ne 7, (42, 0, 0), 0)) (by decide +kernel)) (by decide) hm_z
                          replace hm_z := rn_iconst (w := 0) (am_cur_of (i := (73, 1, .iconst 0, (0, 0, 0), 0)) (by decide +kernel)) (by decide) hm_z
                          replace hm_z := rn_istore_n (am_cur_of (i := (74, 1, .istore_n 3, (0, 0, 0), 0)) (by decide +kernel)) hm_z
                          obtain ⟨_, s765_z, s766_z, g3m, hm_z⟩ := hm_z
                          replace g0m := s765_z 0 _ (by decide) rfl g0m
                          replace g1m := s765_z 1 _ (by decide) rfl g1m
                          replace g2m := s765_z 2 _ (by decide) rfl g2m
                          replace g4m := s765_z 4 _ (by decide) rfl g4m
                          clear s765_z s766_z
                          replace hm_z := rn_iload_n (am_cur_of (i := (75, 1, .iload_n 2, (0, 0, 0), 0)) (by decide +kernel)) g2m hm_z
                          replace hm_z := rn_iconst (w := 1) (am_cur_of (i := (76, 1, .iconst 1, (0, 0, 0), 0)) (by decide +kernel)) (by decide) hm_z
                          replace hm_z := rn_cmpF (am_cur_of (i := (77, 3, .if_icmp .eq 8, (50, 0, 0), 0)) (by decide +kernel)) (by decide) hm_z
                          replace hm_z := rn_iload_n (am_cur_of (i := (80, 1, .iload_n 2, (0, 0, 0), 0)) (by decide +kernel)) g2m hm_z
                          replace hm_z := rn_iconst (w := 2) (am_cur_of (i := (81, 1, .iconst 2, (0, 0, 0), 0)) (by decide +kernel)) (by decide) hm_z
                          replace hm_z := rn_cmpT (am_cur_of (i := (82, 3, .if_icmp .ne 8, (52, 0, 0), 0)) (by decide +kernel)) (by decide) hm_z
                          replace hm_z := rn_iload_n (am_cur_of (i := (90, 1, .iload_n 2, (0, 0, 0), 0)) (by decide +kernel)) g2m hm_z
                          replace hm_z := rn_iconst (w := 3) (am_cur_of (i := (91, 1, .iconst 3, (0, 0, 0), 0)) (by decide +kernel)) (by decide) hm_z
                          replace hm_z := rn_cmpF (am_cur_of (i := (92, 3, .if_icmp .eq 8, (58, 0, 0), 0)) (by decide +kernel)) (by decide) hm_z
                          replace hm_z := rn_iload_n (am_cur_of (i := (95, 1, .iload_n 2, (0, 0, 0), 0)) (by decide +kernel)) g2m hm_z
                          replace hm_z := rn_iconst (w := 5) (am_cur_of (i := (96, 1, .iconst 5, (0, 0, 0), 0)) (by decide +kernel)) (by decide) hm_z
                          replace hm_z := rn_cmpT (am_cur_of (i := (97, 3, .if_icmp .ne 8, (60, 0, 0), 0)) (by decide +kernel)) (by decide) hm_z
                          replace hm_z := rn_bipush (w := 99) (am_cur_of (i := (105, 2, .bipush 99, (0, 0, 0), 0)) (by decide +kernel)) (by decide) hm_z
                          replace hm_z := rn_istore (am_cur_of (i := (107, 2, .istore 4, (0, 0, 0), 0)) (by decide +kernel)) hm_z
                          obtain ⟨_, s767_z, s768_z, g4m, hm_z⟩ := hm_z
                          replace g0m := s767_z 0 _ (by decide) rfl g0m
                          replace g1m := s767_z 1 _ (by decide) rfl g1m
                          replace g2m := s767_z 2 _ (by decide) rfl g2m
                          replace g3m := s767_z 3 _ (by decide) rfl g3m
                          clear s767_z s768_z
                          replace hm_z := rn_aload_n (am_cur_of (i := (109, 1, .aload_n 0, (0, 0, 0), 0)) (by decide +kernel)) g0m hm_z
                          replace hm_z := rn_iload_n (am_cur_of (i := (110, 1, .iload_n 3, (0, 0, 0), 0)) (by decide +kernel)) g3m hm_z
                          replace hm_z := rn_iload (am_cur_of (i := (111, 2, .iload 4, (0, 0, 0), 0)) (by decide +kernel)) g4m hm_z
                          replace hm_z := rn_callV (M' := am_m161) (o := 164) (ar := [.int 99, .int 0]) (rest := []) (L := lv_args 0 [.ref 164, .int 0, .int 99]) (am_cur_of (i := (113, 3, .invokevirtual 197, (161, 1677, 3), 0)) (by decide +kernel)) rfl rfl rfl rfl hm_z
                          obtain ⟨r769_z, h770_z, q771_z, hm_z⟩ := hm_z
                          have R' : rq T S x8_z p8_z 2 (am_up h747_z 19 6 (.int v8_z)) (am_up h757_z 170 33 (.int v8_z)) := ⟨⟨c1_z, c2_z, c3_z, c4_z, c5_z, c6_z, fun k hk_z => c7_z k hk_z, fun k hk_z => c8_z k hk_z⟩, ⟨m2_z, m3_z, m4_z, m5_z, m6_z, fun k hk_z => m7_z k hk_z, fun k hk_z => m8_z k hk_z⟩, R3, R4, R5, R6, R7, R8, R9, R10⟩
                          have A' : rp 2 (am_up h747_z 19 6 (.int v8_z)) (am_up h757_z 170 33 (.int v8_z)) := ⟨⟨a1_z, a2_z, a3_z, a4_z, a5_z, a6_z⟩, ⟨nb1_z, nb2_z, nb3_z⟩, ⟨nt1_z, nt2_z, nt3_z⟩, ⟨nl1_z, nl2_z, nl3_z⟩, ⟨nr1_z, nr2_z, nr3_z⟩, ⟨nk1_z, nk2_z, nk3_z⟩, ⟨fun hb_z => absurd hb_z (by rw [show rg_v (am_up h747_z 19 6 (.int v8_z)) 2 2 = 0 from ecb]; decide), fun hb_z => absurd hb_z (by rw [show rg_v (am_up h747_z 19 6 (.int v8_z)) 2 2 = 0 from ecb]; decide), fun hb_z => absurd hb_z (by rw [show rg_v (am_up h747_z 19 6 (.int v8_z)) 2 2 = 0 from ecb]; decide), fun hb_z => absurd hb_z (by rw [show rg_v (am_up h747_z 19 6 (.int v8_z)) 2 2 = 0 from ecb]; decide)⟩, fun t ht => AD t ht, fun t ht => AE t ht, fun t ht => AG t ht⟩
                          have B' : rp_t (am_up h747_z 19 6 (.int v8_z)) (am_up h757_z 170 33 (.int v8_z)) := by
                            obtain ⟨b0_z, b1_z, b2_z, b3_z, b4_z, b5_z, b6_z, t, o0_z, o1_z, o2_z, o3_z, o4_z, o5_z, o6_z⟩ := B
                            exact ⟨b0_z, b1_z, b2_z, b3_z, b4_z, b5_z, b6_z, t, o0_z, o1_z, o2_z, o3_z, o4_z, o5_z, o6_z⟩
                          rcases pr_num R' (by decide) (by decide) q761_z q771_z with ⟨v9_z, x9_z, p9_z, rfl, rfl, lo9_z, hi9_z, R, le9_z, got, X, Y, t7_z, t167_z⟩ | ⟨rfl, F⟩
                          · replace A := rp_x (by decide) A' X Y
                            replace B := rp_tk B' t7_z t167_z Y
                            clear A' B' R'
                            replace le9_z : x.toInt ≤ p9_z.toInt := Int.le_trans (Int.le_trans le8_z R8) le9_z
                            replace ecb : rg_v h760_z 2 2 = 0 := (rx_v X (o := 2) (k := 2) (by decide)).trans ecb
                            replace ect : rg_v h760_z 2 4 = ct := (rx_v X (o := 2) (k := 4) (by decide)).trans ect
                            replace ecl : rg_v h760_z 2 9 = cl := (rx_v X (o := 2) (k := 9) (by decide)).trans ecl
                            replace ecr : rg_v h760_z 2 12 = cr := (rx_v X (o := 2) (k := 12) (by decide)).trans ecr
                            replace E0 : rg_v h760_z 19 0 = rg_v h770_z 169 4 := (rx_v X (o := 19) (k := 0) (by decide)).trans (E0.trans (rx_w Y (o := 169) (k := 4) (by omega) (by decide)).symm)
                            replace E1 : rg_v h760_z 19 1 = rg_v h770_z 170 28 := (rx_v X (o := 19) (k := 1) (by decide)).trans (E1.trans (rx_w Y (o := 170) (k := 28) (by omega) (by decide)).symm)
                            replace E2 : rg_v h760_z 19 2 = rg_v h770_z 170 29 := (rx_v X (o := 19) (k := 2) (by decide)).trans (E2.trans (rx_w Y (o := 170) (k := 29) (by omega) (by decide)).symm)
                            replace E3 : rg_v h760_z 19 3 = rg_v h770_z 170 30 := (rx_v X (o := 19) (k := 3) (by decide)).trans (E3.trans (rx_w Y (o := 170) (k := 30) (by omega) (by decide)).symm)
                            replace E4 : rg_v h760_z 19 4 = rg_v h770_z 170 31 := (rx_v X (o := 19) (k := 4) (by decide)).trans (E4.trans (rx_w Y (o := 170) (k := 31) (by omega) (by decide)).symm)
                            replace E5 : rg_v h760_z 19 5 = rg_v h770_z 170 32 := (rx_v X (o := 19) (k := 5) (by decide)).trans (E5.trans (rx_w Y (o := 170) (k := 32) (by omega) (by decide)).symm)
                            have E6 : rg_v h760_z 19 6 = rg_v h770_z 170 33 := (rx_v X (o := 19) (k := 6) (by decide)).trans (Eq.trans (rfl) (rx_w Y (o := 170) (k := 33) (by omega) (by decide)).symm)
                            replace hm_z : rn _ _ _ _ [.int 1] _ _ _ := hm_z
                            replace hc_z : rn _ _ _ _ [.int v9_z, .ref 19] _ _ _ := hc_z
                            clear a1_z a2_z a3_z a4_z a5_z a6_z nb1_z nb2_z nb3_z nt1_z nt2_z nt3_z nl1_z nl2_z nl3_z nr1_z nr2_z nr3_z nk1_z nk2_z nk3_z AC0 AC1 AC2 AC3 AD AE AG c1_z c2_z c3_z c4_z c5_z c6_z c7_z c8_z m2_z m3_z m4_z m5_z m6_z m7_z m8_z R3 R4 R5 R6 R7 R8 R9 R10
                            obtain ⟨⟨⟨a1_z, a2_z, a3_z, a4_z, a5_z, a6_z⟩, ⟨nb1_z, nb2_z, nb3_z⟩, ⟨nt1_z, nt2_z, nt3_z⟩, ⟨nl1_z, nl2_z, nl3_z⟩, ⟨nr1_z, nr2_z, nr3_z⟩, ⟨nk1_z, nk2_z, nk3_z⟩, ⟨AC0, AC1, AC2, AC3⟩, AD, AE, AG⟩, ⟨⟨c1_z, c2_z, c3_z, c4_z, c5_z, c6_z, c7_z, c8_z⟩, ⟨m2_z, m3_z, m4_z, m5_z, m6_z, m7_z, m8_z⟩, R3, R4, R5, R6, R7, R8, R9, R10⟩⟩ := (⟨A, R⟩ : rp 2 h760_z h770_z ∧ rq T S x9_z p9_z 2 h760_z h770_z)
                            replace hc_z := rn_put (am_cur_of (i := (146, 3, .putfield 193, (3, 7, 221), 0)) (by decide +kernel)) (by decide +kernel) hc_z
                            replace hc_z := rn_aload_n (am_cur_of (i := (149, 1, .aload_n 0, (0, 0, 0), 0)) (by decide +kernel)) g0_z hc_z
                            replace hc_z := rn_getM (x := 2) (am_cur_of (i := (150, 3, .getfield 25, (4, 6, 415), 0)) (by decide +kernel)) (show (am_up h760_z 19 7 (.int v9_z)) 44 6 = .ref 2 from R3) hc_z
                            replace hc_z := rn_dup (am_cur_of (i := (153, 1, .dup, (0, 0, 0), 0)) (by decide +kernel)) hc_z
                            replace hc_z := rn_getI (v := 0) (am_cur_of (i := (154, 3, .getfield 151, (1, 2, 259), 0)) (by decide +kernel)) (by decide +kernel) (show rg_v (am_up h760_z 19 7 (.int v9_z)) 2 2 = 0 from ecb) hc_z
                            replace hc_z := rn_iconst (w := 1) (am_cur_of (i := (157, 1, .iconst 1, (0, 0, 0), 0)) (by decide +kernel)) (by decide) hc_z
                            replace hc_z := rn_iadd (w := 1) (am_cur_of (i := (158, 1, .iadd, (0, 0, 0), 0)) (by decide +kernel)) (by decide) hc_z
                            replace hc_z := rn_put (am_cur_of (i := (159, 3, .putfield 151, (1, 2, 259), 0)) (by decide +kernel)) (by decide +kernel) hc_z
                            replace hc_z := rn_vret (am_cur_of (i := (162, 1, .return_, (0, 0, 0), 0)) (by decide +kernel)) hc_z
                            obtain ⟨e772_z, e773_z⟩ := hc_z
                            subst e772_z e773_z
                            replace hm_z := rn_ifT (am_cur_of (i := (116, 3, .ifCond .ne 5, (69, 0, 0), 0)) (by decide +kernel)) (by decide) hm_z
                            replace hm_z := rn_aload_n (am_cur_of (i := (121, 1, .aload_n 0, (0, 0, 0), 0)) (by decide +kernel)) g0m hm_z
                            replace hm_z := rn_getR (x := 170) (am_cur_of (i := (122, 3, .getfield 30, (12, 25, 1409), 0)) (by decide +kernel)) (by decide +kernel) hm_z
                            replace hm_z := rn_iload_n (am_cur_of (i := (125, 1, .iload_n 1, (0, 0, 0), 0)) (by decide +kernel)) g1m hm_z
                            replace hm_z := rn_iload_n (am_cur_of (i := (126, 1, .iload_n 2, (0, 0, 0), 0)) (by decide +kernel)) g2m hm_z
                            replace hm_z := rn_iadd (w := 34) (am_cur_of (i := (127, 1, .iadd, (0, 0, 0), 0)) (by decide +kernel)) (by decide) hm_z
                            replace hm_z := rn_aload_n (am_cur_of (i := (128, 1, .aload_n 0, (0, 0, 0), 0)) (by decide +kernel)) g0m hm_z
                            replace hm_z := rn_getI (v := v9_z) (am_cur_of (i := (129, 3, .getfield 188, (12, 11, 1395), 0)) (by decide +kernel)) (by decide +kernel) got hm_z
                            replace hm_z := rn_iastore (N := 56) (q := 34) (am_cur_of (i := (132, 1, .iastore, (0, 0, 0), 0)) (by decide +kernel)) (by decide +kernel) rfl hm_z
                            obtain ⟨p774_z, hm_z⟩ := hm_z
                            replace hm_z := rn_iinc (w := 7) (am_cur_of (i := (133, 3, .iinc 2 1, (0, 0, 0), 0)) (by decide +kernel)) g2m (by decide) hm_z
                            obtain ⟨_, s775_z, s776_z, g2m, hm_z⟩ := hm_z
                            replace g0m := s775_z 0 _ (by decide) rfl g0m
                            replace g1m := s775_z 1 _ (by decide) rfl g1m
                            replace g3m := s775_z 3 _ (by decide) rfl g3m
                            replace g4m := s775_z 4 _ (by decide) rfl g4m
                            clear s775_z s776_z
                            replace hm_z := rn_goto (am_cur_of (i := (136, 3, .goto (-87), (29, 0, 0), 0)) (by decide +kernel)) hm_z
                            replace hm_z := rn_iload_n (am_cur_of (i := (49, 1, .iload_n 2, (0, 0, 0), 0)) (by decide +kernel)) g2m hm_z
                            replace hm_z := rn_bipush (w := 7) (am_cur_of (i := (50, 2, .bipush 7, (0, 0, 0), 0)) (by decide +kernel)) (by decide) hm_z
                            replace hm_z := rn_cmpT (am_cur_of (i := (52, 3, .if_icmp .ge 87, (79, 0, 0), 0)) (by decide +kernel)) (by decide) hm_z
                            replace hm_z := rn_aload_n (am_cur_of (i := (139, 1, .aload_n 0, (0, 0, 0), 0)) (by decide +kernel)) g0m hm_z
                            replace hm_z := rn_dup (am_cur_of (i := (140, 1, .dup, (0, 0, 0), 0)) (by decide +kernel)) hm_z
                            replace hm_z := rn_getI (v := 0) (am_cur_of (i := (141, 3, .getfield 201, (12, 17, 1401), 0)) (by decide +kernel)) (by decide +kernel) (show rg_v (am_up h770_z 170 34 (.int v9_z)) 164 17 = 0 from (nb1_z.symm.trans ecb)) hm_z
                            replace hm_z := rn_iconst (w := 1) (am_cur_of (i := (144, 1, .iconst 1, (0, 0, 0), 0)) (by decide +kernel)) (by decide) hm_z
                            replace hm_z := rn_iadd (w := 1) (am_cur_of (i := (145, 1, .iadd, (0, 0, 0), 0)) (by decide +kernel)) (by decide) hm_z
                            replace hm_z := rn_put (am_cur_of (i := (146, 3, .putfield 201, (12, 17, 1401), 0)) (by decide +kernel)) (by decide +kernel) hm_z
                            replace hm_z := rn_iconst (w := 1) (am_cur_of (i := (149, 1, .iconst 1, (0, 0, 0), 0)) (by decide +kernel)) (by decide) hm_z
                            replace hm_z := rn_iret (am_cur_of (i := (150, 1, .ireturn, (0, 0, 0), 0)) (by decide +kernel)) hm_z
                            obtain ⟨e777_z, e778_z⟩ := hm_z
                            subst e777_z e778_z
                            have R' : rq T S x9_z p9_z 2 (am_up (am_up h760_z 19 7 (.int v9_z)) 2 2 (.int 1)) (am_up (am_up h770_z 170 34 (.int v9_z)) 164 17 (.int 1)) := ⟨⟨c1_z, c2_z, c3_z, c4_z, c5_z, c6_z, fun k hk_z => c7_z k hk_z, fun k hk_z => c8_z k hk_z⟩, ⟨m2_z, m3_z, m4_z, m5_z, m6_z, fun k hk_z => m7_z k hk_z, fun k hk_z => m8_z k hk_z⟩, R3, R4, R5, R6, R7, R8, R9, R10⟩
                            have pq0_z : rp_C 2 (am_up (am_up h760_z 19 7 (.int v9_z)) 2 2 (.int 1)) (am_up (am_up h770_z 170 34 (.int v9_z)) 164 17 (.int 1)) 0 := by
                              intro hb_z k hk_z
                              match k, hk_z with
                              | 0, _ => exact E0
                              | 1, _ => exact E1
                              | 2, _ => exact E2
                              | 3, _ => exact E3
                              | 4, _ => exact E4
                              | 5, _ => exact E5
                              | 6, _ => exact E6
                              | 7, _ => exact rfl
                            have A' : rp 2 (am_up (am_up h760_z 19 7 (.int v9_z)) 2 2 (.int 1)) (am_up (am_up h770_z 170 34 (.int v9_z)) 164 17 (.int 1)) := ⟨⟨a1_z, a2_z, a3_z, a4_z, a5_z, a6_z⟩, ⟨rfl, (show 0 ≤ ((0 : Int32) + 1).toInt by decide), (show ((0 : Int32) + 1).toInt ≤ 4 by decide)⟩, ⟨nt1_z, nt2_z, nt3_z⟩, ⟨nl1_z, nl2_z, nl3_z⟩, ⟨nr1_z, nr2_z, nr3_z⟩, ⟨nk1_z, nk2_z, nk3_z⟩, ⟨(pq0_z), (fun hb_z => absurd hb_z (by show ¬ ((1 : Nat) : Int) < ((0 : Int32) + 1).toInt; decide)), (fun hb_z => absurd hb_z (by show ¬ ((2 : Nat) : Int) < ((0 : Int32) + 1).toInt; decide)), (fun hb_z => absurd hb_z (by show ¬ ((3 : Nat) : Int) < ((0 : Int32) + 1).toInt; decide))⟩, fun t ht => AD t ht, fun t ht => AE t ht, fun t ht => AG t ht⟩
                            have B' : rp_t (am_up (am_up h760_z 19 7 (.int v9_z)) 2 2 (.int 1)) (am_up (am_up h770_z 170 34 (.int v9_z)) 164 17 (.int 1)) := by
                              obtain ⟨b0_z, b1_z, b2_z, b3_z, b4_z, b5_z, b6_z, t, o0_z, o1_z, o2_z, o3_z, o4_z, o5_z, o6_z⟩ := B
                              exact ⟨b0_z, b1_z, b2_z, b3_z, b4_z, b5_z, b6_z, t, o0_z, o1_z, o2_z, o3_z, o4_z, o5_z, o6_z⟩
                            exact Or.inl ⟨rfl, _, _, R', le9_z, A', B'⟩
                          · obtain ⟨wv, w0_z, f1_z, f2_z, f3_z, f4_z⟩ := F
                            have K := rs_stick (a := 31) (by decide) (by decide) rfl w0_z f1_z f2_z hc_z
                            replace hm_z : rn _ _ _ _ [.int 0] _ _ _ := hm_z
                            replace hm_z := rn_ifF (am_cur_of (i := (116, 3, .ifCond .ne 5, (69, 0, 0), 0)) (by decide +kernel)) (by decide) hm_z
                            replace hm_z := rn_iconst (w := 0) (am_cur_of (i := (119, 1, .iconst 0, (0, 0, 0), 0)) (by decide +kernel)) (by decide) hm_z
                            replace hm_z := rn_iret (am_cur_of (i := (120, 1, .ireturn, (0, 0, 0), 0)) (by decide +kernel)) hm_z
                            obtain ⟨e779_z, e780_z⟩ := hm_z
                            subst e779_z e780_z
                            exact Or.inr ⟨rfl, _, wv, w0_z, K.1, K.2, f3_z, f4_z⟩
                        · obtain ⟨wv, w0_z, f1_z, f2_z, f3_z, f4_z⟩ := F
                          have K := rs_stick (a := 31) (by decide) (by decide) rfl w0_z f1_z f2_z hc_z
                          replace hm_z : rn _ _ _ _ [.int 0] _ _ _ := hm_z
                          replace hm_z := rn_ifF (am_cur_of (i := (116, 3, .ifCond .ne 5, (69, 0, 0), 0)) (by decide +kernel)) (by decide) hm_z
                          replace hm_z := rn_iconst (w := 0) (am_cur_of (i := (119, 1, .iconst 0, (0, 0, 0), 0)) (by decide +kernel)) (by decide) hm_z
                          replace hm_z := rn_iret (am_cur_of (i := (120, 1, .ireturn, (0, 0, 0), 0)) (by decide +kernel)) hm_z
                          obtain ⟨e781_z, e782_z⟩ := hm_z
                          subst e781_z e782_z
                          exact Or.inr ⟨rfl, _, wv, w0_z, K.1, K.2, f3_z, f4_z⟩
                      · obtain ⟨wv, w0_z, f1_z, f2_z, f3_z, f4_z⟩ := F
                        have K := rs_stick (a := 31) (by decide) (by decide) rfl w0_z f1_z f2_z hc_z
                        replace hm_z : rn _ _ _ _ [.int 0] _ _ _ := hm_z
                        replace hm_z := rn_ifF (am_cur_of (i := (116, 3, .ifCond .ne 5, (69, 0, 0), 0)) (by decide +kernel)) (by decide) hm_z
                        replace hm_z := rn_iconst (w := 0) (am_cur_of (i := (119, 1, .iconst 0, (0, 0, 0), 0)) (by decide +kernel)) (by decide) hm_z
                        replace hm_z := rn_iret (am_cur_of (i := (120, 1, .ireturn, (0, 0, 0), 0)) (by decide +kernel)) hm_z
                        obtain ⟨e783_z, e784_z⟩ := hm_z
                        subst e783_z e784_z
                        exact Or.inr ⟨rfl, _, wv, w0_z, K.1, K.2, f3_z, f4_z⟩
                    · obtain ⟨wv, w0_z, f1_z, f2_z, f3_z, f4_z⟩ := F
                      have K := rs_stick (a := 31) (by decide) (by decide) rfl w0_z f1_z f2_z hc_z
                      replace hm_z : rn _ _ _ _ [.int 0] _ _ _ := hm_z
                      replace hm_z := rn_ifF (am_cur_of (i := (116, 3, .ifCond .ne 5, (69, 0, 0), 0)) (by decide +kernel)) (by decide) hm_z
                      replace hm_z := rn_iconst (w := 0) (am_cur_of (i := (119, 1, .iconst 0, (0, 0, 0), 0)) (by decide +kernel)) (by decide) hm_z
                      replace hm_z := rn_iret (am_cur_of (i := (120, 1, .ireturn, (0, 0, 0), 0)) (by decide +kernel)) hm_z
                      obtain ⟨e785_z, e786_z⟩ := hm_z
                      subst e785_z e786_z
                      exact Or.inr ⟨rfl, _, wv, w0_z, K.1, K.2, f3_z, f4_z⟩
                  · obtain ⟨wv, w0_z, f1_z, f2_z, f3_z, f4_z⟩ := F
                    have K := rs_stick (a := 31) (by decide) (by decide) rfl w0_z f1_z f2_z hc_z
                    replace hm_z : rn _ _ _ _ [.int 0] _ _ _ := hm_z
                    replace hm_z := rn_ifF (am_cur_of (i := (116, 3, .ifCond .ne 5, (69, 0, 0), 0)) (by decide +kernel)) (by decide) hm_z
                    replace hm_z := rn_iconst (w := 0) (am_cur_of (i := (119, 1, .iconst 0, (0, 0, 0), 0)) (by decide +kernel)) (by decide) hm_z
                    replace hm_z := rn_iret (am_cur_of (i := (120, 1, .ireturn, (0, 0, 0), 0)) (by decide +kernel)) hm_z
                    obtain ⟨e787_z, e788_z⟩ := hm_z
                    subst e787_z e788_z
                    exact Or.inr ⟨rfl, _, wv, w0_z, K.1, K.2, f3_z, f4_z⟩
                · obtain ⟨wv, w0_z, f1_z, f2_z, f3_z, f4_z⟩ := F
                  have K := rs_stick (a := 31) (by decide) (by decide) rfl w0_z f1_z f2_z hc_z
                  replace hm_z : rn _ _ _ _ [.int 0] _ _ _ := hm_z
                  replace hm_z := rn_ifF (am_cur_of (i := (116, 3, .ifCond .ne 5, (69, 0, 0), 0)) (by decide +kernel)) (by decide) hm_z
                  replace hm_z := rn_iconst (w := 0) (am_cur_of (i := (119, 1, .iconst 0, (0, 0, 0), 0)) (by decide +kernel)) (by decide) hm_z
                  replace hm_z := rn_iret (am_cur_of (i := (120, 1, .ireturn, (0, 0, 0), 0)) (by decide +kernel)) hm_z
                  obtain ⟨e789_z, e790_z⟩ := hm_z
                  subst e789_z e790_z
                  exact Or.inr ⟨rfl, _, wv, w0_z, K.1, K.2, f3_z, f4_z⟩
              · obtain ⟨wv, w0_z, f1_z, f2_z, f3_z, f4_z⟩ := F
                have K := rs_stick (a := 31) (by decide) (by decide) rfl w0_z f1_z f2_z hc_z
                replace hm_z : rn _ _ _ _ [.int 0] _ _ _ := hm_z
                replace hm_z := rn_ifF (am_cur_of (i := (116, 3, .ifCond .ne 5, (69, 0, 0), 0)) (by decide +kernel)) (by decide) hm_z
                replace hm_z := rn_iconst (w := 0) (am_cur_of (i := (119, 1, .iconst 0, (0, 0, 0), 0)) (by decide +kernel)) (by decide) hm_z
                replace hm_z := rn_iret (am_cur_of (i := (120, 1, .ireturn, (0, 0, 0), 0)) (by decide +kernel)) hm_z
                obtain ⟨e791_z, e792_z⟩ := hm_z
                subst e791_z e792_z
                exact Or.inr ⟨rfl, _, wv, w0_z, K.1, K.2, f3_z, f4_z⟩
          · replace b670_z : ¬ i2_z = ((-1) : Int32) ∧ ¬ i2_z.toInt = ((-1) : Int32).toInt := b670_z
            replace hc_z := rn_aload_n (am_cur_of (i := (38, 1, .aload_n 0, (0, 0, 0), 0)) (by decide +kernel)) g0_z hc_z
            replace hc_z := rn_iconst (w := 3) (am_cur_of (i := (39, 1, .iconst 3, (0, 0, 0), 0)) (by decide +kernel)) (by decide) hc_z
            replace hc_z := rn_callV (M' := am_m29) (o := 44) (ar := [.int 3]) (rest := []) (L := lv_args 0 [.ref 44, .int 3]) (am_cur_of (i := (40, 3, .invokevirtual 108, (29, 769, 3), 0)) (by decide +kernel)) rfl rfl rfl rfl hc_z
            obtain ⟨r793_z, h794_z, q795_z, hc_z⟩ := hc_z
            obtain ⟨rfl, yq795_z⟩ := rp_fail R4 q795_z
            subst yq795_z
            replace hc_z : rn _ _ _ _ [] _ _ _ := hc_z
            have K := rs_stick (w := 3) (a := 31) (by decide) (by decide) rfl (by decide) rfl rfl hc_z
            replace hm_z := rn_aload_n (am_cur_of (i := (18, 1, .aload_n 0, (0, 0, 0), 0)) (by decide +kernel)) g0m hm_z
            replace hm_z := rn_aload_n (am_cur_of (i := (19, 1, .aload_n 0, (0, 0, 0), 0)) (by decide +kernel)) g0m hm_z
            replace hm_z := rn_getR (x := 169) (am_cur_of (i := (20, 3, .getfield 27, (12, 24, 1408), 0)) (by decide +kernel)) (by decide +kernel) hm_z
            replace hm_z := rn_iconst (w := 4) (am_cur_of (i := (23, 1, .iconst 4, (0, 0, 0), 0)) (by decide +kernel)) (by decide) hm_z
            replace hm_z := rn_aload_n (am_cur_of (i := (24, 1, .aload_n 0, (0, 0, 0), 0)) (by decide +kernel)) g0m hm_z
            replace hm_z := rn_getI (v := 0) (am_cur_of (i := (25, 3, .getfield 201, (12, 17, 1401), 0)) (by decide +kernel)) (by decide +kernel) (nb1_z.symm.trans ecb) hm_z
            replace hm_z := rn_callV (M' := am_m164) (o := 164) (ar := [.int 0, .int 4, .ref 169]) (rest := []) (L := lv_args 0 [.ref 164, .ref 169, .int 4, .int 0]) (am_cur_of (i := (28, 3, .invokevirtual 248, (164, 1688, 3), 0)) (by decide +kernel)) rfl rfl rfl rfl hm_z
            obtain ⟨r796_z, h797_z, q798_z, hm_z⟩ := hm_z
            rcases rp_newB (nb := 0) (by omega) (by omega) q798_z with ⟨y1_z, rfl, y3_z⟩ | ⟨y1_z, rfl, y3_z, y4_z, y5_z, y6_z⟩ | ⟨y1_z, rfl, y5_z, y4_z, y6_z, y7_z⟩
            · exact absurd k2_z.1 y1_z
            · subst y3_z
              replace hm_z : rn _ _ _ _ [.int 0] _ _ _ := hm_z
              replace hm_z := rn_ifF (am_cur_of (i := (31, 3, .ifCond .ne 5, (20, 0, 0), 0)) (by decide +kernel)) (by decide) hm_z
              replace hm_z := rn_iconst (w := 0) (am_cur_of (i := (34, 1, .iconst 0, (0, 0, 0), 0)) (by decide +kernel)) (by decide) hm_z
              replace hm_z := rn_iret (am_cur_of (i := (35, 1, .ireturn, (0, 0, 0), 0)) (by decide +kernel)) hm_z
              obtain ⟨e799_z, e800_z⟩ := hm_z
              subst e799_z e800_z
              exact Or.inr ⟨rfl, _, 3, by decide, K.1, K.2.trans R5, rfl, R6⟩
            · exact absurd (rp_fm_u hi2_z (k2_z.2 ▸ y5_z) names) b670_z.1
        · have K := rs_stick (a := 31) (by decide) (by decide) rfl (by decide) f1_z f2_z hc_z
          have k2_z := tk_n3 R10 k3_z
          replace hm_z := rn_aload_n (am_cur_of (i := (18, 1, .aload_n 0, (0, 0, 0), 0)) (by decide +kernel)) g0m hm_z
          replace hm_z := rn_aload_n (am_cur_of (i := (19, 1, .aload_n 0, (0, 0, 0), 0)) (by decide +kernel)) g0m hm_z
          replace hm_z := rn_getR (x := 169) (am_cur_of (i := (20, 3, .getfield 27, (12, 24, 1408), 0)) (by decide +kernel)) (by decide +kernel) hm_z
          replace hm_z := rn_iconst (w := 4) (am_cur_of (i := (23, 1, .iconst 4, (0, 0, 0), 0)) (by decide +kernel)) (by decide) hm_z
          replace hm_z := rn_aload_n (am_cur_of (i := (24, 1, .aload_n 0, (0, 0, 0), 0)) (by decide +kernel)) g0m hm_z
          replace hm_z := rn_getI (v := 0) (am_cur_of (i := (25, 3, .getfield 201, (12, 17, 1401), 0)) (by decide +kernel)) (by decide +kernel) (nb1_z.symm.trans ecb) hm_z
          replace hm_z := rn_callV (M' := am_m164) (o := 164) (ar := [.int 0, .int 4, .ref 169]) (rest := []) (L := lv_args 0 [.ref 164, .ref 169, .int 4, .int 0]) (am_cur_of (i := (28, 3, .invokevirtual 248, (164, 1688, 3), 0)) (by decide +kernel)) rfl rfl rfl rfl hm_z
          obtain ⟨r801_z, h802_z, q803_z, hm_z⟩ := hm_z
          rcases rp_newB (nb := 0) (by omega) (by omega) q803_z with ⟨y1_z, rfl, y3_z⟩ | ⟨y1_z, rfl, y3_z, y4_z, y5_z, y6_z⟩ | ⟨y1_z, rfl, y5_z, y4_z, y6_z, y7_z⟩
          · subst y3_z
            replace hm_z : rn _ _ _ _ [.int 0] _ _ _ := hm_z
            replace hm_z := rn_ifF (am_cur_of (i := (31, 3, .ifCond .ne 5, (20, 0, 0), 0)) (by decide +kernel)) (by decide) hm_z
            replace hm_z := rn_iconst (w := 0) (am_cur_of (i := (34, 1, .iconst 0, (0, 0, 0), 0)) (by decide +kernel)) (by decide) hm_z
            replace hm_z := rn_iret (am_cur_of (i := (35, 1, .ireturn, (0, 0, 0), 0)) (by decide +kernel)) hm_z
            obtain ⟨e804_z, e805_z⟩ := hm_z
            subst e804_z e805_z
            exact Or.inr ⟨rfl, _, 1, by decide, K.1, K.2.trans R5, rfl, R6⟩
          · exact absurd y1_z k2_z
          · exact absurd y1_z k2_z
      · obtain rfl : cb = 1 := rt_i32 (q4_z.trans (by decide))
        replace hc_z := rn_ifF (am_cur_of (i := (12, 3, .ifCond .eq 10, (10, 0, 0), 0)) (by decide +kernel)) (by decide) hc_z
        replace hc_z := rn_aload_n (am_cur_of (i := (15, 1, .aload_n 0, (0, 0, 0), 0)) (by decide +kernel)) g0_z hc_z
        replace hc_z := rn_callV (M' := am_m33) (o := 44) (ar := []) (rest := []) (L := lv_args 0 [.ref 44]) (am_cur_of (i := (16, 3, .invokevirtual 158, (33, 785, 3), 0)) (by decide +kernel)) rfl rfl rfl rfl hc_z
        obtain ⟨r806_z, h807_z, q808_z, hc_z⟩ := hc_z
        rcases rp_own R4 q808_z with ⟨k3_z, rfl, eh⟩ | ⟨k3_z, f1_z, f2_z⟩
        · replace eh := eh.symm
          subst eh
          have k2_z := tk_3 R10 k3_z
          replace hc_z : rn _ _ _ _ [.int 1] _ _ _ := hc_z
          replace hc_z := rn_ifT (am_cur_of (i := (19, 3, .ifCond .ne 4, (11, 0, 0), 0)) (by decide +kernel)) (by decide) hc_z
          replace hc_z := rn_aload_n (am_cur_of (i := (23, 1, .aload_n 0, (0, 0, 0), 0)) (by decide +kernel)) g0_z hc_z
          replace hc_z := rn_getM (x := 2) (am_cur_of (i := (24, 3, .getfield 25, (4, 6, 415), 0)) (by decide +kernel)) R3 hc_z
          replace hc_z := rn_aload_n (am_cur_of (i := (27, 1, .aload_n 0, (0, 0, 0), 0)) (by decide +kernel)) g0_z hc_z
          replace hc_z := rn_getI (v := rg_v h652_z 44 11) (am_cur_of (i := (28, 3, .getfield 91, (4, 11, 420), 0)) (by decide +kernel)) (by decide +kernel) rfl hc_z
          replace hc_z := rn_callV (M' := am_m34) (o := 2) (ar := [.int (rg_v h652_z 44 11)]) (rest := []) (L := lv_args 0 [.ref 2, .int (rg_v h652_z 44 11)]) (am_cur_of (i := (31, 3, .invokevirtual 162, (34, 789, 3), 0)) (by decide +kernel)) rfl rfl rfl rfl hc_z
          obtain ⟨r809_z, h810_z, q811_z, hc_z⟩ := hc_z
          obtain ⟨eh, i2_z, rfl, hi2_z⟩ := rp_bn2 ecb (by omega) q811_z
          replace eh := eh.symm
          subst eh
          have hib := rp_fm_b hi2_z (by omega)
          have names : ∀ b : Nat, (b : Int) < (1 : Int32).toInt → rg_v h652_z (19 + b) 0 = rg_v h662_z 169 (4 + b) := by
            intro b hb_z
            match b with
            | 0 => exact AC0 (by rw [ecb]; exact hb_z) 0 (by decide)
            | 1 => exact AC1 (by rw [ecb]; exact hb_z) 0 (by decide)
            | 2 => exact AC2 (by rw [ecb]; exact hb_z) 0 (by decide)
            | 3 => exact AC3 (by rw [ecb]; exact hb_z) 0 (by decide)
            | b + 4 => omega
          replace hc_z : rn _ _ _ _ [.int i2_z] _ _ _ := hc_z
          replace hc_z := rn_iconst (w := (-1)) (am_cur_of (i := (34, 1, .iconst (-1), (0, 0, 0), 0)) (by decide +kernel)) (by decide) hc_z
          replace hc_z := rn_cmp (am_cur_of (i := (35, 3, .if_icmp .eq 9, (22, 0, 0), 0)) (by decide +kernel)) hc_z
          rcases hc_z with ⟨b812_z, hc_z⟩ | ⟨b812_z, hc_z⟩
          · replace b812_z : i2_z = ((-1) : Int32) ∧ i2_z.toInt = ((-1) : Int32).toInt := b812_z
            replace hc_z := rn_aload_n (am_cur_of (i := (44, 1, .aload_n 0, (0, 0, 0), 0)) (by decide +kernel)) g0_z hc_z
            replace hc_z := rn_getM (x := 2) (am_cur_of (i := (45, 3, .getfield 25, (4, 6, 415), 0)) (by decide +kernel)) R3 hc_z
            replace hc_z := rn_getR (x := 3) (am_cur_of (i := (48, 3, .getfield 166, (1, 3, 265), 0)) (by decide +kernel)) (by decide +kernel) hc_z
            replace hc_z := rn_aload_n (am_cur_of (i := (51, 1, .aload_n 0, (0, 0, 0), 0)) (by decide +kernel)) g0_z hc_z
            replace hc_z := rn_getM (x := 2) (am_cur_of (i := (52, 3, .getfield 25, (4, 6, 415), 0)) (by decide +kernel)) R3 hc_z
            replace hc_z := rn_getI (v := 1) (am_cur_of (i := (55, 3, .getfield 151, (1, 2, 259), 0)) (by decide +kernel)) (by decide +kernel) ecb hc_z
            replace hc_z := rn_aaload (s := "AirBed$Blower") (N := 4) (q := 1) (am_cur_of (i := (58, 1, .aaload, (0, 0, 0), 0)) (by decide +kernel)) (by decide +kernel) rfl hc_z
            obtain ⟨p813_z, hc_z⟩ := hc_z
            rw [show rg_r h652_z 3 1 = 20 from rp_bc2 (rn_G hc_z) (q := 1) (by decide)] at hc_z
            replace hc_z := rn_astore_n (am_cur_of (i := (59, 1, .astore_n 1, (0, 0, 0), 0)) (by decide +kernel)) hc_z
            obtain ⟨_, s814_z, s815_z, g1_z, hc_z⟩ := hc_z
            replace g0_z := s814_z 0 _ (by decide) rfl g0_z
            clear s814_z s815_z
            replace hc_z := rn_aload_n (am_cur_of (i := (60, 1, .aload_n 1, (0, 0, 0), 0)) (by decide +kernel)) g1_z hc_z
            replace hc_z := rn_aload_n (am_cur_of (i := (61, 1, .aload_n 0, (0, 0, 0), 0)) (by decide +kernel)) g0_z hc_z
            replace hc_z := rn_getI (v := rg_v h652_z 44 11) (am_cur_of (i := (62, 3, .getfield 91, (4, 11, 420), 0)) (by decide +kernel)) (by decide +kernel) rfl hc_z
            replace hc_z := rn_put (am_cur_of (i := (65, 3, .putfield 170, (3, 0, 204), 0)) (by decide +kernel)) (by decide +kernel) hc_z
            replace hc_z := rn_aload_n (am_cur_of (i := (68, 1, .aload_n 0, (0, 0, 0), 0)) (by decide +kernel)) g0_z hc_z
            replace hc_z := rn_callV (M' := am_m19) (o := 44) (ar := []) (rest := []) (L := lv_args 0 [.ref 44]) (am_cur_of (i := (69, 3, .invokevirtual 57, (19, 727, 3), 0)) (by decide +kernel)) rfl rfl rfl rfl hc_z
            obtain ⟨r816_z, h817_z, q818_z, hc_z⟩ := hc_z
            have vo := rn_void rfl q818_z
            subst vo
            replace hm_z := rn_aload_n (am_cur_of (i := (18, 1, .aload_n 0, (0, 0, 0), 0)) (by decide +kernel)) g0m hm_z
            replace hm_z := rn_aload_n (am_cur_of (i := (19, 1, .aload_n 0, (0, 0, 0), 0)) (by decide +kernel)) g0m hm_z
            replace hm_z := rn_getR (x := 169) (am_cur_of (i := (20, 3, .getfield 27, (12, 24, 1408), 0)) (by decide +kernel)) (by decide +kernel) hm_z
            replace hm_z := rn_iconst (w := 4) (am_cur_of (i := (23, 1, .iconst 4, (0, 0, 0), 0)) (by decide +kernel)) (by decide) hm_z
            replace hm_z := rn_aload_n (am_cur_of (i := (24, 1, .aload_n 0, (0, 0, 0), 0)) (by decide +kernel)) g0m hm_z
            replace hm_z := rn_getI (v := 1) (am_cur_of (i := (25, 3, .getfield 201, (12, 17, 1401), 0)) (by decide +kernel)) (by decide +kernel) (nb1_z.symm.trans ecb) hm_z
            replace hm_z := rn_callV (M' := am_m164) (o := 164) (ar := [.int 1, .int 4, .ref 169]) (rest := []) (L := lv_args 0 [.ref 164, .ref 169, .int 4, .int 1]) (am_cur_of (i := (28, 3, .invokevirtual 248, (164, 1688, 3), 0)) (by decide +kernel)) rfl rfl rfl rfl hm_z
            obtain ⟨r819_z, h820_z, q821_z, hm_z⟩ := hm_z
            rcases rp_newB (nb := 1) (by omega) (by omega) q821_z with ⟨y1_z, rfl, y3_z⟩ | ⟨y1_z, rfl, y3_z, y4_z, y5_z, y6_z⟩ | ⟨y1_z, rfl, y5_z, y4_z, y6_z, y7_z⟩
            · exact absurd k2_z.1 y1_z
            · have ei := rp_fm_u hi2_z (k2_z.2 ▸ y5_z) names
              rw [← ei] at y6_z
              omega
            · have vo := rn_void rfl y7_z
              subst vo
              have R' : rq T S x1_z p1_z 2 (am_up h652_z 20 0 (.int (rg_v h652_z 44 11))) (am_up h662_z 169 5 (.int (rg_v h662_z 164 9))) := ⟨⟨c1_z, c2_z, c3_z, c4_z, c5_z, c6_z, fun k hk_z => c7_z k hk_z, fun k hk_z => c8_z k hk_z⟩, ⟨m2_z, m3_z, m4_z, m5_z, m6_z, fun k hk_z => m7_z k hk_z, fun k hk_z => m8_z k hk_z⟩, R3, R4, R5, R6, R7, R8, R9, R10⟩
              have A' : rp 2 (am_up h652_z 20 0 (.int (rg_v h652_z 44 11))) (am_up h662_z 169 5 (.int (rg_v h662_z 164 9))) := ⟨⟨a1_z, a2_z, a3_z, a4_z, a5_z, a6_z⟩, ⟨nb1_z, nb2_z, nb3_z⟩, ⟨nt1_z, nt2_z, nt3_z⟩, ⟨nl1_z, nl2_z, nl3_z⟩, ⟨nr1_z, nr2_z, nr3_z⟩, ⟨nk1_z, nk2_z, nk3_z⟩, ⟨fun hb_z k hk_z => AC0 hb_z k hk_z, fun hb_z => absurd hb_z (by rw [show rg_v (am_up h652_z 20 0 (.int (rg_v h652_z 44 11))) 2 2 = 1 from ecb]; decide), fun hb_z => absurd hb_z (by rw [show rg_v (am_up h652_z 20 0 (.int (rg_v h652_z 44 11))) 2 2 = 1 from ecb]; decide), fun hb_z => absurd hb_z (by rw [show rg_v (am_up h652_z 20 0 (.int (rg_v h652_z 44 11))) 2 2 = 1 from ecb]; decide)⟩, fun t ht => AD t ht, fun t ht => AE t ht, fun t ht => AG t ht⟩
              have B' : rp_t (am_up h652_z 20 0 (.int (rg_v h652_z 44 11))) (am_up h662_z 169 5 (.int (rg_v h662_z 164 9))) := by
                obtain ⟨b0_z, b1_z, b2_z, b3_z, b4_z, b5_z, b6_z, t, o0_z, o1_z, o2_z, o3_z, o4_z, o5_z, o6_z⟩ := B
                exact ⟨b0_z, b1_z, b2_z, b3_z, b4_z, b5_z, b6_z, t, o0_z, o1_z, o2_z, o3_z, o4_z, o5_z, o6_z⟩
              obtain ⟨-, -, x10_z, p10_z, R, le10_z, t5_z, t6_z⟩ := pr_tok (rq_0 R') q818_z y7_z
              replace A := rp_x (by decide) A' (rx_C_f t5_z) (rx_M_f t6_z)
              replace B := rp_tk B' (rg_v_fr t5_z (by decide)) (fun k => rg_v_fr t6_z (rg_v_in (by decide) k)) (rx_M_f t6_z)
              clear A' B' R'
              replace le10_z : x.toInt ≤ p10_z.toInt := Int.le_trans (Int.le_trans le1_z R8) le10_z
              replace ecb : rg_v h817_z 2 2 = 1 := (rx_v (rx_C_f t5_z) (o := 2) (k := 2) (by decide)).trans ecb
              replace ect : rg_v h817_z 2 4 = ct := (rx_v (rx_C_f t5_z) (o := 2) (k := 4) (by decide)).trans ect
              replace ecl : rg_v h817_z 2 9 = cl := (rx_v (rx_C_f t5_z) (o := 2) (k := 9) (by decide)).trans ecl
              replace ecr : rg_v h817_z 2 12 = cr := (rx_v (rx_C_f t5_z) (o := 2) (k := 12) (by decide)).trans ecr
              have E0 : rg_v h817_z 20 0 = rg_v h820_z 169 5 := (rx_v (rx_C_f t5_z) (o := 20) (k := 0) (by decide)).trans (Eq.trans (k2_z.2) (rx_w (rx_M_f t6_z) (o := 169) (k := 5) (by omega) (by decide)).symm)
              replace hm_z : rn _ _ _ _ [.int 1] _ _ _ := hm_z
              replace hc_z : rn _ _ _ _ [] _ _ _ := hc_z
              clear a1_z a2_z a3_z a4_z a5_z a6_z nb1_z nb2_z nb3_z nt1_z nt2_z nt3_z nl1_z nl2_z nl3_z nr1_z nr2_z nr3_z nk1_z nk2_z nk3_z AC0 AC1 AC2 AC3 AD AE AG c1_z c2_z c3_z c4_z c5_z c6_z c7_z c8_z m2_z m3_z m4_z m5_z m6_z m7_z m8_z R3 R4 R5 R6 R7 R8 R9 R10
              obtain ⟨⟨⟨a1_z, a2_z, a3_z, a4_z, a5_z, a6_z⟩, ⟨nb1_z, nb2_z, nb3_z⟩, ⟨nt1_z, nt2_z, nt3_z⟩, ⟨nl1_z, nl2_z, nl3_z⟩, ⟨nr1_z, nr2_z, nr3_z⟩, ⟨nk1_z, nk2_z, nk3_z⟩, ⟨AC0, AC1, AC2, AC3⟩, AD, AE, AG⟩, ⟨⟨c1_z, c2_z, c3_z, c4_z, c5_z, c6_z, c7_z, c8_z⟩, ⟨m2_z, m3_z, m4_z, m5_z, m6_z, m7_z, m8_z⟩, R3, R4, R5, R6, R7, R8, R9, R10⟩⟩ := (⟨A, R⟩ : rp 2 h817_z h820_z ∧ rq T S x10_z p10_z 2 h817_z h820_z)
              replace hc_z := rn_aload_n (am_cur_of (i := (72, 1, .aload_n 1, (0, 0, 0), 0)) (by decide +kernel)) g1_z hc_z
              replace hc_z := rn_aload_n (am_cur_of (i := (73, 1, .aload_n 0, (0, 0, 0), 0)) (by decide +kernel)) g0_z hc_z
              replace hc_z := rn_iconst (w := 1) (am_cur_of (i := (74, 1, .iconst 1, (0, 0, 0), 0)) (by decide +kernel)) (by decide) hc_z
              replace hc_z := rn_bipush (w := 99) (am_cur_of (i := (75, 2, .bipush 99, (0, 0, 0), 0)) (by decide +kernel)) (by decide) hc_z
              replace hc_z := rn_callV (M' := am_m30) (o := 44) (ar := [.int 99, .int 1]) (rest := [.ref 20]) (L := lv_args 0 [.ref 44, .int 1, .int 99]) (am_cur_of (i := (77, 3, .invokevirtual 142, (30, 773, 3), 0)) (by decide +kernel)) rfl rfl rfl rfl hc_z
              obtain ⟨r822_z, h823_z, q824_z, hc_z⟩ := hc_z
              replace hm_z := rn_ifT (am_cur_of (i := (31, 3, .ifCond .ne 5, (20, 0, 0), 0)) (by decide +kernel)) (by decide) hm_z
              replace hm_z := rn_bipush (w := 28) (am_cur_of (i := (36, 2, .bipush 28, (0, 0, 0), 0)) (by decide +kernel)) (by decide) hm_z
              replace hm_z := rn_bipush (w := 7) (am_cur_of (i := (38, 2, .bipush 7, (0, 0, 0), 0)) (by decide +kernel)) (by decide) hm_z
              replace hm_z := rn_aload_n (am_cur_of (i := (40, 1, .aload_n 0, (0, 0, 0), 0)) (by decide +kernel)) g0m hm_z
              replace hm_z := rn_getI (v := 1) (am_cur_of (i := (41, 3, .getfield 201, (12, 17, 1401), 0)) (by decide +kernel)) (by decide +kernel) (nb1_z.symm.trans ecb) hm_z
              replace hm_z := rn_imul (w := 7) (am_cur_of (i := (44, 1, .imul, (0, 0, 0), 0)) (by decide +kernel)) (by decide) hm_z
              replace hm_z := rn_iadd (w := 35) (am_cur_of (i := (45, 1, .iadd, (0, 0, 0), 0)) (by decide +kernel)) (by decide) hm_z
              replace hm_z := rn_istore_n (am_cur_of (i := (46, 1, .istore_n 1, (0, 0, 0), 0)) (by decide +kernel)) hm_z
              obtain ⟨_, s825_z, s826_z, g1m, hm_z⟩ := hm_z
              replace g0m := s825_z 0 _ (by decide) rfl g0m
              clear s825_z s826_z
              replace hm_z := rn_iconst (w := 0) (am_cur_of (i := (47, 1, .iconst 0, (0, 0, 0), 0)) (by decide +kernel)) (by decide) hm_z
              replace hm_z := rn_istore_n (am_cur_of (i := (48, 1, .istore_n 2, (0, 0, 0), 0)) (by decide +kernel)) hm_z
              obtain ⟨_, s827_z, s828_z, g2m, hm_z⟩ := hm_z
              replace g0m := s827_z 0 _ (by decide) rfl g0m
              replace g1m := s827_z 1 _ (by decide) rfl g1m
              clear s827_z s828_z
              replace hm_z := rn_iload_n (am_cur_of (i := (49, 1, .iload_n 2, (0, 0, 0), 0)) (by decide +kernel)) g2m hm_z
              replace hm_z := rn_bipush (w := 7) (am_cur_of (i := (50, 2, .bipush 7, (0, 0, 0), 0)) (by decide +kernel)) (by decide) hm_z
              replace hm_z := rn_cmpF (am_cur_of (i := (52, 3, .if_icmp .ge 87, (79, 0, 0), 0)) (by decide +kernel)) (by decide) hm_z
              replace hm_z := rn_iload_n (am_cur_of (i := (55, 1, .iload_n 2, (0, 0, 0), 0)) (by decide +kernel)) g2m hm_z
              replace hm_z := rn_ifT (am_cur_of (i := (56, 3, .ifCond .eq 13, (40, 0, 0), 0)) (by decide +kernel)) (by decide) hm_z
              replace hm_z := rn_iconst (w := 1) (am_cur_of (i := (69, 1, .iconst 1, (0, 0, 0), 0)) (by decide +kernel)) (by decide) hm_z
              replace hm_z := rn_goto (am_cur_of (i := (70, 3, .goto 4, (43, 0, 0), 0)) (by decide +kernel)) hm_z
              replace hm_z := rn_istore_n (am_cur_of (i := (74, 1, .istore_n 3, (0, 0, 0), 0)) (by decide +kernel)) hm_z
              obtain ⟨_, s829_z, s830_z, g3m, hm_z⟩ := hm_z
              replace g0m := s829_z 0 _ (by decide) rfl g0m
              replace g1m := s829_z 1 _ (by decide) rfl g1m
              replace g2m := s829_z 2 _ (by decide) rfl g2m
              clear s829_z s830_z
              replace hm_z := rn_iload_n (am_cur_of (i := (75, 1, .iload_n 2, (0, 0, 0), 0)) (by decide +kernel)) g2m hm_z
              replace hm_z := rn_iconst (w := 1) (am_cur_of (i := (76, 1, .iconst 1, (0, 0, 0), 0)) (by decide +kernel)) (by decide) hm_z
              replace hm_z := rn_cmpF (am_cur_of (i := (77, 3, .if_icmp .eq 8, (50, 0, 0), 0)) (by decide +kernel)) (by decide) hm_z
              replace hm_z := rn_iload_n (am_cur_of (i := (80, 1, .iload_n 2, (0, 0, 0), 0)) (by decide +kernel)) g2m hm_z
              replace hm_z := rn_iconst (w := 2) (am_cur_of (i := (81, 1, .iconst 2, (0, 0, 0), 0)) (by decide +kernel)) (by decide) hm_z
              replace hm_z := rn_cmpT (am_cur_of (i := (82, 3, .if_icmp .ne 8, (52, 0, 0), 0)) (by decide +kernel)) (by decide) hm_z
              replace hm_z := rn_iload_n (am_cur_of (i := (90, 1, .iload_n 2, (0, 0, 0), 0)) (by decide +kernel)) g2m hm_z
              replace hm_z := rn_iconst (w := 3) (am_cur_of (i := (91, 1, .iconst 3, (0, 0, 0), 0)) (by decide +kernel)) (by decide) hm_z
              replace hm_z := rn_cmpF (am_cur_of (i := (92, 3, .if_icmp .eq 8, (58, 0, 0), 0)) (by decide +kernel)) (by decide) hm_z
              replace hm_z := rn_iload_n (am_cur_of (i := (95, 1, .iload_n 2, (0, 0, 0), 0)) (by decide +kernel)) g2m hm_z
              replace hm_z := rn_iconst (w := 5) (am_cur_of (i := (96, 1, .iconst 5, (0, 0, 0), 0)) (by decide +kernel)) (by decide) hm_z
              replace hm_z := rn_cmpT (am_cur_of (i := (97, 3, .if_icmp .ne 8, (60, 0, 0), 0)) (by decide +kernel)) (by decide) hm_z
              replace hm_z := rn_bipush (w := 99) (am_cur_of (i := (105, 2, .bipush 99, (0, 0, 0), 0)) (by decide +kernel)) (by decide) hm_z
              replace hm_z := rn_istore (am_cur_of (i := (107, 2, .istore 4, (0, 0, 0), 0)) (by decide +kernel)) hm_z
              obtain ⟨_, s831_z, s832_z, g4m, hm_z⟩ := hm_z
              replace g0m := s831_z 0 _ (by decide) rfl g0m
              replace g1m := s831_z 1 _ (by decide) rfl g1m
              replace g2m := s831_z 2 _ (by decide) rfl g2m
              replace g3m := s831_z 3 _ (by decide) rfl g3m
              clear s831_z s832_z
              replace hm_z := rn_aload_n (am_cur_of (i := (109, 1, .aload_n 0, (0, 0, 0), 0)) (by decide +kernel)) g0m hm_z
              replace hm_z := rn_iload_n (am_cur_of (i := (110, 1, .iload_n 3, (0, 0, 0), 0)) (by decide +kernel)) g3m hm_z
              replace hm_z := rn_iload (am_cur_of (i := (111, 2, .iload 4, (0, 0, 0), 0)) (by decide +kernel)) g4m hm_z
              replace hm_z := rn_callV (M' := am_m161) (o := 164) (ar := [.int 99, .int 1]) (rest := []) (L := lv_args 0 [.ref 164, .int 1, .int 99]) (am_cur_of (i := (113, 3, .invokevirtual 197, (161, 1677, 3), 0)) (by decide +kernel)) rfl rfl rfl rfl hm_z
              obtain ⟨r833_z, h834_z, q835_z, hm_z⟩ := hm_z
              have R' : rq T S x10_z p10_z 2 h817_z h820_z := ⟨⟨c1_z, c2_z, c3_z, c4_z, c5_z, c6_z, fun k hk_z => c7_z k hk_z, fun k hk_z => c8_z k hk_z⟩, ⟨m2_z, m3_z, m4_z, m5_z, m6_z, fun k hk_z => m7_z k hk_z, fun k hk_z => m8_z k hk_z⟩, R3, R4, R5, R6, R7, R8, R9, R10⟩
              have A' : rp 2 h817_z h820_z := ⟨⟨a1_z, a2_z, a3_z, a4_z, a5_z, a6_z⟩, ⟨nb1_z, nb2_z, nb3_z⟩, ⟨nt1_z, nt2_z, nt3_z⟩, ⟨nl1_z, nl2_z, nl3_z⟩, ⟨nr1_z, nr2_z, nr3_z⟩, ⟨nk1_z, nk2_z, nk3_z⟩, ⟨(fun hb_z k hk_z => by match k, hk_z with | 0, _ => exact AC0 hb_z 0 (by decide) | 1, _ => exact AC0 hb_z 1 (by decide) | 2, _ => exact AC0 hb_z 2 (by decide) | 3, _ => exact AC0 hb_z 3 (by decide) | 4, _ => exact AC0 hb_z 4 (by decide) | 5, _ => exact AC0 hb_z 5 (by decide) | 6, _ => exact AC0 hb_z 6 (by decide) | 7, _ => exact AC0 hb_z 7 (by decide)), fun hb_z => absurd hb_z (by rw [show rg_v h817_z 2 2 = 1 from ecb]; decide), fun hb_z => absurd hb_z (by rw [show rg_v h817_z 2 2 = 1 from ecb]; decide), fun hb_z => absurd hb_z (by rw [show rg_v h817_z 2 2 = 1 from ecb]; decide)⟩, fun t ht => AD t ht, fun t ht => AE t ht, fun t ht => AG t ht⟩
              have B' : rp_t h817_z h820_z := by
                obtain ⟨b0_z, b1_z, b2_z, b3_z, b4_z, b5_z, b6_z, t, o0_z, o1_z, o2_z, o3_z, o4_z, o5_z, o6_z⟩ := B
                exact ⟨b0_z, b1_z, b2_z, b3_z, b4_z, b5_z, b6_z, t, o0_z, o1_z, o2_z, o3_z, o4_z, o5_z, o6_z⟩
              rcases pr_num R' (by decide) (by decide) q824_z q835_z with ⟨v11_z, x11_z, p11_z, rfl, rfl, lo11_z, hi11_z, R, le11_z, got, X, Y, t7_z, t167_z⟩ | ⟨rfl, F⟩
              · replace A := rp_x (by decide) A' X Y
                replace B := rp_tk B' t7_z t167_z Y
                clear A' B' R'
                replace le11_z : x.toInt ≤ p11_z.toInt := Int.le_trans (Int.le_trans le10_z R8) le11_z
                replace ecb : rg_v h823_z 2 2 = 1 := (rx_v X (o := 2) (k := 2) (by decide)).trans ecb
                replace ect : rg_v h823_z 2 4 = ct := (rx_v X (o := 2) (k := 4) (by decide)).trans ect
                replace ecl : rg_v h823_z 2 9 = cl := (rx_v X (o := 2) (k := 9) (by decide)).trans ecl
                replace ecr : rg_v h823_z 2 12 = cr := (rx_v X (o := 2) (k := 12) (by decide)).trans ecr
                replace E0 : rg_v h823_z 20 0 = rg_v h834_z 169 5 := (rx_v X (o := 20) (k := 0) (by decide)).trans (E0.trans (rx_w Y (o := 169) (k := 5) (by omega) (by decide)).symm)
                replace hm_z : rn _ _ _ _ [.int 1] _ _ _ := hm_z
                replace hc_z : rn _ _ _ _ [.int v11_z, .ref 20] _ _ _ := hc_z
                clear a1_z a2_z a3_z a4_z a5_z a6_z nb1_z nb2_z nb3_z nt1_z nt2_z nt3_z nl1_z nl2_z nl3_z nr1_z nr2_z nr3_z nk1_z nk2_z nk3_z AC0 AC1 AC2 AC3 AD AE AG c1_z c2_z c3_z c4_z c5_z c6_z c7_z c8_z m2_z m3_z m4_z m5_z m6_z m7_z m8_z R3 R4 R5 R6 R7 R8 R9 R10
                obtain ⟨⟨⟨a1_z, a2_z, a3_z, a4_z, a5_z, a6_z⟩, ⟨nb1_z, nb2_z, nb3_z⟩, ⟨nt1_z, nt2_z, nt3_z⟩, ⟨nl1_z, nl2_z, nl3_z⟩, ⟨nr1_z, nr2_z, nr3_z⟩, ⟨nk1_z, nk2_z, nk3_z⟩, ⟨AC0, AC1, AC2, AC3⟩, AD, AE, AG⟩, ⟨⟨c1_z, c2_z, c3_z, c4_z, c5_z, c6_z, c7_z, c8_z⟩, ⟨m2_z, m3_z, m4_z, m5_z, m6_z, m7_z, m8_z⟩, R3, R4, R5, R6, R7, R8, R9, R10⟩⟩ := (⟨A, R⟩ : rp 2 h823_z h834_z ∧ rq T S x11_z p11_z 2 h823_z h834_z)
                replace hc_z := rn_put (am_cur_of (i := (80, 3, .putfield 175, (3, 1, 206), 0)) (by decide +kernel)) (by decide +kernel) hc_z
                replace hc_z := rn_aload_n (am_cur_of (i := (83, 1, .aload_n 1, (0, 0, 0), 0)) (by decide +kernel)) g1_z hc_z
                replace hc_z := rn_aload_n (am_cur_of (i := (84, 1, .aload_n 0, (0, 0, 0), 0)) (by decide +kernel)) g0_z hc_z
                replace hc_z := rn_iconst (w := 0) (am_cur_of (i := (85, 1, .iconst 0, (0, 0, 0), 0)) (by decide +kernel)) (by decide) hc_z
                replace hc_z := rn_bipush (w := 20) (am_cur_of (i := (86, 2, .bipush 20, (0, 0, 0), 0)) (by decide +kernel)) (by decide) hc_z
                replace hc_z := rn_callV (M' := am_m30) (o := 44) (ar := [.int 20, .int 0]) (rest := [.ref 20]) (L := lv_args 0 [.ref 44, .int 0, .int 20]) (am_cur_of (i := (88, 3, .invokevirtual 142, (30, 773, 3), 0)) (by decide +kernel)) rfl rfl rfl rfl hc_z
                obtain ⟨r836_z, h837_z, q838_z, hc_z⟩ := hc_z
                replace hm_z := rn_ifT (am_cur_of (i := (116, 3, .ifCond .ne 5, (69, 0, 0), 0)) (by decide +kernel)) (by decide) hm_z
                replace hm_z := rn_aload_n (am_cur_of (i := (121, 1, .aload_n 0, (0, 0, 0), 0)) (by decide +kernel)) g0m hm_z
                replace hm_z := rn_getR (x := 170) (am_cur_of (i := (122, 3, .getfield 30, (12, 25, 1409), 0)) (by decide +kernel)) (by decide +kernel) hm_z
                replace hm_z := rn_iload_n (am_cur_of (i := (125, 1, .iload_n 1, (0, 0, 0), 0)) (by decide +kernel)) g1m hm_z
                replace hm_z := rn_iload_n (am_cur_of (i := (126, 1, .iload_n 2, (0, 0, 0), 0)) (by decide +kernel)) g2m hm_z
                replace hm_z := rn_iadd (w := 35) (am_cur_of (i := (127, 1, .iadd, (0, 0, 0), 0)) (by decide +kernel)) (by decide) hm_z
                replace hm_z := rn_aload_n (am_cur_of (i := (128, 1, .aload_n 0, (0, 0, 0), 0)) (by decide +kernel)) g0m hm_z
                replace hm_z := rn_getI (v := v11_z) (am_cur_of (i := (129, 3, .getfield 188, (12, 11, 1395), 0)) (by decide +kernel)) (by decide +kernel) got hm_z
                replace hm_z := rn_iastore (N := 56) (q := 35) (am_cur_of (i := (132, 1, .iastore, (0, 0, 0), 0)) (by decide +kernel)) (by decide +kernel) rfl hm_z
                obtain ⟨p839_z, hm_z⟩ := hm_z
                replace hm_z := rn_iinc (w := 1) (am_cur_of (i := (133, 3, .iinc 2 1, (0, 0, 0), 0)) (by decide +kernel)) g2m (by decide) hm_z
                obtain ⟨_, s840_z, s841_z, g2m, hm_z⟩ := hm_z
                replace g0m := s840_z 0 _ (by decide) rfl g0m
                replace g1m := s840_z 1 _ (by decide) rfl g1m
                replace g3m := s840_z 3 _ (by decide) rfl g3m
                replace g4m := s840_z 4 _ (by decide) rfl g4m
                clear s840_z s841_z
                replace hm_z := rn_goto (am_cur_of (i := (136, 3, .goto (-87), (29, 0, 0), 0)) (by decide +kernel)) hm_z
                replace hm_z := rn_iload_n (am_cur_of (i := (49, 1, .iload_n 2, (0, 0, 0), 0)) (by decide +kernel)) g2m hm_z
                replace hm_z := rn_bipush (w := 7) (am_cur_of (i := (50, 2, .bipush 7, (0, 0, 0), 0)) (by decide +kernel)) (by decide) hm_z
                replace hm_z := rn_cmpF (am_cur_of (i := (52, 3, .if_icmp .ge 87, (79, 0, 0), 0)) (by decide +kernel)) (by decide) hm_z
                replace hm_z := rn_iload_n (am_cur_of (i := (55, 1, .iload_n 2, (0, 0, 0), 0)) (by decide +kernel)) g2m hm_z
                replace hm_z := rn_ifF (am_cur_of (i := (56, 3, .ifCond .eq 13, (40, 0, 0), 0)) (by decide +kernel)) (by decide) hm_z
                replace hm_z := rn_iload_n (am_cur_of (i := (59, 1, .iload_n 2, (0, 0, 0), 0)) (by decide +kernel)) g2m hm_z
                replace hm_z := rn_iconst (w := 2) (am_cur_of (i := (60, 1, .iconst 2, (0, 0, 0), 0)) (by decide +kernel)) (by decide) hm_z
                replace hm_z := rn_cmpF (am_cur_of (i := (61, 3, .if_icmp .eq 8, (40, 0, 0), 0)) (by decide +kernel)) (by decide) hm_z
                replace hm_z := rn_iload_n (am_cur_of (i := (64, 1, .iload_n 2, (0, 0, 0), 0)) (by decide +kernel)) g2m hm_z
                replace hm_z := rn_iconst (w := 3) (am_cur_of (i := (65, 1, .iconst 3, (0, 0, 0), 0)) (by decide +kernel)) (by decide) hm_z
                replace hm_z := rn_cmpT (am_cur_of (i := (66, 3, .if_icmp .ne 7, (42, 0, 0), 0)) (by decide +kernel)) (by decide) hm_z
                replace hm_z := rn_iconst (w := 0) (am_cur_of (i := (73, 1, .iconst 0, (0, 0, 0), 0)) (by decide +kernel)) (by decide) hm_z
                replace hm_z := rn_istore_n (am_cur_of (i := (74, 1, .istore_n 3, (0, 0, 0), 0)) (by decide +kernel)) hm_z
                obtain ⟨_, s842_z, s843_z, g3m, hm_z⟩ := hm_z
                replace g0m := s842_z 0 _ (by decide) rfl g0m
                replace g1m := s842_z 1 _ (by decide) rfl g1m
                replace g2m := s842_z 2 _ (by decide) rfl g2m
                replace g4m := s842_z 4 _ (by decide) rfl g4m
                clear s842_z s843_z
                replace hm_z := rn_iload_n (am_cur_of (i := (75, 1, .iload_n 2, (0, 0, 0), 0)) (by decide +kernel)) g2m hm_z
                replace hm_z := rn_iconst (w := 1) (am_cur_of (i := (76, 1, .iconst 1, (0, 0, 0), 0)) (by decide +kernel)) (by decide) hm_z
                replace hm_z := rn_cmpT (am_cur_of (i := (77, 3, .if_icmp .eq 8, (50, 0, 0), 0)) (by decide +kernel)) (by decide) hm_z
                replace hm_z := rn_bipush (w := 20) (am_cur_of (i := (85, 2, .bipush 20, (0, 0, 0), 0)) (by decide +kernel)) (by decide) hm_z
                replace hm_z := rn_goto (am_cur_of (i := (87, 3, .goto 20, (61, 0, 0), 0)) (by decide +kernel)) hm_z
                replace hm_z := rn_istore (am_cur_of (i := (107, 2, .istore 4, (0, 0, 0), 0)) (by decide +kernel)) hm_z
                obtain ⟨_, s844_z, s845_z, g4m, hm_z⟩ := hm_z
                replace g0m := s844_z 0 _ (by decide) rfl g0m
                replace g1m := s844_z 1 _ (by decide) rfl g1m
                replace g2m := s844_z 2 _ (by decide) rfl g2m
                replace g3m := s844_z 3 _ (by decide) rfl g3m
                clear s844_z s845_z
                replace hm_z := rn_aload_n (am_cur_of (i := (109, 1, .aload_n 0, (0, 0, 0), 0)) (by decide +kernel)) g0m hm_z
                replace hm_z := rn_iload_n (am_cur_of (i := (110, 1, .iload_n 3, (0, 0, 0), 0)) (by decide +kernel)) g3m hm_z
                replace hm_z := rn_iload (am_cur_of (i := (111, 2, .iload 4, (0, 0, 0), 0)) (by decide +kernel)) g4m hm_z
                replace hm_z := rn_callV (M' := am_m161) (o := 164) (ar := [.int 20, .int 0]) (rest := []) (L := lv_args 0 [.ref 164, .int 0, .int 20]) (am_cur_of (i := (113, 3, .invokevirtual 197, (161, 1677, 3), 0)) (by decide +kernel)) rfl rfl rfl rfl hm_z
                obtain ⟨r846_z, h847_z, q848_z, hm_z⟩ := hm_z
                have R' : rq T S x11_z p11_z 2 (am_up h823_z 20 1 (.int v11_z)) (am_up h834_z 170 35 (.int v11_z)) := ⟨⟨c1_z, c2_z, c3_z, c4_z, c5_z, c6_z, fun k hk_z => c7_z k hk_z, fun k hk_z => c8_z k hk_z⟩, ⟨m2_z, m3_z, m4_z, m5_z, m6_z, fun k hk_z => m7_z k hk_z, fun k hk_z => m8_z k hk_z⟩, R3, R4, R5, R6, R7, R8, R9, R10⟩
                have A' : rp 2 (am_up h823_z 20 1 (.int v11_z)) (am_up h834_z 170 35 (.int v11_z)) := ⟨⟨a1_z, a2_z, a3_z, a4_z, a5_z, a6_z⟩, ⟨nb1_z, nb2_z, nb3_z⟩, ⟨nt1_z, nt2_z, nt3_z⟩, ⟨nl1_z, nl2_z, nl3_z⟩, ⟨nr1_z, nr2_z, nr3_z⟩, ⟨nk1_z, nk2_z, nk3_z⟩, ⟨(fun hb_z k hk_z => by match k, hk_z with | 0, _ => exact AC0 hb_z 0 (by decide) | 1, _ => exact AC0 hb_z 1 (by decide) | 2, _ => exact AC0 hb_z 2 (by decide) | 3, _ => exact AC0 hb_z 3 (by decide) | 4, _ => exact AC0 hb_z 4 (by decide) | 5, _ => exact AC0 hb_z 5 (by decide) | 6, _ => exact AC0 hb_z 6 (by decide) | 7, _ => exact AC0 hb_z 7 (by decide)), fun hb_z => absurd hb_z (by rw [show rg_v (am_up h823_z 20 1 (.int v11_z)) 2 2 = 1 from ecb]; decide), fun hb_z => absurd hb_z (by rw [show rg_v (am_up h823_z 20 1 (.int v11_z)) 2 2 = 1 from ecb]; decide), fun hb_z => absurd hb_z (by rw [show rg_v (am_up h823_z 20 1 (.int v11_z)) 2 2 = 1 from ecb]; decide)⟩, fun t ht => AD t ht, fun t ht => AE t ht, fun t ht => AG t ht⟩
                have B' : rp_t (am_up h823_z 20 1 (.int v11_z)) (am_up h834_z 170 35 (.int v11_z)) := by
                  obtain ⟨b0_z, b1_z, b2_z, b3_z, b4_z, b5_z, b6_z, t, o0_z, o1_z, o2_z, o3_z, o4_z, o5_z, o6_z⟩ := B
                  exact ⟨b0_z, b1_z, b2_z, b3_z, b4_z, b5_z, b6_z, t, o0_z, o1_z, o2_z, o3_z, o4_z, o5_z, o6_z⟩
                rcases pr_num R' (by decide) (by decide) q838_z q848_z with ⟨v12_z, x12_z, p12_z, rfl, rfl, lo12_z, hi12_z, R, le12_z, got, X, Y, t7_z, t167_z⟩ | ⟨rfl, F⟩
                · replace A := rp_x (by decide) A' X Y
                  replace B := rp_tk B' t7_z t167_z Y
                  clear A' B' R'
                  replace le12_z : x.toInt ≤ p12_z.toInt := Int.le_trans (Int.le_trans le11_z R8) le12_z
                  replace ecb : rg_v h837_z 2 2 = 1 := (rx_v X (o := 2) (k := 2) (by decide)).trans ecb
                  replace ect : rg_v h837_z 2 4 = ct := (rx_v X (o := 2) (k := 4) (by decide)).trans ect
                  replace ecl : rg_v h837_z 2 9 = cl := (rx_v X (o := 2) (k := 9) (by decide)).trans ecl
                  replace ecr : rg_v h837_z 2 12 = cr := (rx_v X (o := 2) (k := 12) (by decide)).trans ecr
                  replace E0 : rg_v h837_z 20 0 = rg_v h847_z 169 5 := (rx_v X (o := 20) (k := 0) (by decide)).trans (E0.trans (rx_w Y (o := 169) (k := 5) (by omega) (by decide)).symm)
                  have E1 : rg_v h837_z 20 1 = rg_v h847_z 170 35 := (rx_v X (o := 20) (k := 1) (by decide)).trans (Eq.trans (rfl) (rx_w Y (o := 170) (k := 35) (by omega) (by decide)).symm)
                  replace hm_z : rn _ _ _ _ [.int 1] _ _ _ := hm_z
                  replace hc_z : rn _ _ _ _ [.int v12_z, .ref 20] _ _ _ := hc_z
                  clear a1_z a2_z a3_z a4_z a5_z a6_z nb1_z nb2_z nb3_z nt1_z nt2_z nt3_z nl1_z nl2_z nl3_z nr1_z nr2_z nr3_z nk1_z nk2_z nk3_z AC0 AC1 AC2 AC3 AD AE AG c1_z c2_z c3_z c4_z c5_z c6_z c7_z c8_z m2_z m3_z m4_z m5_z m6_z m7_z m8_z R3 R4 R5 R6 R7 R8 R9 R10
                  obtain ⟨⟨⟨a1_z, a2_z, a3_z, a4_z, a5_z, a6_z⟩, ⟨nb1_z, nb2_z, nb3_z⟩, ⟨nt1_z, nt2_z, nt3_z⟩, ⟨nl1_z, nl2_z, nl3_z⟩, ⟨nr1_z, nr2_z, nr3_z⟩, ⟨nk1_z, nk2_z, nk3_z⟩, ⟨AC0, AC1, AC2, AC3⟩, AD, AE, AG⟩, ⟨⟨c1_z, c2_z, c3_z, c4_z, c5_z, c6_z, c7_z, c8_z⟩, ⟨m2_z, m3_z, m4_z, m5_z, m6_z, m7_z, m8_z⟩, R3, R4, R5, R6, R7, R8, R9, R10⟩⟩ := (⟨A, R⟩ : rp 2 h837_z h847_z ∧ rq T S x12_z p12_z 2 h837_z h847_z)
                  replace hc_z := rn_put (am_cur_of (i := (91, 3, .putfield 178, (3, 2, 208), 0)) (by decide +kernel)) (by decide +kernel) hc_z
                  replace hc_z := rn_aload_n (am_cur_of (i := (94, 1, .aload_n 1, (0, 0, 0), 0)) (by decide +kernel)) g1_z hc_z
                  replace hc_z := rn_aload_n (am_cur_of (i := (95, 1, .aload_n 0, (0, 0, 0), 0)) (by decide +kernel)) g0_z hc_z
                  replace hc_z := rn_iconst (w := 1) (am_cur_of (i := (96, 1, .iconst 1, (0, 0, 0), 0)) (by decide +kernel)) (by decide) hc_z
                  replace hc_z := rn_bipush (w := 20) (am_cur_of (i := (97, 2, .bipush 20, (0, 0, 0), 0)) (by decide +kernel)) (by decide) hc_z
                  replace hc_z := rn_callV (M' := am_m30) (o := 44) (ar := [.int 20, .int 1]) (rest := [.ref 20]) (L := lv_args 0 [.ref 44, .int 1, .int 20]) (am_cur_of (i := (99, 3, .invokevirtual 142, (30, 773, 3), 0)) (by decide +kernel)) rfl rfl rfl rfl hc_z
                  obtain ⟨r849_z, h850_z, q851_z, hc_z⟩ := hc_z
                  replace hm_z := rn_ifT (am_cur_of (i := (116, 3, .ifCond .ne 5, (69, 0, 0), 0)) (by decide +kernel)) (by decide) hm_z
                  replace hm_z := rn_aload_n (am_cur_of (i := (121, 1, .aload_n 0, (0, 0, 0), 0)) (by decide +kernel)) g0m hm_z
                  replace hm_z := rn_getR (x := 170) (am_cur_of (i := (122, 3, .getfield 30, (12, 25, 1409), 0)) (by decide +kernel)) (by decide +kernel) hm_z
                  replace hm_z := rn_iload_n (am_cur_of (i := (125, 1, .iload_n 1, (0, 0, 0), 0)) (by decide +kernel)) g1m hm_z
                  replace hm_z := rn_iload_n (am_cur_of (i := (126, 1, .iload_n 2, (0, 0, 0), 0)) (by decide +kernel)) g2m hm_z
                  replace hm_z := rn_iadd (w := 36) (am_cur_of (i := (127, 1, .iadd, (0, 0, 0), 0)) (by decide +kernel)) (by decide) hm_z
                  replace hm_z := rn_aload_n (am_cur_of (i := (128, 1, .aload_n 0, (0, 0, 0), 0)) (by decide +kernel)) g0m hm_z
                  replace hm_z := rn_getI (v := v12_z) (am_cur_of (i := (129, 3, .getfield 188, (12, 11, 1395), 0)) (by decide +kernel)) (by decide +kernel) got hm_z
                  replace hm_z := rn_iastore (N := 56) (q := 36) (am_cur_of (i := (132, 1, .iastore, (0, 0, 0), 0)) (by decide +kernel)) (by decide +kernel) rfl hm_z
                  obtain ⟨p852_z, hm_z⟩ := hm_z
                  replace hm_z := rn_iinc (w := 2) (am_cur_of (i := (133, 3, .iinc 2 1, (0, 0, 0), 0)) (by decide +kernel)) g2m (by decide) hm_z
                  obtain ⟨_, s853_z, s854_z, g2m, hm_z⟩ := hm_z
                  replace g0m := s853_z 0 _ (by decide) rfl g0m
                  replace g1m := s853_z 1 _ (by decide) rfl g1m
                  replace g3m := s853_z 3 _ (by decide) rfl g3m
                  replace g4m := s853_z 4 _ (by decide) rfl g4m
                  clear s853_z s854_z
                  replace hm_z := rn_goto (am_cur_of (i := (136, 3, .goto (-87), (29, 0, 0), 0)) (by decide +kernel)) hm_z
                  replace hm_z := rn_iload_n (am_cur_of (i := (49, 1, .iload_n 2, (0, 0, 0), 0)) (by decide +kernel)) g2m hm_z
                  replace hm_z := rn_bipush (w := 7) (am_cur_of (i := (50, 2, .bipush 7, (0, 0, 0), 0)) (by decide +kernel)) (by decide) hm_z
                  replace hm_z := rn_cmpF (am_cur_of (i := (52, 3, .if_icmp .ge 87, (79, 0, 0), 0)) (by decide +kernel)) (by decide) hm_z
                  replace hm_z := rn_iload_n (am_cur_of (i := (55, 1, .iload_n 2, (0, 0, 0), 0)) (by decide +kernel)) g2m hm_z
                  replace hm_z := rn_ifF (am_cur_of (i := (56, 3, .ifCond .eq 13, (40, 0, 0), 0)) (by decide +kernel)) (by decide) hm_z
                  replace hm_z := rn_iload_n (am_cur_of (i := (59, 1, .iload_n 2, (0, 0, 0), 0)) (by decide +kernel)) g2m hm_z
                  replace hm_z := rn_iconst (w := 2) (am_cur_of (i := (60, 1, .iconst 2, (0, 0, 0), 0)) (by decide +kernel)) (by decide) hm_z
                  replace hm_z := rn_cmpT (am_cur_of (i := (61, 3, .if_icmp .eq 8, (40, 0, 0), 0)) (by decide +kernel)) (by decide) hm_z
                  replace hm_z := rn_iconst (w := 1) (am_cur_of (i := (69, 1, .iconst 1, (0, 0, 0), 0)) (by decide +kernel)) (by decide) hm_z
                  replace hm_z := rn_goto (am_cur_of (i := (70, 3, .goto 4, (43, 0, 0), 0)) (by decide +kernel)) hm_z
                  replace hm_z := rn_istore_n (am_cur_of (i := (74, 1, .istore_n 3, (0, 0, 0), 0)) (by decide +kernel)) hm_z
                  obtain ⟨_, s855_z, s856_z, g3m, hm_z⟩ := hm_z
                  replace g0m := s855_z 0 _ (by decide) rfl g0m
                  replace g1m := s855_z 1 _ (by decide) rfl g1m
                  replace g2m := s855_z 2 _ (by decide) rfl g2m
                  replace g4m := s855_z 4 _ (by decide) rfl g4m
                  clear s855_z s856_z
                  replace hm_z := rn_iload_n (am_cur_of (i := (75, 1, .iload_n 2, (0, 0, 0), 0)) (by decide +kernel)) g2m hm_z
                  replace hm_z := rn_iconst (w := 1) (am_cur_of (i := (76, 1, .iconst 1, (0, 0, 0), 0)) (by decide +kernel)) (by decide) hm_z
                  replace hm_z := rn_cmpF (am_cur_of (i := (77, 3, .if_icmp .eq 8, (50, 0, 0), 0)) (by decide +kernel)) (by decide) hm_z
                  replace hm_z := rn_iload_n (am_cur_of (i := (80, 1, .iload_n 2, (0, 0, 0), 0)) (by decide +kernel)) g2m hm_z
                  replace hm_z := rn_iconst (w := 2) (am_cur_of (i := (81, 1, .iconst 2, (0, 0, 0), 0)) (by decide +kernel)) (by decide) hm_z
                  replace hm_z := rn_cmpF (am_cur_of (i := (82, 3, .if_icmp .ne 8, (52, 0, 0), 0)) (by decide +kernel)) (by decide) hm_z
                  replace hm_z := rn_bipush (w := 20) (am_cur_of (i := (85, 2, .bipush 20, (0, 0, 0), 0)) (by decide +kernel)) (by decide) hm_z
                  replace hm_z := rn_goto (am_cur_of (i := (87, 3, .goto 20, (61, 0, 0), 0)) (by decide +kernel)) hm_z
                  replace hm_z := rn_istore (am_cur_of (i := (107, 2, .istore 4, (0, 0, 0), 0)) (by decide +kernel)) hm_z
                  obtain ⟨_, s857_z, s858_z, g4m, hm_z⟩ := hm_z
                  replace g0m := s857_z 0 _ (by decide) rfl g0m
                  replace g1m := s857_z 1 _ (by decide) rfl g1m
                  replace g2m := s857_z 2 _ (by decide) rfl g2m
                  replace g3m := s857_z 3 _ (by decide) rfl g3m
                  clear s857_z s858_z
                  replace hm_z := rn_aload_n (am_cur_of (i := (109, 1, .aload_n 0, (0, 0, 0), 0)) (by decide +kernel)) g0m hm_z
                  replace hm_z := rn_iload_n (am_cur_of (i := (110, 1, .iload_n 3, (0, 0, 0), 0)) (by decide +kernel)) g3m hm_z
                  replace hm_z := rn_iload (am_cur_of (i := (111, 2, .iload 4, (0, 0, 0), 0)) (by decide +kernel)) g4m hm_z
                  replace hm_z := rn_callV (M' := am_m161) (o := 164) (ar := [.int 20, .int 1]) (rest := []) (L := lv_args 0 [.ref 164, .int 1, .int 20]) (am_cur_of (i := (113, 3, .invokevirtual 197, (161, 1677, 3), 0)) (by decide +kernel)) rfl rfl rfl rfl hm_z
                  obtain ⟨r859_z, h860_z, q861_z, hm_z⟩ := hm_z
                  have R' : rq T S x12_z p12_z 2 (am_up h837_z 20 2 (.int v12_z)) (am_up h847_z 170 36 (.int v12_z)) := ⟨⟨c1_z, c2_z, c3_z, c4_z, c5_z, c6_z, fun k hk_z => c7_z k hk_z, fun k hk_z => c8_z k hk_z⟩, ⟨m2_z, m3_z, m4_z, m5_z, m6_z, fun k hk_z => m7_z k hk_z, fun k hk_z => m8_z k hk_z⟩, R3, R4, R5, R6, R7, R8, R9, R10⟩
                  have A' : rp 2 (am_up h837_z 20 2 (.int v12_z)) (am_up h847_z 170 36 (.int v12_z)) := ⟨⟨a1_z, a2_z, a3_z, a4_z, a5_z, a6_z⟩, ⟨nb1_z, nb2_z, nb3_z⟩, ⟨nt1_z, nt2_z, nt3_z⟩, ⟨nl1_z, nl2_z, nl3_z⟩, ⟨nr1_z, nr2_z, nr3_z⟩, ⟨nk1_z, nk2_z, nk3_z⟩, ⟨(fun hb_z k hk_z => by match k, hk_z with | 0, _ => exact AC0 hb_z 0 (by decide) | 1, _ => exact AC0 hb_z 1 (by decide) | 2, _ => exact AC0 hb_z 2 (by decide) | 3, _ => exact AC0 hb_z 3 (by decide) | 4, _ => exact AC0 hb_z 4 (by decide) | 5, _ => exact AC0 hb_z 5 (by decide) | 6, _ => exact AC0 hb_z 6 (by decide) | 7, _ => exact AC0 hb_z 7 (by decide)), fun hb_z => absurd hb_z (by rw [show rg_v (am_up h837_z 20 2 (.int v12_z)) 2 2 = 1 from ecb]; decide), fun hb_z => absurd hb_z (by rw [show rg_v (am_up h837_z 20 2 (.int v12_z)) 2 2 = 1 from ecb]; decide), fun hb_z => absurd hb_z (by rw [show rg_v (am_up h837_z 20 2 (.int v12_z)) 2 2 = 1 from ecb]; decide)⟩, fun t ht => AD t ht, fun t ht => AE t ht, fun t ht => AG t ht⟩
                  have B' : rp_t (am_up h837_z 20 2 (.int v12_z)) (am_up h847_z 170 36 (.int v12_z)) := by
                    obtain ⟨b0_z, b1_z, b2_z, b3_z, b4_z, b5_z, b6_z, t, o0_z, o1_z, o2_z, o3_z, o4_z, o5_z, o6_z⟩ := B
                    exact ⟨b0_z, b1_z, b2_z, b3_z, b4_z, b5_z, b6_z, t, o0_z, o1_z, o2_z, o3_z, o4_z, o5_z, o6_z⟩
                  rcases pr_num R' (by decide) (by decide) q851_z q861_z with ⟨v13_z, x13_z, p13_z, rfl, rfl, lo13_z, hi13_z, R, le13_z, got, X, Y, t7_z, t167_z⟩ | ⟨rfl, F⟩
                  · replace A := rp_x (by decide) A' X Y
                    replace B := rp_tk B' t7_z t167_z Y
                    clear A' B' R'
                    replace le13_z : x.toInt ≤ p13_z.toInt := Int.le_trans (Int.le_trans le12_z R8) le13_z
                    replace ecb : rg_v h850_z 2 2 = 1 := (rx_v X (o := 2) (k := 2) (by decide)).trans ecb
                    replace ect : rg_v h850_z 2 4 = ct := (rx_v X (o := 2) (k := 4) (by decide)).trans ect
                    replace ecl : rg_v h850_z 2 9 = cl := (rx_v X (o := 2) (k := 9) (by decide)).trans ecl
                    replace ecr : rg_v h850_z 2 12 = cr := (rx_v X (o := 2) (k := 12) (by decide)).trans ecr
                    replace E0 : rg_v h850_z 20 0 = rg_v h860_z 169 5 := (rx_v X (o := 20) (k := 0) (by decide)).trans (E0.trans (rx_w Y (o := 169) (k := 5) (by omega) (by decide)).symm)
                    replace E1 : rg_v h850_z 20 1 = rg_v h860_z 170 35 := (rx_v X (o := 20) (k := 1) (by decide)).trans (E1.trans (rx_w Y (o := 170) (k := 35) (by omega) (by decide)).symm)
                    have E2 : rg_v h850_z 20 2 = rg_v h860_z 170 36 := (rx_v X (o := 20) (k := 2) (by decide)).trans (Eq.trans (rfl) (rx_w Y (o := 170) (k := 36) (by omega) (by decide)).symm)
                    replace hm_z : rn _ _ _ _ [.int 1] _ _ _ := hm_z
                    replace hc_z : rn _ _ _ _ [.int v13_z, .ref 20] _ _ _ := hc_z
                    clear a1_z a2_z a3_z a4_z a5_z a6_z nb1_z nb2_z nb3_z nt1_z nt2_z nt3_z nl1_z nl2_z nl3_z nr1_z nr2_z nr3_z nk1_z nk2_z nk3_z AC0 AC1 AC2 AC3 AD AE AG c1_z c2_z c3_z c4_z c5_z c6_z c7_z c8_z m2_z m3_z m4_z m5_z m6_z m7_z m8_z R3 R4 R5 R6 R7 R8 R9 R10
                    obtain ⟨⟨⟨a1_z, a2_z, a3_z, a4_z, a5_z, a6_z⟩, ⟨nb1_z, nb2_z, nb3_z⟩, ⟨nt1_z, nt2_z, nt3_z⟩, ⟨nl1_z, nl2_z, nl3_z⟩, ⟨nr1_z, nr2_z, nr3_z⟩, ⟨nk1_z, nk2_z, nk3_z⟩, ⟨AC0, AC1, AC2, AC3⟩, AD, AE, AG⟩, ⟨⟨c1_z, c2_z, c3_z, c4_z, c5_z, c6_z, c7_z, c8_z⟩, ⟨m2_z, m3_z, m4_z, m5_z, m6_z, m7_z, m8_z⟩, R3, R4, R5, R6, R7, R8, R9, R10⟩⟩ := (⟨A, R⟩ : rp 2 h850_z h860_z ∧ rq T S x13_z p13_z 2 h850_z h860_z)
                    replace hc_z := rn_put (am_cur_of (i := (102, 3, .putfield 181, (3, 3, 211), 0)) (by decide +kernel)) (by decide +kernel) hc_z
                    replace hc_z := rn_aload_n (am_cur_of (i := (105, 1, .aload_n 1, (0, 0, 0), 0)) (by decide +kernel)) g1_z hc_z
                    replace hc_z := rn_aload_n (am_cur_of (i := (106, 1, .aload_n 0, (0, 0, 0), 0)) (by decide +kernel)) g0_z hc_z
                    replace hc_z := rn_iconst (w := 1) (am_cur_of (i := (107, 1, .iconst 1, (0, 0, 0), 0)) (by decide +kernel)) (by decide) hc_z
                    replace hc_z := rn_bipush (w := 9) (am_cur_of (i := (108, 2, .bipush 9, (0, 0, 0), 0)) (by decide +kernel)) (by decide) hc_z
                    replace hc_z := rn_callV (M' := am_m30) (o := 44) (ar := [.int 9, .int 1]) (rest := [.ref 20]) (L := lv_args 0 [.ref 44, .int 1, .int 9]) (am_cur_of (i := (110, 3, .invokevirtual 142, (30, 773, 3), 0)) (by decide +kernel)) rfl rfl rfl rfl hc_z
                    obtain ⟨r862_z, h863_z, q864_z, hc_z⟩ := hc_z
                    replace hm_z := rn_ifT (am_cur_of (i := (116, 3, .ifCond .ne 5, (69, 0, 0), 0)) (by decide +kernel)) (by decide) hm_z
                    replace hm_z := rn_aload_n (am_cur_of (i := (121, 1, .aload_n 0, (0, 0, 0), 0)) (by decide +kernel)) g0m hm_z
                    replace hm_z := rn_getR (x := 170) (am_cur_of (i := (122, 3, .getfield 30, (12, 25, 1409), 0)) (by decide +kernel)) (by decide +kernel) hm_z
                    replace hm_z := rn_iload_n (am_cur_of (i := (125, 1, .iload_n 1, (0, 0, 0), 0)) (by decide +kernel)) g1m hm_z
                    replace hm_z := rn_iload_n (am_cur_of (i := (126, 1, .iload_n 2, (0, 0, 0), 0)) (by decide +kernel)) g2m hm_z
                    replace hm_z := rn_iadd (w := 37) (am_cur_of (i := (127, 1, .iadd, (0, 0, 0), 0)) (by decide +kernel)) (by decide) hm_z
                    replace hm_z := rn_aload_n (am_cur_of (i := (128, 1, .aload_n 0, (0, 0, 0), 0)) (by decide +kernel)) g0m hm_z
                    replace hm_z := rn_getI (v := v13_z) (am_cur_of (i := (129, 3, .getfield 188, (12, 11, 1395), 0)) (by decide +kernel)) (by decide +kernel) got hm_z
                    replace hm_z := rn_iastore (N := 56) (q := 37) (am_cur_of (i := (132, 1, .iastore, (0, 0, 0), 0)) (by decide +kernel)) (by decide +kernel) rfl hm_z
                    obtain ⟨p865_z, hm_z⟩ := hm_z
                    replace hm_z := rn_iinc (w := 3) (am_cur_of (i := (133, 3, .iinc 2 1, (0, 0, 0), 0)) (by decide +kernel)) g2m (by decide) hm_z
                    obtain ⟨_, s866_z, s867_z, g2m, hm_z⟩ := hm_z
                    replace g0m := s866_z 0 _ (by decide) rfl g0m
                    replace g1m := s866_z 1 _ (by decide) rfl g1m
                    replace g3m := s866_z 3 _ (by decide) rfl g3m
                    replace g4m := s866_z 4 _ (by decide) rfl g4m
                    clear s866_z s867_z
                    replace hm_z := rn_goto (am_cur_of (i := (136, 3, .goto (-87), (29, 0, 0), 0)) (by decide +kernel)) hm_z
                    replace hm_z := rn_iload_n (am_cur_of (i := (49, 1, .iload_n 2, (0, 0, 0), 0)) (by decide +kernel)) g2m hm_z
                    replace hm_z := rn_bipush (w := 7) (am_cur_of (i := (50, 2, .bipush 7, (0, 0, 0), 0)) (by decide +kernel)) (by decide) hm_z
                    replace hm_z := rn_cmpF (am_cur_of (i := (52, 3, .if_icmp .ge 87, (79, 0, 0), 0)) (by decide +kernel)) (by decide) hm_z
                    replace hm_z := rn_iload_n (am_cur_of (i := (55, 1, .iload_n 2, (0, 0, 0), 0)) (by decide +kernel)) g2m hm_z
                    replace hm_z := rn_ifF (am_cur_of (i := (56, 3, .ifCond .eq 13, (40, 0, 0), 0)) (by decide +kernel)) (by decide) hm_z
                    replace hm_z := rn_iload_n (am_cur_of (i := (59, 1, .iload_n 2, (0, 0, 0), 0)) (by decide +kernel)) g2m hm_z
                    replace hm_z := rn_iconst (w := 2) (am_cur_of (i := (60, 1, .iconst 2, (0, 0, 0), 0)) (by decide +kernel)) (by decide) hm_z
                    replace hm_z := rn_cmpF (am_cur_of (i := (61, 3, .if_icmp .eq 8, (40, 0, 0), 0)) (by decide +kernel)) (by decide) hm_z
                    replace hm_z := rn_iload_n (am_cur_of (i := (64, 1, .iload_n 2, (0, 0, 0), 0)) (by decide +kernel)) g2m hm_z
                    replace hm_z := rn_iconst (w := 3) (am_cur_of (i := (65, 1, .iconst 3, (0, 0, 0), 0)) (by decide +kernel)) (by decide) hm_z
                    replace hm_z := rn_cmpF (am_cur_of (i := (66, 3, .if_icmp .ne 7, (42, 0, 0), 0)) (by decide +kernel)) (by decide) hm_z
                    replace hm_z := rn_iconst (w := 1) (am_cur_of (i := (69, 1, .iconst 1, (0, 0, 0), 0)) (by decide +kernel)) (by decide) hm_z
                    replace hm_z := rn_goto (am_cur_of (i := (70, 3, .goto 4, (43, 0, 0), 0)) (by decide +kernel)) hm_z
                    replace hm_z := rn_istore_n (am_cur_of (i := (74, 1, .istore_n 3, (0, 0, 0), 0)) (by decide +kernel)) hm_z
                    obtain ⟨_, s868_z, s869_z, g3m, hm_z⟩ := hm_z
                    replace g0m := s868_z 0 _ (by decide) rfl g0m
                    replace g1m := s868_z 1 _ (by decide) rfl g1m
                    replace g2m := s868_z 2 _ (by decide) rfl g2m
                    replace g4m := s868_z 4 _ (by decide) rfl g4m
                    clear s868_z s869_z
                    replace hm_z := rn_iload_n (am_cur_of (i := (75, 1, .iload_n 2, (0, 0, 0), 0)) (by decide +kernel)) g2m hm_z
                    replace hm_z := rn_iconst (w := 1) (am_cur_of (i := (76, 1, .iconst 1, (0, 0, 0), 0)) (by decide +kernel)) (by decide) hm_z
                    replace hm_z := rn_cmpF (am_cur_of (i := (77, 3, .if_icmp .eq 8, (50, 0, 0), 0)) (by decide +kernel)) (by decide) hm_z
                    replace hm_z := rn_iload_n (am_cur_of (i := (80, 1, .iload_n 2, (0, 0, 0), 0)) (by decide +kernel)) g2m hm_z
                    replace hm_z := rn_iconst (w := 2) (am_cur_of (i := (81, 1, .iconst 2, (0, 0, 0), 0)) (by decide +kernel)) (by decide) hm_z
                    replace hm_z := rn_cmpT (am_cur_of (i := (82, 3, .if_icmp .ne 8, (52, 0, 0), 0)) (by decide +kernel)) (by decide) hm_z
                    replace hm_z := rn_iload_n (am_cur_of (i := (90, 1, .iload_n 2, (0, 0, 0), 0)) (by decide +kernel)) g2m hm_z
                    replace hm_z := rn_iconst (w := 3) (am_cur_of (i := (91, 1, .iconst 3, (0, 0, 0), 0)) (by decide +kernel)) (by decide) hm_z
                    replace hm_z := rn_cmpT (am_cur_of (i := (92, 3, .if_icmp .eq 8, (58, 0, 0), 0)) (by decide +kernel)) (by decide) hm_z
                    replace hm_z := rn_bipush (w := 9) (am_cur_of (i := (100, 2, .bipush 9, (0, 0, 0), 0)) (by decide +kernel)) (by decide) hm_z
                    replace hm_z := rn_goto (am_cur_of (i := (102, 3, .goto 5, (61, 0, 0), 0)) (by decide +kernel)) hm_z
                    replace hm_z := rn_istore (am_cur_of (i := (107, 2, .istore 4, (0, 0, 0), 0)) (by decide +kernel)) hm_z
                    obtain ⟨_, s870_z, s871_z, g4m, hm_z⟩ := hm_z
                    replace g0m := s870_z 0 _ (by decide) rfl g0m
                    replace g1m := s870_z 1 _ (by decide) rfl g1m
                    replace g2m := s870_z 2 _ (by decide) rfl g2m
                    replace g3m := s870_z 3 _ (by decide) rfl g3m
                    clear s870_z s871_z
                    replace hm_z := rn_aload_n (am_cur_of (i := (109, 1, .aload_n 0, (0, 0, 0), 0)) (by decide +kernel)) g0m hm_z
                    replace hm_z := rn_iload_n (am_cur_of (i := (110, 1, .iload_n 3, (0, 0, 0), 0)) (by decide +kernel)) g3m hm_z
                    replace hm_z := rn_iload (am_cur_of (i := (111, 2, .iload 4, (0, 0, 0), 0)) (by decide +kernel)) g4m hm_z
                    replace hm_z := rn_callV (M' := am_m161) (o := 164) (ar := [.int 9, .int 1]) (rest := []) (L := lv_args 0 [.ref 164, .int 1, .int 9]) (am_cur_of (i := (113, 3, .invokevirtual 197, (161, 1677, 3), 0)) (by decide +kernel)) rfl rfl rfl rfl hm_z
                    obtain ⟨r872_z, h873_z, q874_z, hm_z⟩ := hm_z
                    have R' : rq T S x13_z p13_z 2 (am_up h850_z 20 3 (.int v13_z)) (am_up h860_z 170 37 (.int v13_z)) := ⟨⟨c1_z, c2_z, c3_z, c4_z, c5_z, c6_z, fun k hk_z => c7_z k hk_z, fun k hk_z => c8_z k hk_z⟩, ⟨m2_z, m3_z, m4_z, m5_z, m6_z, fun k hk_z => m7_z k hk_z, fun k hk_z => m8_z k hk_z⟩, R3, R4, R5, R6, R7, R8, R9, R10⟩
                    have A' : rp 2 (am_up h850_z 20 3 (.int v13_z)) (am_up h860_z 170 37 (.int v13_z)) := ⟨⟨a1_z, a2_z, a3_z, a4_z, a5_z, a6_z⟩, ⟨nb1_z, nb2_z, nb3_z⟩, ⟨nt1_z, nt2_z, nt3_z⟩, ⟨nl1_z, nl2_z, nl3_z⟩, ⟨nr1_z, nr2_z, nr3_z⟩, ⟨nk1_z, nk2_z, nk3_z⟩, ⟨(fun hb_z k hk_z => by match k, hk_z with | 0, _ => exact AC0 hb_z 0 (by decide) | 1, _ => exact AC0 hb_z 1 (by decide) | 2, _ => exact AC0 hb_z 2 (by decide) | 3, _ => exact AC0 hb_z 3 (by decide) | 4, _ => exact AC0 hb_z 4 (by decide) | 5, _ => exact AC0 hb_z 5 (by decide) | 6, _ => exact AC0 hb_z 6 (by decide) | 7, _ => exact AC0 hb_z 7 (by decide)), fun hb_z => absurd hb_z (by rw [show rg_v (am_up h850_z 20 3 (.int v13_z)) 2 2 = 1 from ecb]; decide), fun hb_z => absurd hb_z (by rw [show rg_v (am_up h850_z 20 3 (.int v13_z)) 2 2 = 1 from ecb]; decide), fun hb_z => absurd hb_z (by rw [show rg_v (am_up h850_z 20 3 (.int v13_z)) 2 2 = 1 from ecb]; decide)⟩, fun t ht => AD t ht, fun t ht => AE t ht, fun t ht => AG t ht⟩
                    have B' : rp_t (am_up h850_z 20 3 (.int v13_z)) (am_up h860_z 170 37 (.int v13_z)) := by
                      obtain ⟨b0_z, b1_z, b2_z, b3_z, b4_z, b5_z, b6_z, t, o0_z, o1_z, o2_z, o3_z, o4_z, o5_z, o6_z⟩ := B
                      exact ⟨b0_z, b1_z, b2_z, b3_z, b4_z, b5_z, b6_z, t, o0_z, o1_z, o2_z, o3_z, o4_z, o5_z, o6_z⟩
                    rcases pr_num R' (by decide) (by decide) q864_z q874_z with ⟨v14_z, x14_z, p14_z, rfl, rfl, lo14_z, hi14_z, R, le14_z, got, X, Y, t7_z, t167_z⟩ | ⟨rfl, F⟩
                    · replace A := rp_x (by decide) A' X Y
                      replace B := rp_tk B' t7_z t167_z Y
                      clear A' B' R'
                      replace le14_z : x.toInt ≤ p14_z.toInt := Int.le_trans (Int.le_trans le13_z R8) le14_z
                      replace ecb : rg_v h863_z 2 2 = 1 := (rx_v X (o := 2) (k := 2) (by decide)).trans ecb
                      replace ect : rg_v h863_z 2 4 = ct := (rx_v X (o := 2) (k := 4) (by decide)).trans ect
                      replace ecl : rg_v h863_z 2 9 = cl := (rx_v X (o := 2) (k := 9) (by decide)).trans ecl
                      replace ecr : rg_v h863_z 2 12 = cr := (rx_v X (o := 2) (k := 12) (by decide)).trans ecr
                      replace E0 : rg_v h863_z 20 0 = rg_v h873_z 169 5 := (rx_v X (o := 20) (k := 0) (by decide)).trans (E0.trans (rx_w Y (o := 169) (k := 5) (by omega) (by decide)).symm)
                      replace E1 : rg_v h863_z 20 1 = rg_v h873_z 170 35 := (rx_v X (o := 20) (k := 1) (by decide)).trans (E1.trans (rx_w Y (o := 170) (k := 35) (by omega) (by decide)).symm)
                      replace E2 : rg_v h863_z 20 2 = rg_v h873_z 170 36 := (rx_v X (o := 20) (k := 2) (by decide)).trans (E2.trans (rx_w Y (o := 170) (k := 36) (by omega) (by decide)).symm)
                      have E3 : rg_v h863_z 20 3 = rg_v h873_z 170 37 := (rx_v X (o := 20) (k := 3) (by decide)).trans (Eq.trans (rfl) (rx_w Y (o := 170) (k := 37) (by omega) (by decide)).symm)
                      replace hm_z : rn _ _ _ _ [.int 1] _ _ _ := hm_z
                      replace hc_z : rn _ _ _ _ [.int v14_z, .ref 20] _ _ _ := hc_z
                      clear a1_z a2_z a3_z a4_z a5_z a6_z nb1_z nb2_z nb3_z nt1_z nt2_z nt3_z nl1_z nl2_z nl3_z nr1_z nr2_z nr3_z nk1_z nk2_z nk3_z AC0 AC1 AC2 AC3 AD AE AG c1_z c2_z c3_z c4_z c5_z c6_z c7_z c8_z m2_z m3_z m4_z m5_z m6_z m7_z m8_z R3 R4 R5 R6 R7 R8 R9 R10
                      obtain ⟨⟨⟨a1_z, a2_z, a3_z, a4_z, a5_z, a6_z⟩, ⟨nb1_z, nb2_z, nb3_z⟩, ⟨nt1_z, nt2_z, nt3_z⟩, ⟨nl1_z, nl2_z, nl3_z⟩, ⟨nr1_z, nr2_z, nr3_z⟩, ⟨nk1_z, nk2_z, nk3_z⟩, ⟨AC0, AC1, AC2, AC3⟩, AD, AE, AG⟩, ⟨⟨c1_z, c2_z, c3_z, c4_z, c5_z, c6_z, c7_z, c8_z⟩, ⟨m2_z, m3_z, m4_z, m5_z, m6_z, m7_z, m8_z⟩, R3, R4, R5, R6, R7, R8, R9, R10⟩⟩ := (⟨A, R⟩ : rp 2 h863_z h873_z ∧ rq T S x14_z p14_z 2 h863_z h873_z)
                      replace hc_z := rn_put (am_cur_of (i := (113, 3, .putfield 184, (3, 4, 216), 0)) (by decide +kernel)) (by decide +kernel) hc_z
                      replace hc_z := rn_aload_n (am_cur_of (i := (116, 1, .aload_n 1, (0, 0, 0), 0)) (by decide +kernel)) g1_z hc_z
                      replace hc_z := rn_aload_n (am_cur_of (i := (117, 1, .aload_n 0, (0, 0, 0), 0)) (by decide +kernel)) g0_z hc_z
                      replace hc_z := rn_iconst (w := 0) (am_cur_of (i := (118, 1, .iconst 0, (0, 0, 0), 0)) (by decide +kernel)) (by decide) hc_z
                      replace hc_z := rn_bipush (w := 99) (am_cur_of (i := (119, 2, .bipush 99, (0, 0, 0), 0)) (by decide +kernel)) (by decide) hc_z
                      replace hc_z := rn_callV (M' := am_m30) (o := 44) (ar := [.int 99, .int 0]) (rest := [.ref 20]) (L := lv_args 0 [.ref 44, .int 0, .int 99]) (am_cur_of (i := (121, 3, .invokevirtual 142, (30, 773, 3), 0)) (by decide +kernel)) rfl rfl rfl rfl hc_z
                      obtain ⟨r875_z, h876_z, q877_z, hc_z⟩ := hc_z
                      replace hm_z := rn_ifT (am_cur_of (i := (116, 3, .ifCond .ne 5, (69, 0, 0), 0)) (by decide +kernel)) (by decide) hm_z
                      replace hm_z := rn_aload_n (am_cur_of (i := (121, 1, .aload_n 0, (0, 0, 0), 0)) (by decide +kernel)) g0m hm_z
                      replace hm_z := rn_getR (x := 170) (am_cur_of (i := (122, 3, .getfield 30, (12, 25, 1409), 0)) (by decide +kernel)) (by decide +kernel) hm_z
                      replace hm_z := rn_iload_n (am_cur_of (i := (125, 1, .iload_n 1, (0, 0, 0), 0)) (by decide +kernel)) g1m hm_z
                      replace hm_z := rn_iload_n (am_cur_of (i := (126, 1, .iload_n 2, (0, 0, 0), 0)) (by decide +kernel)) g2m hm_z
                      replace hm_z := rn_iadd (w := 38) (am_cur_of (i := (127, 1, .iadd, (0, 0, 0), 0)) (by decide +kernel)) (by decide) hm_z
                      replace hm_z := rn_aload_n (am_cur_of (i := (128, 1, .aload_n 0, (0, 0, 0), 0)) (by decide +kernel)) g0m hm_z
                      replace hm_z := rn_getI (v := v14_z) (am_cur_of (i := (129, 3, .getfield 188, (12, 11, 1395), 0)) (by decide +kernel)) (by decide +kernel) got hm_z
                      replace hm_z := rn_iastore (N := 56) (q := 38) (am_cur_of (i := (132, 1, .iastore, (0, 0, 0), 0)) (by decide +kernel)) (by decide +kernel) rfl hm_z
                      obtain ⟨p878_z, hm_z⟩ := hm_z
                      replace hm_z := rn_iinc (w := 4) (am_cur_of (i := (133, 3, .iinc 2 1, (0, 0, 0), 0)) (by decide +kernel)) g2m (by decide) hm_z
                      obtain ⟨_, s879_z, s880_z, g2m, hm_z⟩ := hm_z
                      replace g0m := s879_z 0 _ (by decide) rfl g0m
                      replace g1m := s879_z 1 _ (by decide) rfl g1m
                      replace g3m := s879_z 3 _ (by decide) rfl g3m
                      replace g4m := s879_z 4 _ (by decide) rfl g4m
                      clear s879_z s880_z
                      replace hm_z := rn_goto (am_cur_of (i := (136, 3, .goto (-87), (29, 0, 0), 0)) (by decide +kernel)) hm_z
                      replace hm_z := rn_iload_n (am_cur_of (i := (49, 1, .iload_n 2, (0, 0, 0), 0)) (by decide +kernel)) g2m hm_z
                      replace hm_z := rn_bipush (w := 7) (am_cur_of (i := (50, 2, .bipush 7, (0, 0, 0), 0)) (by decide +kernel)) (by decide) hm_z
                      replace hm_z := rn_cmpF (am_cur_of (i := (52, 3, .if_icmp .ge 87, (79, 0, 0), 0)) (by decide +kernel)) (by decide) hm_z
                      replace hm_z := rn_iload_n (am_cur_of (i := (55, 1, .iload_n 2, (0, 0, 0), 0)) (by decide +kernel)) g2m hm_z
                      replace hm_z := rn_ifF (am_cur_of (i := (56, 3, .ifCond .eq 13, (40, 0, 0), 0)) (by decide +kernel)) (by decide) hm_z
                      replace hm_z := rn_iload_n (am_cur_of (i := (59, 1, .iload_n 2, (0, 0, 0), 0)) (by decide +kernel)) g2m hm_z
                      replace hm_z := rn_iconst (w := 2) (am_cur_of (i := (60, 1, .iconst 2, (0, 0, 0), 0)) (by decide +kernel)) (by decide) hm_z
                      replace hm_z := rn_cmpF (am_cur_of (i := (61, 3, .if_icmp .eq 8, (40, 0, 0), 0)) (by decide +kernel)) (by decide) hm_z
                      replace hm_z := rn_iload_n (am_cur_of (i := (64, 1, .iload_n 2, (0, 0, 0), 0)) (by decide +kernel)) g2m hm_z
                      replace hm_z := rn_iconst (w := 3) (am_cur_of (i := (65, 1, .iconst 3, (0, 0, 0), 0)) (by decide +kernel)) (by decide) hm_z
                      replace hm_z := rn_cmpT (am_cur_of (i := (66, 3, .if_icmp .ne 7, (42, 0, 0), 0)) (by decide +kernel)) (by decide) hm_z
                      replace hm_z := rn_iconst (w := 0) (am_cur_of (i := (73, 1, .iconst 0, (0, 0, 0), 0)) (by decide +kernel)) (by decide) hm_z
                      replace hm_z := rn_istore_n (am_cur_of (i := (74, 1, .istore_n 3, (0, 0, 0), 0)) (by decide +kernel)) hm_z
                      obtain ⟨_, s881_z, s882_z, g3m, hm_z⟩ := hm_z
                      replace g0m := s881_z 0 _ (by decide) rfl g0m
                      replace g1m := s881_z 1 _ (by decide) rfl g1m
                      replace g2m := s881_z 2 _ (by decide) rfl g2m
                      replace g4m := s881_z 4 _ (by decide) rfl g4m
                      clear s881_z s882_z
                      replace hm_z := rn_iload_n (am_cur_of (i := (75, 1, .iload_n 2, (0, 0, 0), 0)) (by decide +kernel)) g2m hm_z
                      replace hm_z := rn_iconst (w := 1) (am_cur_of (i := (76, 1, .iconst 1, (0, 0, 0), 0)) (by decide +kernel)) (by decide) hm_z
                      replace hm_z := rn_cmpF (am_cur_of (i := (77, 3, .if_icmp .eq 8, (50, 0, 0), 0)) (by decide +kernel)) (by decide) hm_z
                      replace hm_z := rn_iload_n (am_cur_of (i := (80, 1, .iload_n 2, (0, 0, 0), 0)) (by decide +kernel)) g2m hm_z
                      replace hm_z := rn_iconst (w := 2) (am_cur_of (i := (81, 1, .iconst 2, (0, 0, 0), 0)) (by decide +kernel)) (by decide) hm_z
                      replace hm_z := rn_cmpT (am_cur_of (i := (82, 3, .if_icmp .ne 8, (52, 0, 0), 0)) (by decide +kernel)) (by decide) hm_z
                      replace hm_z := rn_iload_n (am_cur_of (i := (90, 1, .iload_n 2, (0, 0, 0), 0)) (by decide +kernel)) g2m hm_z
                      replace hm_z := rn_iconst (w := 3) (am_cur_of (i := (91, 1, .iconst 3, (0, 0, 0), 0)) (by decide +kernel)) (by decide) hm_z
                      replace hm_z := rn_cmpF (am_cur_of (i := (92, 3, .if_icmp .eq 8, (58, 0, 0), 0)) (by decide +kernel)) (by decide) hm_z
                      replace hm_z := rn_iload_n (am_cur_of (i := (95, 1, .iload_n 2, (0, 0, 0), 0)) (by decide +kernel)) g2m hm_z
                      replace hm_z := rn_iconst (w := 5) (am_cur_of (i := (96, 1, .iconst 5, (0, 0, 0), 0)) (by decide +kernel)) (by decide) hm_z
                      replace hm_z := rn_cmpT (am_cur_of (i := (97, 3, .if_icmp .ne 8, (60, 0, 0), 0)) (by decide +kernel)) (by decide) hm_z
                      replace hm_z := rn_bipush (w := 99) (am_cur_of (i := (105, 2, .bipush 99, (0, 0, 0), 0)) (by decide +kernel)) (by decide) hm_z
                      replace hm_z := rn_istore (am_cur_of (i := (107, 2, .istore 4, (0, 0, 0), 0)) (by decide +kernel)) hm_z
                      obtain ⟨_, s883_z, s884_z, g4m, hm_z⟩ := hm_z
                      replace g0m := s883_z 0 _ (by decide) rfl g0m
                      replace g1m := s883_z 1 _ (by decide) rfl g1m
                      replace g2m := s883_z 2 _ (by decide) rfl g2m
                      replace g3m := s883_z 3 _ (by decide) rfl g3m
                      clear s883_z s884_z
                      replace hm_z := rn_aload_n (am_cur_of (i := (109, 1, .aload_n 0, (0, 0, 0), 0)) (by decide +kernel)) g0m hm_z
                      replace hm_z := rn_iload_n (am_cur_of (i := (110, 1, .iload_n 3, (0, 0, 0), 0)) (by decide +kernel)) g3m hm_z
                      replace hm_z := rn_iload (am_cur_of (i := (111, 2, .iload 4, (0, 0, 0), 0)) (by decide +kernel)) g4m hm_z
                      replace hm_z := rn_callV (M' := am_m161) (o := 164) (ar := [.int 99, .int 0]) (rest := []) (L := lv_args 0 [.ref 164, .int 0, .int 99]) (am_cur_of (i := (113, 3, .invokevirtual 197, (161, 1677, 3), 0)) (by decide +kernel)) rfl rfl rfl rfl hm_z
                      obtain ⟨r885_z, h886_z, q887_z, hm_z⟩ := hm_z
                      have R' : rq T S x14_z p14_z 2 (am_up h863_z 20 4 (.int v14_z)) (am_up h873_z 170 38 (.int v14_z)) := ⟨⟨c1_z, c2_z, c3_z, c4_z, c5_z, c6_z, fun k hk_z => c7_z k hk_z, fun k hk_z => c8_z k hk_z⟩, ⟨m2_z, m3_z, m4_z, m5_z, m6_z, fun k hk_z => m7_z k hk_z, fun k hk_z => m8_z k hk_z⟩, R3, R4, R5, R6, R7, R8, R9, R10⟩
                      have A' : rp 2 (am_up h863_z 20 4 (.int v14_z)) (am_up h873_z 170 38 (.int v14_z)) := ⟨⟨a1_z, a2_z, a3_z, a4_z, a5_z, a6_z⟩, ⟨nb1_z, nb2_z, nb3_z⟩, ⟨nt1_z, nt2_z, nt3_z⟩, ⟨nl1_z, nl2_z, nl3_z⟩, ⟨nr1_z, nr2_z, nr3_z⟩, ⟨nk1_z, nk2_z, nk3_z⟩, ⟨(fun hb_z k hk_z => by match k, hk_z with | 0, _ => exact AC0 hb_z 0 (by decide) | 1, _ => exact AC0 hb_z 1 (by decide) | 2, _ => exact AC0 hb_z 2 (by decide) | 3, _ => exact AC0 hb_z 3 (by decide) | 4, _ => exact AC0 hb_z 4 (by decide) | 5, _ => exact AC0 hb_z 5 (by decide) | 6, _ => exact AC0 hb_z 6 (by decide) | 7, _ => exact AC0 hb_z 7 (by decide)), fun hb_z => absurd hb_z (by rw [show rg_v (am_up h863_z 20 4 (.int v14_z)) 2 2 = 1 from ecb]; decide), fun hb_z => absurd hb_z (by rw [show rg_v (am_up h863_z 20 4 (.int v14_z)) 2 2 = 1 from ecb]; decide), fun hb_z => absurd hb_z (by rw [show rg_v (am_up h863_z 20 4 (.int v14_z)) 2 2 = 1 from ecb]; decide)⟩, fun t ht => AD t ht, fun t ht => AE t ht, fun t ht => AG t ht⟩
                      have B' : rp_t (am_up h863_z 20 4 (.int v14_z)) (am_up h873_z 170 38 (.int v14_z)) := by
                        obtain ⟨b0_z, b1_z, b2_z, b3_z, b4_z, b5_z, b6_z, t, o0_z, o1_z, o2_z, o3_z, o4_z, o5_z, o6_z⟩ := B
                        exact ⟨b0_z, b1_z, b2_z, b3_z, b4_z, b5_z, b6_z, t, o0_z, o1_z, o2_z, o3_z, o4_z, o5_z, o6_z⟩
                      rcases pr_num R' (by decide) (by decide) q877_z q887_z with ⟨v15_z, x15_z, p15_z, rfl, rfl, lo15_z, hi15_z, R, le15_z, got, X, Y, t7_z, t167_z⟩ | ⟨rfl, F⟩
                      · replace A := rp_x (by decide) A' X Y
                        replace B := rp_tk B' t7_z t167_z Y
                        clear A' B' R'
                        replace le15_z : x.toInt ≤ p15_z.toInt := Int.le_trans (Int.le_trans le14_z R8) le15_z
                        replace ecb : rg_v h876_z 2 2 = 1 := (rx_v X (o := 2) (k := 2) (by decide)).trans ecb
                        replace ect : rg_v h876_z 2 4 = ct := (rx_v X (o := 2) (k := 4) (by decide)).trans ect
                        replace ecl : rg_v h876_z 2 9 = cl := (rx_v X (o := 2) (k := 9) (by decide)).trans ecl
                        replace ecr : rg_v h876_z 2 12 = cr := (rx_v X (o := 2) (k := 12) (by decide)).trans ecr
                        replace E0 : rg_v h876_z 20 0 = rg_v h886_z 169 5 := (rx_v X (o := 20) (k := 0) (by decide)).trans (E0.trans (rx_w Y (o := 169) (k := 5) (by omega) (by decide)).symm)
                        replace E1 : rg_v h876_z 20 1 = rg_v h886_z 170 35 := (rx_v X (o := 20) (k := 1) (by decide)).trans (E1.trans (rx_w Y (o := 170) (k := 35) (by omega) (by decide)).symm)
                        replace E2 : rg_v h876_z 20 2 = rg_v h886_z 170 36 := (rx_v X (o := 20) (k := 2) (by decide)).trans (E2.trans (rx_w Y (o := 170) (k := 36) (by omega) (by decide)).symm)
                        replace E3 : rg_v h876_z 20 3 = rg_v h886_z 170 37 := (rx_v X (o := 20) (k := 3) (by decide)).trans (E3.trans (rx_w Y (o := 170) (k := 37) (by omega) (by decide)).symm)
                        have E4 : rg_v h876_z 20 4 = rg_v h886_z 170 38 := (rx_v X (o := 20) (k := 4) (by decide)).trans (Eq.trans (rfl) (rx_w Y (o := 170) (k := 38) (by omega) (by decide)).symm)
                        replace hm_z : rn _ _ _ _ [.int 1] _ _ _ := hm_z
                        replace hc_z : rn _ _ _ _ [.int v15_z, .ref 20] _ _ _ := hc_z
                        clear a1_z a2_z a3_z a4_z a5_z a6_z nb1_z nb2_z nb3_z nt1_z nt2_z nt3_z nl1_z nl2_z nl3_z nr1_z nr2_z nr3_z nk1_z nk2_z nk3_z AC0 AC1 AC2 AC3 AD AE AG c1_z c2_z c3_z c4_z c5_z c6_z c7_z c8_z m2_z m3_z m4_z m5_z m6_z m7_z m8_z R3 R4 R5 R6 R7 R8 R9 R10
                        obtain ⟨⟨⟨a1_z, a2_z, a3_z, a4_z, a5_z, a6_z⟩, ⟨nb1_z, nb2_z, nb3_z⟩, ⟨nt1_z, nt2_z, nt3_z⟩, ⟨nl1_z, nl2_z, nl3_z⟩, ⟨nr1_z, nr2_z, nr3_z⟩, ⟨nk1_z, nk2_z, nk3_z⟩, ⟨AC0, AC1, AC2, AC3⟩, AD, AE, AG⟩, ⟨⟨c1_z, c2_z, c3_z, c4_z, c5_z, c6_z, c7_z, c8_z⟩, ⟨m2_z, m3_z, m4_z, m5_z, m6_z, m7_z, m8_z⟩, R3, R4, R5, R6, R7, R8, R9, R10⟩⟩ := (⟨A, R⟩ : rp 2 h876_z h886_z ∧ rq T S x15_z p15_z 2 h876_z h886_z)
                        replace hc_z := rn_put (am_cur_of (i := (124, 3, .putfield 187, (3, 5, 218), 0)) (by decide +kernel)) (by decide +kernel) hc_z
                        replace hc_z := rn_aload_n (am_cur_of (i := (127, 1, .aload_n 1, (0, 0, 0), 0)) (by decide +kernel)) g1_z hc_z
                        replace hc_z := rn_aload_n (am_cur_of (i := (128, 1, .aload_n 0, (0, 0, 0), 0)) (by decide +kernel)) g0_z hc_z
                        replace hc_z := rn_iconst (w := 0) (am_cur_of (i := (129, 1, .iconst 0, (0, 0, 0), 0)) (by decide +kernel)) (by decide) hc_z
                        replace hc_z := rn_bipush (w := 9) (am_cur_of (i := (130, 2, .bipush 9, (0, 0, 0), 0)) (by decide +kernel)) (by decide) hc_z
                        replace hc_z := rn_callV (M' := am_m30) (o := 44) (ar := [.int 9, .int 0]) (rest := [.ref 20]) (L := lv_args 0 [.ref 44, .int 0, .int 9]) (am_cur_of (i := (132, 3, .invokevirtual 142, (30, 773, 3), 0)) (by decide +kernel)) rfl rfl rfl rfl hc_z
                        obtain ⟨r888_z, h889_z, q890_z, hc_z⟩ := hc_z
                        replace hm_z := rn_ifT (am_cur_of (i := (116, 3, .ifCond .ne 5, (69, 0, 0), 0)) (by decide +kernel)) (by decide) hm_z
                        replace hm_z := rn_aload_n (am_cur_of (i := (121, 1, .aload_n 0, (0, 0, 0), 0)) (by decide +kernel)) g0m hm_z
                        replace hm_z := rn_getR (x := 170) (am_cur_of (i := (122, 3, .getfield 30, (12, 25, 1409), 0)) (by decide +kernel)) (by decide +kernel) hm_z
                        replace hm_z := rn_iload_n (am_cur_of (i := (125, 1, .iload_n 1, (0, 0, 0), 0)) (by decide +kernel)) g1m hm_z
                        replace hm_z := rn_iload_n (am_cur_of (i := (126, 1, .iload_n 2, (0, 0, 0), 0)) (by decide +kernel)) g2m hm_z
                        replace hm_z := rn_iadd (w := 39) (am_cur_of (i := (127, 1, .iadd, (0, 0, 0), 0)) (by decide +kernel)) (by decide) hm_z
                        replace hm_z := rn_aload_n (am_cur_of (i := (128, 1, .aload_n 0, (0, 0, 0), 0)) (by decide +kernel)) g0m hm_z
                        replace hm_z := rn_getI (v := v15_z) (am_cur_of (i := (129, 3, .getfield 188, (12, 11, 1395), 0)) (by decide +kernel)) (by decide +kernel) got hm_z
                        replace hm_z := rn_iastore (N := 56) (q := 39) (am_cur_of (i := (132, 1, .iastore, (0, 0, 0), 0)) (by decide +kernel)) (by decide +kernel) rfl hm_z
                        obtain ⟨p891_z, hm_z⟩ := hm_z
                        replace hm_z := rn_iinc (w := 5) (am_cur_of (i := (133, 3, .iinc 2 1, (0, 0, 0), 0)) (by decide +kernel)) g2m (by decide) hm_z
                        obtain ⟨_, s892_z, s893_z, g2m, hm_z⟩ := hm_z
                        replace g0m := s892_z 0 _ (by decide) rfl g0m
                        replace g1m := s892_z 1 _ (by decide) rfl g1m
                        replace g3m := s892_z 3 _ (by decide) rfl g3m
                        replace g4m := s892_z 4 _ (by decide) rfl g4m
                        clear s892_z s893_z
                        replace hm_z := rn_goto (am_cur_of (i := (136, 3, .goto (-87), (29, 0, 0), 0)) (by decide +kernel)) hm_z
                        replace hm_z := rn_iload_n (am_cur_of (i := (49, 1, .iload_n 2, (0, 0, 0), 0)) (by decide +kernel)) g2m hm_z
                        replace hm_z := rn_bipush (w := 7) (am_cur_of (i := (50, 2, .bipush 7, (0, 0, 0), 0)) (by decide +kernel)) (by decide) hm_z
                        replace hm_z := rn_cmpF (am_cur_of (i := (52, 3, .if_icmp .ge 87, (79, 0, 0), 0)) (by decide +kernel)) (by decide) hm_z
                        replace hm_z := rn_iload_n (am_cur_of (i := (55, 1, .iload_n 2, (0, 0, 0), 0)) (by decide +kernel)) g2m hm_z
                        replace hm_z := rn_ifF (am_cur_of (i := (56, 3, .ifCond .eq 13, (40, 0, 0), 0)) (by decide +kernel)) (by decide) hm_z
                        replace hm_z := rn_iload_n (am_cur_of (i := (59, 1, .iload_n 2, (0, 0, 0), 0)) (by decide +kernel)) g2m hm_z
                        replace hm_z := rn_iconst (w := 2) (am_cur_of (i := (60, 1, .iconst 2, (0, 0, 0), 0)) (by decide +kernel)) (by decide) hm_z
                        replace hm_z := rn_cmpF (am_cur_of (i := (61, 3, .if_icmp .eq 8, (40, 0, 0), 0)) (by decide +kernel)) (by decide) hm_z
                        replace hm_z := rn_iload_n (am_cur_of (i := (64, 1, .iload_n 2, (0, 0, 0), 0)) (by decide +kernel)) g2m hm_z
                        replace hm_z := rn_iconst (w := 3) (am_cur_of (i := (65, 1, .iconst 3, (0, 0, 0), 0)) (by decide +kernel)) (by decide) hm_z
                        replace hm_z := rn_cmpT (am_cur_of (i := (66, 3, .if_icmp .ne 7, (42, 0, 0), 0)) (by decide +kernel)) (by decide) hm_z
                        replace hm_z := rn_iconst (w := 0) (am_cur_of (i := (73, 1, .iconst 0, (0, 0, 0), 0)) (by decide +kernel)) (by decide) hm_z
                        replace hm_z := rn_istore_n (am_cur_of (i := (74, 1, .istore_n 3, (0, 0, 0), 0)) (by decide +kernel)) hm_z
                        obtain ⟨_, s894_z, s895_z, g3m, hm_z⟩ := hm_z
                        replace g0m := s894_z 0 _ (by decide) rfl g0m
                        replace g1m := s894_z 1 _ (by decide) rfl g1m
                        replace g2m := s894_z 2 _ (by decide) rfl g2m
                        replace g4m := s894_z 4 _ (by decide) rfl g4m
                        clear s894_z s895_z
                        replace hm_z := rn_iload_n (am_cur_of (i := (75, 1, .iload_n 2, (0, 0, 0), 0)) (by decide +kernel)) g2m hm_z
                        replace hm_z := rn_iconst (w := 1) (am_cur_of (i := (76, 1, .iconst 1, (0, 0, 0), 0)) (by decide +kernel)) (by decide) hm_z
                        replace hm_z := rn_cmpF (am_cur_of (i := (77, 3, .if_icmp .eq 8, (50, 0, 0), 0)) (by decide +kernel)) (by decide) hm_z
                        replace hm_z := rn_iload_n (am_cur_of (i := (80, 1, .iload_n 2, (0, 0, 0), 0)) (by decide +kernel)) g2m hm_z
                        replace hm_z := rn_iconst (w := 2) (am_cur_of (i := (81, 1, .iconst 2, (0, 0, 0), 0)) (by decide +kernel)) (by decide) hm_z
                        replace hm_z := rn_cmpT (am_cur_of (i := (82, 3, .if_icmp .ne 8, (52, 0, 0), 0)) (by decide +kernel)) (by decide) hm_z
                        replace hm_z := rn_iload_n (am_cur_of (i := (90, 1, .iload_n 2, (0, 0, 0), 0)) (by decide +kernel)) g2m hm_z
                        replace hm_z := rn_iconst (w := 3) (am_cur_of (i := (91, 1, .iconst 3, (0, 0, 0), 0)) (by decide +kernel)) (by decide) hm_z
                        replace hm_z := rn_cmpF (am_cur_of (i := (92, 3, .if_icmp .eq 8, (58, 0, 0), 0)) (by decide +kernel)) (by decide) hm_z
                        replace hm_z := rn_iload_n (am_cur_of (i := (95, 1, .iload_n 2, (0, 0, 0), 0)) (by decide +kernel)) g2m hm_z
                        replace hm_z := rn_iconst (w := 5) (am_cur_of (i := (96, 1, .iconst 5, (0, 0, 0), 0)) (by decide +kernel)) (by decide) hm_z
                        replace hm_z := rn_cmpF (am_cur_of (i := (97, 3, .if_icmp .ne 8, (60, 0, 0), 0)) (by decide +kernel)) (by decide) hm_z
                        replace hm_z := rn_bipush (w := 9) (am_cur_of (i := (100, 2, .bipush 9, (0, 0, 0), 0)) (by decide +kernel)) (by decide) hm_z
                        replace hm_z := rn_goto (am_cur_of (i := (102, 3, .goto 5, (61, 0, 0), 0)) (by decide +kernel)) hm_z
                        replace hm_z := rn_istore (am_cur_of (i := (107, 2, .istore 4, (0, 0, 0), 0)) (by decide +kernel)) hm_z
                        obtain ⟨_, s896_z, s897_z, g4m, hm_z⟩ := hm_z
                        replace g0m := s896_z 0 _ (by decide) rfl g0m
                        replace g1m := s896_z 1 _ (by decide) rfl g1m
                        replace g2m := s896_z 2 _ (by decide) rfl g2m
                        replace g3m := s896_z 3 _ (by decide) rfl g3m
                        clear s896_z s897_z
                        replace hm_z := rn_aload_n (am_cur_of (i := (109, 1, .aload_n 0, (0, 0, 0), 0)) (by decide +kernel)) g0m hm_z
                        replace hm_z := rn_iload_n (am_cur_of (i := (110, 1, .iload_n 3, (0, 0, 0), 0)) (by decide +kernel)) g3m hm_z
                        replace hm_z := rn_iload (am_cur_of (i := (111, 2, .iload 4, (0, 0, 0), 0)) (by decide +kernel)) g4m hm_z
                        replace hm_z := rn_callV (M' := am_m161) (o := 164) (ar := [.int 9, .int 0]) (rest := []) (L := lv_args 0 [.ref 164, .int 0, .int 9]) (am_cur_of (i := (113, 3, .invokevirtual 197, (161, 1677, 3), 0)) (by decide +kernel)) rfl rfl rfl rfl hm_z
                        obtain ⟨r898_z, h899_z, q900_z, hm_z⟩ := hm_z
                        have R' : rq T S x15_z p15_z 2 (am_up h876_z 20 5 (.int v15_z)) (am_up h886_z 170 39 (.int v15_z)) := ⟨⟨c1_z, c2_z, c3_z, c4_z, c5_z, c6_z, fun k hk_z => c7_z k hk_z, fun k hk_z => c8_z k hk_z⟩, ⟨m2_z, m3_z, m4_z, m5_z, m6_z, fun k hk_z => m7_z k hk_z, fun k hk_z => m8_z k hk_z⟩, R3, R4, R5, R6, R7, R8, R9, R10⟩
                        have A' : rp 2 (am_up h876_z 20 5 (.int v15_z)) (am_up h886_z 170 39 (.int v15_z)) := ⟨⟨a1_z, a2_z, a3_z, a4_z, a5_z, a6_z⟩, ⟨nb1_z, nb2_z, nb3_z⟩, ⟨nt1_z, nt2_z, nt3_z⟩, ⟨nl1_z, nl2_z, nl3_z⟩, ⟨nr1_z, nr2_z, nr3_z⟩, ⟨nk1_z, nk2_z, nk3_z⟩, ⟨(fun hb_z k hk_z => by match k, hk_z with | 0, _ => exact AC0 hb_z 0 (by decide) | 1, _ => exact AC0 hb_z 1 (by decide) | 2, _ => exact AC0 hb_z 2 (by decide) | 3, _ => exact AC0 hb_z 3 (by decide) | 4, _ => exact AC0 hb_z 4 (by decide) | 5, _ => exact AC0 hb_z 5 (by decide) | 6, _ => exact AC0 hb_z 6 (by decide) | 7, _ => exact AC0 hb_z 7 (by decide)), fun hb_z => absurd hb_z (by rw [show rg_v (am_up h876_z 20 5 (.int v15_z)) 2 2 = 1 from ecb]; decide), fun hb_z => absurd hb_z (by rw [show rg_v (am_up h876_z 20 5 (.int v15_z)) 2 2 = 1 from ecb]; decide), fun hb_z => absurd hb_z (by rw [show rg_v (am_up h876_z 20 5 (.int v15_z)) 2 2 = 1 from ecb]; decide)⟩, fun t ht => AD t ht, fun t ht => AE t ht, fun t ht => AG t ht⟩
                        have B' : rp_t (am_up h876_z 20 5 (.int v15_z)) (am_up h886_z 170 39 (.int v15_z)) := by
                          obtain ⟨b0_z, b1_z, b2_z, b3_z, b4_z, b5_z, b6_z, t, o0_z, o1_z, o2_z, o3_z, o4_z, o5_z, o6_z⟩ := B
                          exact ⟨b0_z, b1_z, b2_z, b3_z, b4_z, b5_z, b6_z, t, o0_z, o1_z, o2_z, o3_z, o4_z, o5_z, o6_z⟩
                        rcases pr_num R' (by decide) (by decide) q890_z q900_z with ⟨v16_z, x16_z, p16_z, rfl, rfl, lo16_z, hi16_z, R, le16_z, got, X, Y, t7_z, t167_z⟩ | ⟨rfl, F⟩
                        · replace A := rp_x (by decide) A' X Y
                          replace B := rp_tk B' t7_z t167_z Y
                          clear A' B' R'
                          replace le16_z : x.toInt ≤ p16_z.toInt := Int.le_trans (Int.le_trans le15_z R8) le16_z
                          replace ecb : rg_v h889_z 2 2 = 1 := (rx_v X (o := 2) (k := 2) (by decide)).trans ecb
                          replace ect : rg_v h889_z 2 4 = ct := (rx_v X (o := 2) (k := 4) (by decide)).trans ect
                          replace ecl : rg_v h889_z 2 9 = cl := (rx_v X (o := 2) (k := 9) (by decide)).trans ecl
                          replace ecr : rg_v h889_z 2 12 = cr := (rx_v X (o := 2) (k := 12) (by decide)).trans ecr
                          replace E0 : rg_v h889_z 20 0 = rg_v h899_z 169 5 := (rx_v X (o := 20) (k := 0) (by decide)).trans (E0.trans (rx_w Y (o := 169) (k := 5) (by omega) (by decide)).symm)
                          replace E1 : rg_v h889_z 20 1 = rg_v h899_z 170 35 := (rx_v X (o := 20) (k := 1) (by decide)).trans (E1.trans (rx_w Y (o := 170) (k := 35) (by omega) (by decide)).symm)
                          replace E2 : rg_v h889_z 20 2 = rg_v h899_z 170 36 := (rx_v X (o := 20) (k := 2) (by decide)).trans (E2.trans (rx_w Y (o := 170) (k := 36) (by omega) (by decide)).symm)
                          replace E3 : rg_v h889_z 20 3 = rg_v h899_z 170 37 := (rx_v X (o := 20) (k := 3) (by decide)).trans (E3.trans (rx_w Y (o := 170) (k := 37) (by omega) (by decide)).symm)
                          replace E4 : rg_v h889_z 20 4 = rg_v h899_z 170 38 := (rx_v X (o := 20) (k := 4) (by decide)).trans (E4.trans (rx_w Y (o := 170) (k := 38) (by omega) (by decide)).symm)
                          have E5 : rg_v h889_z 20 5 = rg_v h899_z 170 39 := (rx_v X (o := 20) (k := 5) (by decide)).trans (Eq.trans (rfl) (rx_w Y (o := 170) (k := 39) (by omega) (by decide)).symm)
                          replace hm_z : rn _ _ _ _ [.int 1] _ _ _ := hm_z
                          replace hc_z : rn _ _ _ _ [.int v16_z, .ref 20] _ _ _ := hc_z
                          clear a1_z a2_z a3_z a4_z a5_z a6_z nb1_z nb2_z nb3_z nt1_z nt2_z nt3_z nl1_z nl2_z nl3_z nr1_z nr2_z nr3_z nk1_z nk2_z nk3_z AC0 AC1 AC2 AC3 AD AE AG c1_z c2_z c3_z c4_z c5_z c6_z c7_z c8_z m2_z m3_z m4_z m5_z m6_z m7_z m8_z R3 R4 R5 R6 R7 R8 R9 R10
                          obtain ⟨⟨⟨a1_z, a2_z, a3_z, a4_z, a5_z, a6_z⟩, ⟨nb1_z, nb2_z, nb3_z⟩, ⟨nt1_z, nt2_z, nt3_z⟩, ⟨nl1_z, nl2_z, nl3_z⟩, ⟨nr1_z, nr2_z, nr3_z⟩, ⟨nk1_z, nk2_z, nk3_z⟩, ⟨AC0, AC1, AC2, AC3⟩, AD, AE, AG⟩, ⟨⟨c1_z, c2_z, c3_z, c4_z, c5_z, c6_z, c7_z, c8_z⟩, ⟨m2_z, m3_z, m4_z, m5_z, m6_z, m7_z, m8_z⟩, R3, R4, R5, R6, R7, R8, R9, R10⟩⟩ := (⟨A, R⟩ : rp 2 h889_z h899_z ∧ rq T S x16_z p16_z 2 h889_z h899_z)
                          replace hc_z := rn_put (am_cur_of (i := (135, 3, .putfield 190, (3, 6, 220), 0)) (by decide +kernel)) (by decide +kernel) hc_z
                          replace hc_z := rn_aload_n (am_cur_of (i := (138, 1, .aload_n 1, (0, 0, 0), 0)) (by decide +kernel)) g1_z hc_z
                          replace hc_z := rn_aload_n (am_cur_of (i := (139, 1, .aload_n 0, (0, 0, 0), 0)) (by decide +kernel)) g0_z hc_z
                          replace hc_z := rn_iconst (w := 0) (am_cur_of (i := (140, 1, .iconst 0, (0, 0, 0), 0)) (by decide +kernel)) (by decide) hc_z
                          replace hc_z := rn_bipush (w := 99) (am_cur_of (i := (141, 2, .bipush 99, (0, 0, 0), 0)) (by decide +kernel)) (by decide) hc_z
                          replace hc_z := rn_callV (M' := am_m30) (o := 44) (ar := [.int 99, .int 0]) (rest := [.ref 20]) (L := lv_args 0 [.ref 44, .int 0, .int 99]) (am_cur_of (i := (143, 3, .invokevirtual 142, (30, 773, 3), 0)) (by decide +kernel)) rfl rfl rfl rfl hc_z
                          obtain ⟨r901_z, h902_z, q903_z, hc_z⟩ := hc_z
                          replace hm_z := rn_ifT (am_cur_of (i := (116, 3, .ifCond .ne 5, (69, 0, 0), 0)) (by decide +kernel)) (by decide) hm_z
                          replace hm_z := rn_aload_n (am_cur_of (i := (121, 1, .aload_n 0, (0, 0, 0), 0)) (by decide +kernel)) g0m hm_z
                          replace hm_z := rn_getR (x := 170) (am_cur_of (i := (122, 3, .getfield 30, (12, 25, 1409), 0)) (by decide +kernel)) (by decide +kernel) hm_z
                          replace hm_z := rn_iload_n (am_cur_of (i := (125, 1, .iload_n 1, (0, 0, 0), 0)) (by decide +kernel)) g1m hm_z
                          replace hm_z := rn_iload_n (am_cur_of (i := (126, 1, .iload_n 2, (0, 0, 0), 0)) (by decide +kernel)) g2m hm_z
                          replace hm_z := rn_iadd (w := 40) (am_cur_of (i := (127, 1, .iadd, (0, 0, 0), 0)) (by decide +kernel)) (by decide) hm_z
                          replace hm_z := rn_aload_n (am_cur_of (i := (128, 1, .aload_n 0, (0, 0, 0), 0)) (by decide +kernel)) g0m hm_z
                          replace hm_z := rn_getI (v := v16_z) (am_cur_of (i := (129, 3, .getfield 188, (12, 11, 1395), 0)) (by decide +kernel)) (by decide +kernel) got hm_z
                          replace hm_z := rn_iastore (N := 56) (q := 40) (am_cur_of (i := (132, 1, .iastore, (0, 0, 0), 0)) (by decide +kernel)) (by decide +kernel) rfl hm_z
                          obtain ⟨p904_z, hm_z⟩ := hm_z
                          replace hm_z := rn_iinc (w := 6) (am_cur_of (i := (133, 3, .iinc 2 1, (0, 0, 0), 0)) (by decide +kernel)) g2m (by decide) hm_z
                          obtain ⟨_, s905_z, s906_z, g2m, hm_z⟩ := hm_z
                          replace g0m := s905_z 0 _ (by decide) rfl g0m
                          replace g1m := s905_z 1 _ (by decide) rfl g1m
                          replace g3m := s905_z 3 _ (by decide) rfl g3m
                          replace g4m := s905_z 4 _ (by decide) rfl g4m
                          clear s905_z s906_z
                          replace hm_z := rn_goto (am_cur_of (i := (136, 3, .goto (-87), (29, 0, 0), 0)) (by decide +kernel)) hm_z
                          replace hm_z := rn_iload_n (am_cur_of (i := (49, 1, .iload_n 2, (0, 0, 0), 0)) (by decide +kernel)) g2m hm_z
                          replace hm_z := rn_bipush (w := 7) (am_cur_of (i := (50, 2, .bipush 7, (0, 0, 0), 0)) (by decide +kernel)) (by decide) hm_z
                          replace hm_z := rn_cmpF (am_cur_of (i := (52, 3, .if_icmp .ge 87, (79, 0, 0), 0)) (by decide +kernel)) (by decide) hm_z
                          replace hm_z := rn_iload_n (am_cur_of (i := (55, 1, .iload_n 2, (0, 0, 0), 0)) (by decide +kernel)) g2m hm_z
                          replace hm_z := rn_ifF (am_cur_of (i := (56, 3, .ifCond .eq 13, (40, 0, 0), 0)) (by decide +kernel)) (by decide) hm_z
                          replace hm_z := rn_iload_n (am_cur_of (i := (59, 1, .iload_n 2, (0, 0, 0), 0)) (by decide +kernel)) g2m hm_z
                          replace hm_z := rn_iconst (w := 2) (am_cur_of (i := (60, 1, .iconst 2, (0, 0, 0), 0)) (by decide +kernel)) (by decide) hm_z
                          replace hm_z := rn_cmpF (am_cur_of (i := (61, 3, .if_icmp .eq 8, (40, 0, 0), 0)) (by decide +kernel)) (by decide) hm_z
                          replace hm_z := rn_iload_n (am_cur_of (i := (64, 1, .iload_n 2, (0, 0, 0), 0)) (by decide +kernel)) g2m hm_z
                          replace hm_z := rn_iconst (w := 3) (am_cur_of (i := (65, 1, .iconst 3, (0, 0, 0), 0)) (by decide +kernel)) (by decide) hm_z
                          replace hm_z := rn_cmpT (am_cur_of (i := (66, 3, .if_icmp .ne 7, (42, 0, 0), 0)) (by decide +kernel)) (by decide) hm_z
                          replace hm_z := rn_iconst (w := 0) (am_cur_of (i := (73, 1, .iconst 0, (0, 0, 0), 0)) (by decide +kernel)) (by decide) hm_z
                          replace hm_z := rn_istore_n (am_cur_of (i := (74, 1, .istore_n 3, (0, 0, 0), 0)) (by decide +kernel)) hm_z
                          obtain ⟨_, s907_z, s908_z, g3m, hm_z⟩ := hm_z
                          replace g0m := s907_z 0 _ (by decide) rfl g0m
                          replace g1m := s907_z 1 _ (by decide) rfl g1m
                          replace g2m := s907_z 2 _ (by decide) rfl g2m
                          replace g4m := s907_z 4 _ (by decide) rfl g4m
                          clear s907_z s908_z
                          replace hm_z := rn_iload_n (am_cur_of (i := (75, 1, .iload_n 2, (0, 0, 0), 0)) (by decide +kernel)) g2m hm_z
                          replace hm_z := rn_iconst (w := 1) (am_cur_of (i := (76, 1, .iconst 1, (0, 0, 0), 0)) (by decide +kernel)) (by decide) hm_z
                          replace hm_z := rn_cmpF (am_cur_of (i := (77, 3, .if_icmp .eq 8, (50, 0, 0), 0)) (by decide +kernel)) (by decide) hm_z
                          replace hm_z := rn_iload_n (am_cur_of (i := (80, 1, .iload_n 2, (0, 0, 0), 0)) (by decide +kernel)) g2m hm_z
                          replace hm_z := rn_iconst (w := 2) (am_cur_of (i := (81, 1, .iconst 2, (0, 0, 0), 0)) (by decide +kernel)) (by decide) hm_z
                          replace hm_z := rn_cmpT (am_cur_of (i := (82, 3, .if_icmp .ne 8, (52, 0, 0), 0)) (by decide +kernel)) (by decide) hm_z
                          replace hm_z := rn_iload_n (am_cur_of (i := (90, 1, .iload_n 2, (0, 0, 0), 0)) (by decide +kernel)) g2m hm_z
                          replace hm_z := rn_iconst (w := 3) (am_cur_of (i := (91, 1, .iconst 3, (0, 0, 0), 0)) (by decide +kernel)) (by decide) hm_z
                          replace hm_z := rn_cmpF (am_cur_of (i := (92, 3, .if_icmp .eq 8, (58, 0, 0), 0)) (by decide +kernel)) (by decide) hm_z
                          replace hm_z := rn_iload_n (am_cur_of (i := (95, 1, .iload_n 2, (0, 0, 0), 0)) (by decide +kernel)) g2m hm_z
                          replace hm_z := rn_iconst (w := 5) (am_cur_of (i := (96, 1, .iconst 5, (0, 0, 0), 0)) (by decide +kernel)) (by decide) hm_z
                          replace hm_z := rn_cmpT (am_cur_of (i := (97, 3, .if_icmp .ne 8, (60, 0, 0), 0)) (by decide +kernel)) (by decide) hm_z
                          replace hm_z := rn_bipush (w := 99) (am_cur_of (i := (105, 2, .bipush 99, (0, 0, 0), 0)) (by decide +kernel)) (by decide) hm_z
                          replace hm_z := rn_istore (am_cur_of (i := (107, 2, .istore 4, (0, 0, 0), 0)) (by decide +kernel)) hm_z
                          obtain ⟨_, s909_z, s910_z, g4m, hm_z⟩ := hm_z
                          replace g0m := s909_z 0 _ (by decide) rfl g0m
                          replace g1m := s909_z 1 _ (by decide) rfl g1m
                          replace g2m := s909_z 2 _ (by decide) rfl g2m
                          replace g3m := s909_z 3 _ (by decide) rfl g3m
                          clear s909_z s910_z
                          replace hm_z := rn_aload_n (am_cur_of (i := (109, 1, .aload_n 0, (0, 0, 0), 0)) (by decide +kernel)) g0m hm_z
                          replace hm_z := rn_iload_n (am_cur_of (i := (110, 1, .iload_n 3, (0, 0, 0), 0)) (by decide +kernel)) g3m hm_z
                          replace hm_z := rn_iload (am_cur_of (i := (111, 2, .iload 4, (0, 0, 0), 0)) (by decide +kernel)) g4m hm_z
                          replace hm_z := rn_callV (M' := am_m161) (o := 164) (ar := [.int 99, .int 0]) (rest := []) (L := lv_args 0 [.ref 164, .int 0, .int 99]) (am_cur_of (i := (113, 3, .invokevirtual 197, (161, 1677, 3), 0)) (by decide +kernel)) rfl rfl rfl rfl hm_z
                          obtain ⟨r911_z, h912_z, q913_z, hm_z⟩ := hm_z
                          have R' : rq T S x16_z p16_z 2 (am_up h889_z 20 6 (.int v16_z)) (am_up h899_z 170 40 (.int v16_z)) := ⟨⟨c1_z, c2_z, c3_z, c4_z, c5_z, c6_z, fun k hk_z => c7_z k hk_z, fun k hk_z => c8_z k hk_z⟩, ⟨m2_z, m3_z, m4_z, m5_z, m6_z, fun k hk_z => m7_z k hk_z, fun k hk_z => m8_z k hk_z⟩, R3, R4, R5, R6, R7, R8, R9, R10⟩
                          have A' : rp 2 (am_up h889_z 20 6 (.int v16_z)) (am_up h899_z 170 40 (.int v16_z)) := ⟨⟨a1_z, a2_z, a3_z, a4_z, a5_z, a6_z⟩, ⟨nb1_z, nb2_z, nb3_z⟩, ⟨nt1_z, nt2_z, nt3_z⟩, ⟨nl1_z, nl2_z, nl3_z⟩, ⟨nr1_z, nr2_z, nr3_z⟩, ⟨nk1_z, nk2_z, nk3_z⟩, ⟨(fun hb_z k hk_z => by match k, hk_z with | 0, _ => exact AC0 hb_z 0 (by decide) | 1, _ => exact AC0 hb_z 1 (by decide) | 2, _ => exact AC0 hb_z 2 (by decide) | 3, _ => exact AC0 hb_z 3 (by decide) | 4, _ => exact AC0 hb_z 4 (by decide) | 5, _ => exact AC0 hb_z 5 (by decide) | 6, _ => exact AC0 hb_z 6 (by decide) | 7, _ => exact AC0 hb_z 7 (by decide)), fun hb_z => absurd hb_z (by rw [show rg_v (am_up h889_z 20 6 (.int v16_z)) 2 2 = 1 from ecb]; decide), fun hb_z => absurd hb_z (by rw [show rg_v (am_up h889_z 20 6 (.int v16_z)) 2 2 = 1 from ecb]; decide), fun hb_z => absurd hb_z (by rw [show rg_v (am_up h889_z 20 6 (.int v16_z)) 2 2 = 1 from ecb]; decide)⟩, fun t ht => AD t ht, fun t ht => AE t ht, fun t ht => AG t ht⟩
                          have B' : rp_t (am_up h889_z 20 6 (.int v16_z)) (am_up h899_z 170 40 (.int v16_z)) := by
                            obtain ⟨b0_z, b1_z, b2_z, b3_z, b4_z, b5_z, b6_z, t, o0_z, o1_z, o2_z, o3_z, o4_z, o5_z, o6_z⟩ := B
                            exact ⟨b0_z, b1_z, b2_z, b3_z, b4_z, b5_z, b6_z, t, o0_z, o1_z, o2_z, o3_z, o4_z, o5_z, o6_z⟩
                          rcases pr_num R' (by decide) (by decide) q903_z q913_z with ⟨v17_z, x17_z, p17_z, rfl, rfl, lo17_z, hi17_z, R, le17_z, got, X, Y, t7_z, t167_z⟩ | ⟨rfl, F⟩
                          · replace A := rp_x (by decide) A' X Y
                            replace B := rp_tk B' t7_z t167_z Y
                            clear A' B' R'
                            replace le17_z : x.toInt ≤ p17_z.toInt := Int.le_trans (Int.le_trans le16_z R8) le17_z
                            replace ecb : rg_v h902_z 2 2 = 1 := (rx_v X (o := 2) (k := 2) (by decide)).trans ecb
                            replace ect : rg_v h902_z 2 4 = ct := (rx_v X (o := 2) (k := 4) (by decide)).trans ect
                            replace ecl : rg_v h902_z 2 9 = cl := (rx_v X (o := 2) (k := 9) (by decide)).trans ecl
                            replace ecr : rg_v h902_z 2 12 = cr := (rx_v X (o := 2) (k := 12) (by decide)).trans ecr
                            replace E0 : rg_v h902_z 20 0 = rg_v h912_z 169 5 := (rx_v X (o := 20) (k := 0) (by decide)).trans (E0.trans (rx_w Y (o := 169) (k := 5) (by omega) (by decide)).symm)
                            replace E1 : rg_v h902_z 20 1 = rg_v h912_z 170 35 := (rx_v X (o := 20) (k := 1) (by decide)).trans (E1.trans (rx_w Y (o := 170) (k := 35) (by omega) (by decide)).symm)
                            replace E2 : rg_v h902_z 20 2 = rg_v h912_z 170 36 := (rx_v X (o := 20) (k := 2) (by decide)).trans (E2.trans (rx_w Y (o := 170) (k := 36) (by omega) (by decide)).symm)
                            replace E3 : rg_v h902_z 20 3 = rg_v h912_z 170 37 := (rx_v X (o := 20) (k := 3) (by decide)).trans (E3.trans (rx_w Y (o := 170) (k := 37) (by omega) (by decide)).symm)
                            replace E4 : rg_v h902_z 20 4 = rg_v h912_z 170 38 := (rx_v X (o := 20) (k := 4) (by decide)).trans (E4.trans (rx_w Y (o := 170) (k := 38) (by omega) (by decide)).symm)
                            replace E5 : rg_v h902_z 20 5 = rg_v h912_z 170 39 := (rx_v X (o := 20) (k := 5) (by decide)).trans (E5.trans (rx_w Y (o := 170) (k := 39) (by omega) (by decide)).symm)
                            have E6 : rg_v h902_z 20 6 = rg_v h912_z 170 40 := (rx_v X (o := 20) (k := 6) (by decide)).trans (Eq.trans (rfl) (rx_w Y (o := 170) (k := 40) (by omega) (by decide)).symm)
                            replace hm_z : rn _ _ _ _ [.int 1] _ _ _ := hm_z
                            replace hc_z : rn _ _ _ _ [.int v17_z, .ref 20] _ _ _ := hc_z
                            clear a1_z a2_z a3_z a4_z a5_z a6_z nb1_z nb2_z nb3_z nt1_z nt2_z nt3_z nl1_z nl2_z nl3_z nr1_z nr2_z nr3_z nk1_z nk2_z nk3_z AC0 AC1 AC2 AC3 AD AE AG c1_z c2_z c3_z c4_z c5_z c6_z c7_z c8_z m2_z m3_z m4_z m5_z m6_z m7_z m8_z R3 R4 R5 R6 R7 R8 R9 R10
                            obtain ⟨⟨⟨a1_z, a2_z, a3_z, a4_z, a5_z, a6_z⟩, ⟨nb1_z, nb2_z, nb3_z⟩, ⟨nt1_z, nt2_z, nt3_z⟩, ⟨nl1_z, nl2_z, nl3_z⟩, ⟨nr1_z, nr2_z, nr3_z⟩, ⟨nk1_z, nk2_z, nk3_z⟩, ⟨AC0, AC1, AC2, AC3⟩, AD, AE, AG⟩, ⟨⟨c1_z, c2_z, c3_z, c4_z, c5_z, c6_z, c7_z, c8_z⟩, ⟨m2_z, m3_z, m4_z, m5_z, m6_z, m7_z, m8_z⟩, R3, R4, R5, R6, R7, R8, R9, R10⟩⟩ := (⟨A, R⟩ : rp 2 h902_z h912_z ∧ rq T S x17_z p17_z 2 h902_z h912_z)
                            replace hc_z := rn_put (am_cur_of (i := (146, 3, .putfield 193, (3, 7, 221), 0)) (by decide +kernel)) (by decide +kernel) hc_z
                            replace hc_z := rn_aload_n (am_cur_of (i := (149, 1, .aload_n 0, (0, 0, 0), 0)) (by decide +kernel)) g0_z hc_z
                            replace hc_z := rn_getM (x := 2) (am_cur_of (i := (150, 3, .getfield 25, (4, 6, 415), 0)) (by decide +kernel)) (show (am_up h902_z 20 7 (.int v17_z)) 44 6 = .ref 2 from R3) hc_z
                            replace hc_z := rn_dup (am_cur_of (i := (153, 1, .dup, (0, 0, 0), 0)) (by decide +kernel)) hc_z
                            replace hc_z := rn_getI (v := 1) (am_cur_of (i := (154, 3, .getfield 151, (1, 2, 259), 0)) (by decide +kernel)) (by decide +kernel) (show rg_v (am_up h902_z 20 7 (.int v17_z)) 2 2 = 1 from ecb) hc_z
                            replace hc_z := rn_iconst (w := 1) (am_cur_of (i := (157, 1, .iconst 1, (0, 0, 0), 0)) (by decide +kernel)) (by decide) hc_z
                            replace hc_z := rn_iadd (w := 2) (am_cur_of (i := (158, 1, .iadd, (0, 0, 0), 0)) (by decide +kernel)) (by decide) hc_z
                            replace hc_z := rn_put (am_cur_of (i := (159, 3, .putfield 151, (1, 2, 259), 0)) (by decide +kernel)) (by decide +kernel) hc_z
                            replace hc_z := rn_vret (am_cur_of (i := (162, 1, .return_, (0, 0, 0), 0)) (by decide +kernel)) hc_z
                            obtain ⟨e914_z, e915_z⟩ := hc_z
                            subst e914_z e915_z
                            replace hm_z := rn_ifT (am_cur_of (i := (116, 3, .ifCond .ne 5, (69, 0, 0), 0)) (by decide +kernel)) (by decide) hm_z
                            replace hm_z := rn_aload_n (am_cur_of (i := (121, 1, .aload_n 0, (0, 0, 0), 0)) (by decide +kernel)) g0m hm_z
                            replace hm_z := rn_getR (x := 170) (am_cur_of (i := (122, 3, .getfield 30, (12, 25, 1409), 0)) (by decide +kernel)) (by decide +kernel) hm_z
                            replace hm_z := rn_iload_n (am_cur_of (i := (125, 1, .iload_n 1, (0, 0, 0), 0)) (by decide +kernel)) g1m hm_z
                            replace hm_z := rn_iload_n (am_cur_of (i := (126, 1, .iload_n 2, (0, 0, 0), 0)) (by decide +kernel)) g2m hm_z
                            replace hm_z := rn_iadd (w := 41) (am_cur_of (i := (127, 1, .iadd, (0, 0, 0), 0)) (by decide +kernel)) (by decide) hm_z
                            replace hm_z := rn_aload_n (am_cur_of (i := (128, 1, .aload_n 0, (0, 0, 0), 0)) (by decide +kernel)) g0m hm_z
                            replace hm_z := rn_getI (v := v17_z) (am_cur_of (i := (129, 3, .getfield 188, (12, 11, 1395), 0)) (by decide +kernel)) (by decide +kernel) got hm_z
                            replace hm_z := rn_iastore (N := 56) (q := 41) (am_cur_of (i := (132, 1, .iastore, (0, 0, 0), 0)) (by decide +kernel)) (by decide +kernel) rfl hm_z
                            obtain ⟨p916_z, hm_z⟩ := hm_z
                            replace hm_z := rn_iinc (w := 7) (am_cur_of (i := (133, 3, .iinc 2 1, (0, 0, 0), 0)) (by decide +kernel)) g2m (by decide) hm_z
                            obtain ⟨_, s917_z, s918_z, g2m, hm_z⟩ := hm_z
                            replace g0m := s917_z 0 _ (by decide) rfl g0m
                            replace g1m := s917_z 1 _ (by decide) rfl g1m
                            replace g3m := s917_z 3 _ (by decide) rfl g3m
                            replace g4m := s917_z 4 _ (by decide) rfl g4m
                            clear s917_z s918_z
                            replace hm_z := rn_goto (am_cur_of (i := (136, 3, .goto (-87), (29, 0, 0), 0)) (by decide +kernel)) hm_z
                            replace hm_z := rn_iload_n (am_cur_of (i := (49, 1, .iload_n 2, (0, 0, 0), 0)) (by decide +kernel)) g2m hm_z
                            replace hm_z := rn_bipush (w := 7) (am_cur_of (i := (50, 2, .bipush 7, (0, 0, 0), 0)) (by decide +kernel)) (by decide) hm_z
                            replace hm_z := rn_cmpT (am_cur_of (i := (52, 3, .if_icmp .ge 87, (79, 0, 0), 0)) (by decide +kernel)) (by decide) hm_z
                            replace hm_z := rn_aload_n (am_cur_of (i := (139, 1, .aload_n 0, (0, 0, 0), 0)) (by decide +kernel)) g0m hm_z
                            replace hm_z := rn_dup (am_cur_of (i := (140, 1, .dup, (0, 0, 0), 0)) (by decide +kernel)) hm_z
                            replace hm_z := rn_getI (v := 1) (am_cur_of (i := (141, 3, .getfield 201, (12, 17, 1401), 0)) (by decide +kernel)) (by decide +kernel) (show rg_v (am_up h912_z 170 41 (.int v17_z)) 164 17 = 1 from (nb1_z.symm.trans ecb)) hm_z
                            replace hm_z := rn_iconst (w := 1) (am_cur_of (i := (144, 1, .iconst 1, (0, 0, 0), 0)) (by decide +kernel)) (by decide) hm_z
                            replace hm_z := rn_iadd (w := 2) (am_cur_of (i := (145, 1, .iadd, (0, 0, 0), 0)) (by decide +kernel)) (by decide) hm_z
                            replace hm_z := rn_put (am_cur_of (i := (146, 3, .putfield 201, (12, 17, 1401), 0)) (by decide +kernel)) (by decide +kernel) hm_z
                            replace hm_z := rn_iconst (w := 1) (am_cur_of (i := (149, 1, .iconst 1, (0, 0, 0), 0)) (by decide +kernel)) (by decide) hm_z
                            replace hm_z := rn_iret (am_cur_of (i := (150, 1, .ireturn, (0, 0, 0), 0)) (by decide +kernel)) hm_z
                            obtain ⟨e919_z, e920_z⟩ := hm_z
                            subst e919_z e920_z
                            have R' : rq T S x17_z p17_z 2 (am_up (am_up h902_z 20 7 (.int v17_z)) 2 2 (.int 2)) (am_up (am_up h912_z 170 41 (.int v17_z)) 164 17 (.int 2)) := ⟨⟨c1_z, c2_z, c3_z, c4_z, c5_z, c6_z, fun k hk_z => c7_z k hk_z, fun k hk_z => c8_z k hk_z⟩, ⟨m2_z, m3_z, m4_z, m5_z, m6_z, fun k hk_z => m7_z k hk_z, fun k hk_z => m8_z k hk_z⟩, R3, R4, R5, R6, R7, R8, R9, R10⟩
                            have pq0_z : rp_C 2 (am_up (am_up h902_z 20 7 (.int v17_z)) 2 2 (.int 2)) (am_up (am_up h912_z 170 41 (.int v17_z)) 164 17 (.int 2)) 0 := by
                              intro hb_z k hk_z
                              have hb2_z : ((0 : Nat) : Int) < (rg_v h902_z 2 2).toInt := by rw [ecb]; decide
                              match k, hk_z with
                              | 0, _ => exact AC0 hb2_z 0 (by decide)
                              | 1, _ => exact AC0 hb2_z 1 (by decide)
                              | 2, _ => exact AC0 hb2_z 2 (by decide)
                              | 3, _ => exact AC0 hb2_z 3 (by decide)
                              | 4, _ => exact AC0 hb2_z 4 (by decide)
                              | 5, _ => exact AC0 hb2_z 5 (by decide)
                              | 6, _ => exact AC0 hb2_z 6 (by decide)
                              | 7, _ => exact AC0 hb2_z 7 (by decide)
                            have pq1_z : rp_C 2 (am_up (am_up h902_z 20 7 (.int v17_z)) 2 2 (.int 2)) (am_up (am_up h912_z 170 41 (.int v17_z)) 164 17 (.int 2)) 1 := by
                              intro hb_z k hk_z
                              match k, hk_z with
                              | 0, _ => exact E0
                              | 1, _ => exact E1
                              | 2, _ => exact E2
                              | 3, _ => exact E3
                              | 4, _ => exact E4
                              | 5, _ => exact E5
                              | 6, _ => exact E6
                              | 7, _ => exact rfl
                            have A' : rp 2 (am_up (am_up h902_z 20 7 (.int v17_z)) 2 2 (.int 2)) (am_up (am_up h912_z 170 41 (.int v17_z)) 164 17 (.int 2)) := ⟨⟨a1_z, a2_z, a3_z, a4_z, a5_z, a6_z⟩, ⟨rfl, (show 0 ≤ ((1 : Int32) + 1).toInt by decide), (show ((1 : Int32) + 1).toInt ≤ 4 by decide)⟩, ⟨nt1_z, nt2_z, nt3_z⟩, ⟨nl1_z, nl2_z, nl3_z⟩, ⟨nr1_z, nr2_z, nr3_z⟩, ⟨nk1_z, nk2_z, nk3_z⟩, ⟨(pq0_z), (pq1_z), (fun hb_z => absurd hb_z (by show ¬ ((2 : Nat) : Int) < ((1 : Int32) + 1).toInt; decide)), (fun hb_z => absurd hb_z (by show ¬ ((3 : Nat) : Int) < ((1 : Int32) + 1).toInt; decide))⟩, fun t ht => AD t ht, fun t ht => AE t ht, fun t ht => AG t ht⟩
                            have B' : rp_t (am_up (am_up h902_z 20 7 (.int v17_z)) 2 2 (.int 2)) (am_up (am_up h912_z 170 41 (.int v17_z)) 164 17 (.int 2)) := by
                              obtain ⟨b0_z, b1_z, b2_z, b3_z, b4_z, b5_z, b6_z, t, o0_z, o1_z, o2_z, o3_z, o4_z, o5_z, o6_z⟩ := B
                              exact ⟨b0_z, b1_z, b2_z, b3_z, b4_z, b5_z, b6_z, t, o0_z, o1_z, o2_z, o3_z, o4_z, o5_z, o6_z⟩
                            exact Or.inl ⟨rfl, _, _, R', le17_z, A', B'⟩
                          · obtain ⟨wv, w0_z, f1_z, f2_z, f3_z, f4_z⟩ := F
                            have K := rs_stick (a := 31) (by decide) (by decide) rfl w0_z f1_z f2_z hc_z
                            replace hm_z : rn _ _ _ _ [.int 0] _ _ _ := hm_z
                            replace hm_z := rn_ifF (am_cur_of (i := (116, 3, .ifCond .ne 5, (69, 0, 0), 0)) (by decide +kernel)) (by decide) hm_z
                            replace hm_z := rn_iconst (w := 0) (am_cur_of (i := (119, 1, .iconst 0, (0, 0, 0), 0)) (by decide +kernel)) (by decide) hm_z
                            replace hm_z := rn_iret (am_cur_of (i := (120, 1, .ireturn, (0, 0, 0), 0)) (by decide +kernel)) hm_z
                            obtain ⟨e921_z, e922_z⟩ := hm_z
                            subst e921_z e922_z
                            exact Or.inr ⟨rfl, _, wv, w0_z, K.1, K.2, f3_z, f4_z⟩
                        · obtain ⟨wv, w0_z, f1_z, f2_z, f3_z, f4_z⟩ := F
                          have K := rs_stick (a := 31) (by decide) (by decide) rfl w0_z f1_z f2_z hc_z
                          replace hm_z : rn _ _ _ _ [.int 0] _ _ _ := hm_z
                          replace hm_z := rn_ifF (am_cur_of (i := (116, 3, .ifCond .ne 5, (69, 0, 0), 0)) (by decide +kernel)) (by decide) hm_z
                          replace hm_z := rn_iconst (w := 0) (am_cur_of (i := (119, 1, .iconst 0, (0, 0, 0), 0)) (by decide +kernel)) (by decide) hm_z
                          replace hm_z := rn_iret (am_cur_of (i := (120, 1, .ireturn, (0, 0, 0), 0)) (by decide +kernel)) hm_z
                          obtain ⟨e923_z, e924_z⟩ := hm_z
                          subst e923_z e924_z
                          exact Or.inr ⟨rfl, _, wv, w0_z, K.1, K.2, f3_z, f4_z⟩
                      · obtain ⟨wv, w0_z, f1_z, f2_z, f3_z, f4_z⟩ := F
                        have K := rs_stick (a := 31) (by decide) (by decide) rfl w0_z f1_z f2_z hc_z
                        replace hm_z : rn _ _ _ _ [.int 0] _ _ _ := hm_z
                        replace hm_z := rn_ifF (am_cur_of (i := (116, 3, .ifCond .ne 5, (69, 0, 0), 0)) (by decide +kernel)) (by decide) hm_z
                        replace hm_z := rn_iconst (w := 0) (am_cur_of (i := (119, 1, .iconst 0, (0, 0, 0), 0)) (by decide +kernel)) (by decide) hm_z
                        replace hm_z := rn_iret (am_cur_of (i := (120, 1, .ireturn, (0, 0, 0), 0)) (by decide +kernel)) hm_z
                        obtain ⟨e925_z, e926_z⟩ := hm_z
                        subst e925_z e926_z
                        exact Or.inr ⟨rfl, _, wv, w0_z, K.1, K.2, f3_z, f4_z⟩
                    · obtain ⟨wv, w0_z, f1_z, f2_z, f3_z, f4_z⟩ := F
                      have K := rs_stick (a := 31) (by decide) (by decide) rfl w0_z f1_z f2_z hc_z
                      replace hm_z : rn _ _ _ _ [.int 0] _ _ _ := hm_z
                      replace hm_z := rn_ifF (am_cur_of (i := (116, 3, .ifCond .ne 5, (69, 0, 0), 0)) (by decide +kernel)) (by decide) hm_z
                      replace hm_z := rn_iconst (w := 0) (am_cur_of (i := (119, 1, .iconst 0, (0, 0, 0), 0)) (by decide +kernel)) (by decide) hm_z
                      replace hm_z := rn_iret (am_cur_of (i := (120, 1, .ireturn, (0, 0, 0), 0)) (by decide +kernel)) hm_z
                      obtain ⟨e927_z, e928_z⟩ := hm_z
                      subst e927_z e928_z
                      exact Or.inr ⟨rfl, _, wv, w0_z, K.1, K.2, f3_z, f4_z⟩
                  · obtain ⟨wv, w0_z, f1_z, f2_z, f3_z, f4_z⟩ := F
                    have K := rs_stick (a := 31) (by decide) (by decide) rfl w0_z f1_z f2_z hc_z
                    replace hm_z : rn _ _ _ _ [.int 0] _ _ _ := hm_z
                    replace hm_z := rn_ifF (am_cur_of (i := (116, 3, .ifCond .ne 5, (69, 0, 0), 0)) (by decide +kernel)) (by decide) hm_z
                    replace hm_z := rn_iconst (w := 0) (am_cur_of (i := (119, 1, .iconst 0, (0, 0, 0), 0)) (by decide +kernel)) (by decide) hm_z
                    replace hm_z := rn_iret (am_cur_of (i := (120, 1, .ireturn, (0, 0, 0), 0)) (by decide +kernel)) hm_z
                    obtain ⟨e929_z, e930_z⟩ := hm_z
                    subst e929_z e930_z
                    exact Or.inr ⟨rfl, _, wv, w0_z, K.1, K.2, f3_z, f4_z⟩
                · obtain ⟨wv, w0_z, f1_z, f2_z, f3_z, f4_z⟩ := F
                  have K := rs_stick (a := 31) (by decide) (by decide) rfl w0_z f1_z f2_z hc_z
                  replace hm_z : rn _ _ _ _ [.int 0] _ _ _ := hm_z
                  replace hm_z := rn_ifF (am_cur_of (i := (116, 3, .ifCond .ne 5, (69, 0, 0), 0)) (by decide +kernel)) (by decide) hm_z
                  replace hm_z := rn_iconst (w := 0) (am_cur_of (i := (119, 1, .iconst 0, (0, 0, 0), 0)) (by decide +kernel)) (by decide) hm_z
                  replace hm_z := rn_iret (am_cur_of (i := (120, 1, .ireturn, (0, 0, 0), 0)) (by decide +kernel)) hm_z
                  obtain ⟨e931_z, e932_z⟩ := hm_z
                  subst e931_z e932_z
                  exact Or.inr ⟨rfl, _, wv, w0_z, K.1, K.2, f3_z, f4_z⟩
              · obtain ⟨wv, w0_z, f1_z, f2_z, f3_z, f4_z⟩ := F
                have K := rs_stick (a := 31) (by decide) (by decide) rfl w0_z f1_z f2_z hc_z
                replace hm_z : rn _ _ _ _ [.int 0] _ _ _ := hm_z
                replace hm_z := rn_ifF (am_cur_of (i := (116, 3, .ifCond .ne 5, (69, 0, 0), 0)) (by decide +kernel)) (by decide) hm_z
                replace hm_z := rn_iconst (w := 0) (am_cur_of (i := (119, 1, .iconst 0, (0, 0, 0), 0)) (by decide +kernel)) (by decide) hm_z
                replace hm_z := rn_iret (am_cur_of (i := (120, 1, .ireturn, (0, 0, 0), 0)) (by decide +kernel)) hm_z
                obtain ⟨e933_z, e934_z⟩ := hm_z
                subst e933_z e934_z
                exact Or.inr ⟨rfl, _, wv, w0_z, K.1, K.2, f3_z, f4_z⟩
          · replace b812_z : ¬ i2_z = ((-1) : Int32) ∧ ¬ i2_z.toInt = ((-1) : Int32).toInt := b812_z
            replace hc_z := rn_aload_n (am_cur_of (i := (38, 1, .aload_n 0, (0, 0, 0), 0)) (by decide +kernel)) g0_z hc_z
            replace hc_z := rn_iconst (w := 3) (am_cur_of (i := (39, 1, .iconst 3, (0, 0, 0), 0)) (by decide +kernel)) (by decide) hc_z
            replace hc_z := rn_callV (M' := am_m29) (o := 44) (ar := [.int 3]) (rest := []) (L := lv_args 0 [.ref 44, .int 3]) (am_cur_of (i := (40, 3, .invokevirtual 108, (29, 769, 3), 0)) (by decide +kernel)) rfl rfl rfl rfl hc_z
            obtain ⟨r935_z, h936_z, q937_z, hc_z⟩ := hc_z
            obtain ⟨rfl, yq937_z⟩ := rp_fail R4 q937_z
            subst yq937_z
            replace hc_z : rn _ _ _ _ [] _ _ _ := hc_z
            have K := rs_stick (w := 3) (a := 31) (by decide) (by decide) rfl (by decide) rfl rfl hc_z
            replace hm_z := rn_aload_n (am_cur_of (i := (18, 1, .aload_n 0, (0, 0, 0), 0)) (by decide +kernel)) g0m hm_z
            replace hm_z := rn_aload_n (am_cur_of (i := (19, 1, .aload_n 0, (0, 0, 0), 0)) (by decide +kernel)) g0m hm_z
            replace hm_z := rn_getR (x := 169) (am_cur_of (i := (20, 3, .getfield 27, (12, 24, 1408), 0)) (by decide +kernel)) (by decide +kernel) hm_z
            replace hm_z := rn_iconst (w := 4) (am_cur_of (i := (23, 1, .iconst 4, (0, 0, 0), 0)) (by decide +kernel)) (by decide) hm_z
            replace hm_z := rn_aload_n (am_cur_of (i := (24, 1, .aload_n 0, (0, 0, 0), 0)) (by decide +kernel)) g0m hm_z
            replace hm_z := rn_getI (v := 1) (am_cur_of (i := (25, 3, .getfield 201, (12, 17, 1401), 0)) (by decide +kernel)) (by decide +kernel) (nb1_z.symm.trans ecb) hm_z
            replace hm_z := rn_callV (M' := am_m164) (o := 164) (ar := [.int 1, .int 4, .ref 169]) (rest := []) (L := lv_args 0 [.ref 164, .ref 169, .int 4, .int 1]) (am_cur_of (i := (28, 3, .invokevirtual 248, (164, 1688, 3), 0)) (by decide +kernel)) rfl rfl rfl rfl hm_z
            obtain ⟨r938_z, h939_z, q940_z, hm_z⟩ := hm_z
            rcases rp_newB (nb := 1) (by omega) (by omega) q940_z with ⟨y1_z, rfl, y3_z⟩ | ⟨y1_z, rfl, y3_z, y4_z, y5_z, y6_z⟩ | ⟨y1_z, rfl, y5_z, y4_z, y6_z, y7_z⟩
            · exact absurd k2_z.1 y1_z
            · subst y3_z
              replace hm_z : rn _ _ _ _ [.int 0] _ _ _ := hm_z
              replace hm_z := rn_ifF (am_cur_of (i := (31, 3, .ifCond .ne 5, (20, 0, 0), 0)) (by decide +kernel)) (by decide) hm_z
              replace hm_z := rn_iconst (w := 0) (am_cur_of (i := (34, 1, .iconst 0, (0, 0, 0), 0)) (by decide +kernel)) (by decide) hm_z
              replace hm_z := rn_iret (am_cur_of (i := (35, 1, .ireturn, (0, 0, 0), 0)) (by decide +kernel)) hm_z
              obtain ⟨e941_z, e942_z⟩ := hm_z
              subst e941_z e942_z
              exact Or.inr ⟨rfl, _, 3, by decide, K.1, K.2.trans R5, rfl, R6⟩
            · exact absurd (rp_fm_u hi2_z (k2_z.2 ▸ y5_z) names) b812_z.1
        · have K := rs_stick (a := 31) (by decide) (by decide) rfl (by decide) f1_z f2_z hc_z
          have k2_z := tk_n3 R10 k3_z
          replace hm_z := rn_aload_n (am_cur_of (i := (18, 1, .aload_n 0, (0, 0, 0), 0)) (by decide +kernel)) g0m hm_z
          replace hm_z := rn_aload_n (am_cur_of (i := (19, 1, .aload_n 0, (0, 0, 0), 0)) (by decide +kernel)) g0m hm_z
          replace hm_z := rn_getR (x := 169) (am_cur_of (i := (20, 3, .getfield 27, (12, 24, 1408), 0)) (by decide +kernel)) (by decide +kernel) hm_z
          replace hm_z := rn_iconst (w := 4) (am_cur_of (i := (23, 1, .iconst 4, (0, 0, 0), 0)) (by decide +kernel)) (by decide) hm_z
          replace hm_z := rn_aload_n (am_cur_of (i := (24, 1, .aload_n 0, (0, 0, 0), 0)) (by decide +kernel)) g0m hm_z
          replace hm_z := rn_getI (v := 1) (am_cur_of (i := (25, 3, .getfield 201, (12, 17, 1401), 0)) (by decide +kernel)) (by decide +kernel) (nb1_z.symm.trans ecb) hm_z
          replace hm_z := rn_callV (M' := am_m164) (o := 164) (ar := [.int 1, .int 4, .ref 169]) (rest := []) (L := lv_args 0 [.ref 164, .ref 169, .int 4, .int 1]) (am_cur_of (i := (28, 3, .invokevirtual 248, (164, 1688, 3), 0)) (by decide +kernel)) rfl rfl rfl rfl hm_z
          obtain ⟨r943_z, h944_z, q945_z, hm_z⟩ := hm_z
          rcases rp_newB (nb := 1) (by omega) (by omega) q945_z with ⟨y1_z, rfl, y3_z⟩ | ⟨y1_z, rfl, y3_z, y4_z, y5_z, y6_z⟩ | ⟨y1_z, rfl, y5_z, y4_z, y6_z, y7_z⟩
          · subst y3_z
            replace hm_z : rn _ _ _ _ [.int 0] _ _ _ := hm_z
            replace hm_z := rn_ifF (am_cur_of (i := (31, 3, .ifCond .ne 5, (20, 0, 0), 0)) (by decide +kernel)) (by decide) hm_z
            replace hm_z := rn_iconst (w := 0) (am_cur_of (i := (34, 1, .iconst 0, (0, 0, 0), 0)) (by decide +kernel)) (by decide) hm_z
            replace hm_z := rn_iret (am_cur_of (i := (35, 1, .ireturn, (0, 0, 0), 0)) (by decide +kernel)) hm_z
            obtain ⟨e946_z, e947_z⟩ := hm_z
            subst e946_z e947_z
            exact Or.inr ⟨rfl, _, 1, by decide, K.1, K.2.trans R5, rfl, R6⟩
          · exact absurd y1_z k2_z
          · exact absurd y1_z k2_z
      · obtain rfl : cb = 2 := rt_i32 (q4_z.trans (by decide))
        replace hc_z := rn_ifF (am_cur_of (i := (12, 3, .ifCond .eq 10, (10, 0, 0), 0)) (by decide +kernel)) (by decide) hc_z
        replace hc_z := rn_aload_n (am_cur_of (i := (15, 1, .aload_n 0, (0, 0, 0), 0)) (by decide +kernel)) g0_z hc_z
        replace hc_z := rn_callV (M' := am_m33) (o := 44) (ar := []) (rest := []) (L := lv_args 0 [.ref 44]) (am_cur_of (i := (16, 3, .invokevirtual 158, (33, 785, 3), 0)) (by decide +kernel)) rfl rfl rfl rfl hc_z
        obtain ⟨r948_z, h949_z, q950_z, hc_z⟩ := hc_z
        rcases rp_own R4 q950_z with ⟨k3_z, rfl, eh⟩ | ⟨k3_z, f1_z, f2_z⟩
        · replace eh := eh.symm
          subst eh
          have k2_z := tk_3 R10 k3_z
          replace hc_z : rn _ _ _ _ [.int 1] _ _ _ := hc_z
          replace hc_z := rn_ifT (am_cur_of (i := (19, 3, .ifCond .ne 4, (11, 0, 0), 0)) (by decide +kernel)) (by decide) hc_z
          replace hc_z := rn_aload_n (am_cur_of (i := (23, 1, .aload_n 0, (0, 0, 0), 0)) (by decide +kernel)) g0_z hc_z
          replace hc_z := rn_getM (x := 2) (am_cur_of (i := (24, 3, .getfield 25, (4, 6, 415), 0)) (by decide +kernel)) R3 hc_z
          replace hc_z := rn_aload_n (am_cur_of (i := (27, 1, .aload_n 0, (0, 0, 0), 0)) (by decide +kernel)) g0_z hc_z
          replace hc_z := rn_getI (v := rg_v h652_z 44 11) (am_cur_of (i := (28, 3, .getfield 91, (4, 11, 420), 0)) (by decide +kernel)) (by decide +kernel) rfl hc_z
          replace hc_z := rn_callV (M' := am_m34) (o := 2) (ar := [.int (rg_v h652_z 44 11)]) (rest := []) (L := lv_args 0 [.ref 2, .int (rg_v h652_z 44 11)]) (am_cur_of (i := (31, 3, .invokevirtual 162, (34, 789, 3), 0)) (by decide +kernel)) rfl rfl rfl rfl hc_z
          obtain ⟨r951_z, h952_z, q953_z, hc_z⟩ := hc_z
          obtain ⟨eh, i2_z, rfl, hi2_z⟩ := rp_bn2 ecb (by omega) q953_z
          replace eh := eh.symm
          subst eh
          have hib := rp_fm_b hi2_z (by omega)
          have names : ∀ b : Nat, (b : Int) < (2 : Int32).toInt → rg_v h652_z (19 + b) 0 = rg_v h662_z 169 (4 + b) := by
            intro b hb_z
            match b with
            | 0 => exact AC0 (by rw [ecb]; exact hb_z) 0 (by decide)
            | 1 => exact AC1 (by rw [ecb]; exact hb_z) 0 (by decide)
            | 2 => exact AC2 (by rw [ecb]; exact hb_z) 0 (by decide)
            | 3 => exact AC3 (by rw [ecb]; exact hb_z) 0 (by decide)
            | b + 4 => omega
          replace hc_z : rn _ _ _ _ [.int i2_z] _ _ _ := hc_z
          replace hc_z := rn_iconst (w := (-1)) (am_cur_of (i := (34, 1, .iconst (-1), (0, 0, 0), 0)) (by decide +kernel)) (by decide) hc_z
          replace hc_z := rn_cmp (am_cur_of (i := (35, 3, .if_icmp .eq 9, (22, 0, 0), 0)) (by decide +kernel)) hc_z
          rcases hc_z with ⟨b954_z, hc_z⟩ | ⟨b954_z, hc_z⟩
          · replace b954_z : i2_z = ((-1) : Int32) ∧ i2_z.toInt = ((-1) : Int32).toInt := b954_z
            replace hc_z := rn_aload_n (am_cur_of (i := (44, 1, .aload_n 0, (0, 0, 0), 0)) (by decide +kernel)) g0_z hc_z
            replace hc_z := rn_getM (x := 2) (am_cur_of (i := (45, 3, .getfield 25, (4, 6, 415), 0)) (by decide +kernel)) R3 hc_z
            replace hc_z := rn_getR (x := 3) (am_cur_of (i := (48, 3, .getfield 166, (1, 3, 265), 0)) (by decide +kernel)) (by decide +kernel) hc_z
            replace hc_z := rn_aload_n (am_cur_of (i := (51, 1, .aload_n 0, (0, 0, 0), 0)) (by decide +kernel)) g0_z hc_z
            replace hc_z := rn_getM (x := 2) (am_cur_of (i := (52, 3, .getfield 25, (4, 6, 415), 0)) (by decide +kernel)) R3 hc_z
            replace hc_z := rn_getI (v := 2) (am_cur_of (i := (55, 3, .getfield 151, (1, 2, 259), 0)) (by decide +kernel)) (by decide +kernel) ecb hc_z
            replace hc_z := rn_aaload (s := "AirBed$Blower") (N := 4) (q := 2) (am_cur_of (i := (58, 1, .aaload, (0, 0, 0), 0)) (by decide +kernel)) (by decide +kernel) rfl hc_z
            obtain ⟨p955_z, hc_z⟩ := hc_z
            rw [show rg_r h652_z 3 2 = 21 from rp_bc2 (rn_G hc_z) (q := 2) (by decide)] at hc_z
            replace hc_z := rn_astore_n (am_cur_of (i := (59, 1, .astore_n 1, (0, 0, 0), 0)) (by decide +kernel)) hc_z
            obtain ⟨_, s956_z, s957_z, g1_z, hc_z⟩ := hc_z
            replace g0_z := s956_z 0 _ (by decide) rfl g0_z
            clear s956_z s957_z
            replace hc_z := rn_aload_n (am_cur_of (i := (60, 1, .aload_n 1, (0, 0, 0), 0)) (by decide +kernel)) g1_z hc_z
            replace hc_z := rn_aload_n (am_cur_of (i := (61, 1, .aload_n 0, (0, 0, 0), 0)) (by decide +kernel)) g0_z hc_z
            replace hc_z := rn_getI (v := rg_v h652_z 44 11) (am_cur_of (i := (62, 3, .getfield 91, (4, 11, 420), 0)) (by decide +kernel)) (by decide +kernel) rfl hc_z
            replace hc_z := rn_put (am_cur_of (i := (65, 3, .putfield 170, (3, 0, 204), 0)) (by decide +kernel)) (by decide +kernel) hc_z
            replace hc_z := rn_aload_n (am_cur_of (i := (68, 1, .aload_n 0, (0, 0, 0), 0)) (by decide +kernel)) g0_z hc_z
            replace hc_z := rn_callV (M' := am_m19) (o := 44) (ar := []) (rest := []) (L := lv_args 0 [.ref 44]) (am_cur_of (i := (69, 3, .invokevirtual 57, (19, 727, 3), 0)) (by decide +kernel)) rfl rfl rfl rfl hc_z
            obtain ⟨r958_z, h959_z, q960_z, hc_z⟩ := hc_z
            have vo := rn_void rfl q960_z
            subst vo
            replace hm_z := rn_aload_n (am_cur_of (i := (18, 1, .aload_n 0, (0, 0, 0), 0)) (by decide +kernel)) g0m hm_z
            replace hm_z := rn_aload_n (am_cur_of (i := (19, 1, .aload_n 0, (0, 0, 0), 0)) (by decide +kernel)) g0m hm_z
            replace hm_z := rn_getR (x := 169) (am_cur_of (i := (20, 3, .getfield 27, (12, 24, 1408), 0)) (by decide +kernel)) (by decide +kernel) hm_z
            replace hm_z := rn_iconst (w := 4) (am_cur_of (i := (23, 1, .iconst 4, (0, 0, 0), 0)) (by decide +kernel)) (by decide) hm_z
            replace hm_z := rn_aload_n (am_cur_of (i := (24, 1, .aload_n 0, (0, 0, 0), 0)) (by decide +kernel)) g0m hm_z
            replace hm_z := rn_getI (v := 2) (am_cur_of (i := (25, 3, .getfield 201, (12, 17, 1401), 0)) (by decide +kernel)) (by decide +kernel) (nb1_z.symm.trans ecb) hm_z
            replace hm_z := rn_callV (M' := am_m164) (o := 164) (ar := [.int 2, .int 4, .ref 169]) (rest := []) (L := lv_args 0 [.ref 164, .ref 169, .int 4, .int 2]) (am_cur_of (i := (28, 3, .invokevirtual 248, (164, 1688, 3), 0)) (by decide +kernel)) rfl rfl rfl rfl hm_z
            obtain ⟨r961_z, h962_z, q963_z, hm_z⟩ := hm_z
            rcases rp_newB (nb := 2) (by omega) (by omega) q963_z with ⟨y1_z, rfl, y3_z⟩ | ⟨y1_z, rfl, y3_z, y4_z, y5_z, y6_z⟩ | ⟨y1_z, rfl, y5_z, y4_z, y6_z, y7_z⟩
            · exact absurd k2_z.1 y1_z
            · have ei := rp_fm_u hi2_z (k2_z.2 ▸ y5_z) names
              rw [← ei] at y6_z
              omega
            · have vo := rn_void rfl y7_z
              subst vo
              have R' : rq T S x1_z p1_z 2 (am_up h652_z 21 0 (.int (rg_v h652_z 44 11))) (am_up h662_z 169 6 (.int (rg_v h662_z 164 9))) := ⟨⟨c1_z, c2_z, c3_z, c4_z, c5_z, c6_z, fun k hk_z => c7_z k hk_z, fun k hk_z => c8_z k hk_z⟩, ⟨m2_z, m3_z, m4_z, m5_z, m6_z, fun k hk_z => m7_z k hk_z, fun k hk_z => m8_z k hk_z⟩, R3, R4, R5, R6, R7, R8, R9, R10⟩
              have A' : rp 2 (am_up h652_z 21 0 (.int (rg_v h652_z 44 11))) (am_up h662_z 169 6 (.int (rg_v h662_z 164 9))) := ⟨⟨a1_z, a2_z, a3_z, a4_z, a5_z, a6_z⟩, ⟨nb1_z, nb2_z, nb3_z⟩, ⟨nt1_z, nt2_z, nt3_z⟩, ⟨nl1_z, nl2_z, nl3_z⟩, ⟨nr1_z, nr2_z, nr3_z⟩, ⟨nk1_z, nk2_z, nk3_z⟩, ⟨fun hb_z k hk_z => AC0 hb_z k hk_z, fun hb_z k hk_z => AC1 hb_z k hk_z, fun hb_z => absurd hb_z (by rw [show rg_v (am_up h652_z 21 0 (.int (rg_v h652_z 44 11))) 2 2 = 2 from ecb]; decide), fun hb_z => absurd hb_z (by rw [show rg_v (am_up h652_z 21 0 (.int (rg_v h652_z 44 11))) 2 2 = 2 from ecb]; decide)⟩, fun t ht => AD t ht, fun t ht => AE t ht, fun t ht => AG t ht⟩
              have B' : rp_t (am_up h652_z 21 0 (.int (rg_v h652_z 44 11))) (am_up h662_z 169 6 (.int (rg_v h662_z 164 9))) := by
                obtain ⟨b0_z, b1_z, b2_z, b3_z, b4_z, b5_z, b6_z, t, o0_z, o1_z, o2_z, o3_z, o4_z, o5_z, o6_z⟩ := B
                exact ⟨b0_z, b1_z, b2_z, b3_z, b4_z, b5_z, b6_z, t, o0_z, o1_z, o2_z, o3_z, o4_z, o5_z, o6_z⟩
              obtain ⟨-, -, x18_z, p18_z, R, le18_z, t5_z, t6_z⟩ := pr_tok (rq_0 R') q960_z y7_z
              replace A := rp_x (by decide) A' (rx_C_f t5_z) (rx_M_f t6_z)
              replace B := rp_tk B' (rg_v_fr t5_z (by decide)) (fun k => rg_v_fr t6_z (rg_v_in (by decide) k)) (rx_M_f t6_z)
              clear A' B' R'
              replace le18_z : x.toInt ≤ p18_z.toInt := Int.le_trans (Int.le_trans le1_z R8) le18_z
              replace ecb : rg_v h959_z 2 2 = 2 := (rx_v (rx_C_f t5_z) (o := 2) (k := 2) (by decide)).trans ecb
              replace ect : rg_v h959_z 2 4 = ct := (rx_v (rx_C_f t5_z) (o := 2) (k := 4) (by decide)).trans ect
              replace ecl : rg_v h959_z 2 9 = cl := (rx_v (rx_C_f t5_z) (o := 2) (k := 9) (by decide)).trans ecl
              replace ecr : rg_v h959_z 2 12 = cr := (rx_v (rx_C_f t5_z) (o := 2) (k := 12) (by decide)).trans ecr
              have E0 : rg_v h959_z 21 0 = rg_v h962_z 169 6 := (rx_v (rx_C_f t5_z) (o := 21) (k := 0) (by decide)).trans (Eq.trans (k2_z.2) (rx_w (rx_M_f t6_z) (o := 169) (k := 6) (by omega) (by decide)).symm)
              replace hm_z : rn _ _ _ _ [.int 1] _ _ _ := hm_z
              replace hc_z : rn _ _ _ _ [] _ _ _ := hc_z
              clear a1_z a2_z a3_z a4_z a5_z a6_z nb1_z nb2_z nb3_z nt1_z nt2_z nt3_z nl1_z nl2_z nl3_z nr1_z nr2_z nr3_z nk1_z nk2_z nk3_z AC0 AC1 AC2 AC3 AD AE AG c1_z c2_z c3_z c4_z c5_z c6_z c7_z c8_z m2_z m3_z m4_z m5_z m6_z m7_z m8_z R3 R4 R5 R6 R7 R8 R9 R10
              obtain ⟨⟨⟨a1_z, a2_z, a3_z, a4_z, a5_z, a6_z⟩, ⟨nb1_z, nb2_z, nb3_z⟩, ⟨nt1_z, nt2_z, nt3_z⟩, ⟨nl1_z, nl2_z, nl3_z⟩, ⟨nr1_z, nr2_z, nr3_z⟩, ⟨nk1_z, nk2_z, nk3_z⟩, ⟨AC0, AC1, AC2, AC3⟩, AD, AE, AG⟩, ⟨⟨c1_z, c2_z, c3_z, c4_z, c5_z, c6_z, c7_z, c8_z⟩, ⟨m2_z, m3_z, m4_z, m5_z, m6_z, m7_z, m8_z⟩, R3, R4, R5, R6, R7, R8, R9, R10⟩⟩ := (⟨A, R⟩ : rp 2 h959_z h962_z ∧ rq T S x18_z p18_z 2 h959_z h962_z)
              replace hc_z := rn_aload_n (am_cur_of (i := (72, 1, .aload_n 1, (0, 0, 0), 0)) (by decide +kernel)) g1_z hc_z
              replace hc_z := rn_aload_n (am_cur_of (i := (73, 1, .aload_n 0, (0, 0, 0), 0)) (by decide +kernel)) g0_z hc_z
              replace hc_z := rn_iconst (w := 1) (am_cur_of (i := (74, 1, .iconst 1, (0, 0, 0), 0)) (by decide +kernel)) (by decide) hc_z
              replace hc_z := rn_bipush (w := 99) (am_cur_of (i := (75, 2, .bipush 99, (0, 0, 0), 0)) (by decide +kernel)) (by decide) hc_z
              replace hc_z := rn_callV (M' := am_m30) (o := 44) (ar := [.int 99, .int 1]) (rest := [.ref 21]) (L := lv_args 0 [.ref 44, .int 1, .int 99]) (am_cur_of (i := (77, 3, .invokevirtual 142, (30, 773, 3), 0)) (by decide +kernel)) rfl rfl rfl rfl hc_z
              obtain ⟨r964_z, h965_z, q966_z, hc_z⟩ := hc_z
              replace hm_z := rn_ifT (am_cur_of (i := (31, 3, .ifCond .ne 5, (20, 0, 0), 0)) (by decide +kernel)) (by decide) hm_z
              replace hm_z := rn_bipush (w := 28) (am_cur_of (i := (36, 2, .bipush 28, (0, 0, 0), 0)) (by decide +kernel)) (by decide) hm_z
              replace hm_z := rn_bipush (w := 7) (am_cur_of (i := (38, 2, .bipush 7, (0, 0, 0), 0)) (by decide +kernel)) (by decide) hm_z
              replace hm_z := rn_aload_n (am_cur_of (i := (40, 1, .aload_n 0, (0, 0, 0), 0)) (by decide +kernel)) g0m hm_z
              replace hm_z := rn_getI (v := 2) (am_cur_of (i := (41, 3, .getfield 201, (12, 17, 1401), 0)) (by decide +kernel)) (by decide +kernel) (nb1_z.symm.trans ecb) hm_z
              replace hm_z := rn_imul (w := 14) (am_cur_of (i := (44, 1, .imul, (0, 0, 0), 0)) (by decide +kernel)) (by decide) hm_z
              replace hm_z := rn_iadd (w := 42) (am_cur_of (i := (45, 1, .iadd, (0, 0, 0), 0)) (by decide +kernel)) (by decide) hm_z
              replace hm_z := rn_istore_n (am_cur_of (i := (46, 1, .istore_n 1, (0, 0, 0), 0)) (by decide +kernel)) hm_z
              obtain ⟨_, s967_z, s968_z, g1m, hm_z⟩ := hm_z
              replace g0m := s967_z 0 _ (by decide) rfl g0m
              clear s967_z s968_z
              replace hm_z := rn_iconst (w := 0) (am_cur_of (i := (47, 1, .iconst 0, (0, 0, 0), 0)) (by decide +kernel)) (by decide) hm_z
              replace hm_z := rn_istore_n (am_cur_of (i := (48, 1, .istore_n 2, (0, 0, 0), 0)) (by decide +kernel)) hm_z
              obtain ⟨_, s969_z, s970_z, g2m, hm_z⟩ := hm_z
              replace g0m := s969_z 0 _ (by decide) rfl g0m
              replace g1m := s969_z 1 _ (by decide) rfl g1m
              clear s969_z s970_z
              replace hm_z := rn_iload_n (am_cur_of (i := (49, 1, .iload_n 2, (0, 0, 0), 0)) (by decide +kernel)) g2m hm_z
              replace hm_z := rn_bipush (w := 7) (am_cur_of (i := (50, 2, .bipush 7, (0, 0, 0), 0)) (by decide +kernel)) (by decide) hm_z
              replace hm_z := rn_cmpF (am_cur_of (i := (52, 3, .if_icmp .ge 87, (79, 0, 0), 0)) (by decide +kernel)) (by decide) hm_z
              replace hm_z := rn_iload_n (am_cur_of (i := (55, 1, .iload_n 2, (0, 0, 0), 0)) (by decide +kernel)) g2m hm_z
              replace hm_z := rn_ifT (am_cur_of (i := (56, 3, .ifCond .eq 13, (40, 0, 0), 0)) (by decide +kernel)) (by decide) hm_z
              replace hm_z := rn_iconst (w := 1) (am_cur_of (i := (69, 1, .iconst 1, (0, 0, 0), 0)) (by decide +kernel)) (by decide) hm_z
              replace hm_z := rn_goto (am_cur_of (i := (70, 3, .goto 4, (43, 0, 0), 0)) (by decide +kernel)) hm_z
              replace hm_z := rn_istore_n (am_cur_of (i := (74, 1, .istore_n 3, (0, 0, 0), 0)) (by decide +kernel)) hm_z
              obtain ⟨_, s971_z, s972_z, g3m, hm_z⟩ := hm_z
              replace g0m := s971_z 0 _ (by decide) rfl g0m
              replace g1m := s971_z 1 _ (by decide) rfl g1m
              replace g2m := s971_z 2 _ (by decide) rfl g2m
              clear s971_z s972_z
              replace hm_z := rn_iload_n (am_cur_of (i := (75, 1, .iload_n 2, (0, 0, 0), 0)) (by decide +kernel)) g2m hm_z
              replace hm_z := rn_iconst (w := 1) (am_cur_of (i := (76, 1, .iconst 1, (0, 0, 0), 0)) (by decide +kernel)) (by decide) hm_z
              replace hm_z := rn_cmpF (am_cur_of (i := (77, 3, .if_icmp .eq 8, (50, 0, 0), 0)) (by decide +kernel)) (by decide) hm_z
              replace hm_z := rn_iload_n (am_cur_of (i := (80, 1, .iload_n 2, (0, 0, 0), 0)) (by decide +kernel)) g2m hm_z
              replace hm_z := rn_iconst (w := 2) (am_cur_of (i := (81, 1, .iconst 2, (0, 0, 0), 0)) (by decide +kernel)) (by decide) hm_z
              replace hm_z := rn_cmpT (am_cur_of (i := (82, 3, .if_icmp .ne 8, (52, 0, 0), 0)) (by decide +kernel)) (by decide) hm_z
              replace hm_z := rn_iload_n (am_cur_of (i := (90, 1, .iload_n 2, (0, 0, 0), 0)) (by decide +kernel)) g2m hm_z
              replace hm_z := rn_iconst (w := 3) (am_cur_of (i := (91, 1, .iconst 3, (0, 0, 0), 0)) (by decide +kernel)) (by decide) hm_z
              replace hm_z := rn_cmpF (am_cur_of (i := (92, 3, .if_icmp .eq 8, (58, 0, 0), 0)) (by decide +kernel)) (by decide) hm_z
              replace hm_z := rn_iload_n (am_cur_of (i := (95, 1, .iload_n 2, (0, 0, 0), 0)) (by decide +kernel)) g2m hm_z
              replace hm_z := rn_iconst (w := 5) (am_cur_of (i := (96, 1, .iconst 5, (0, 0, 0), 0)) (by decide +kernel)) (by decide) hm_z
              replace hm_z := rn_cmpT (am_cur_of (i := (97, 3, .if_icmp .ne 8, (60, 0, 0), 0)) (by decide +kernel)) (by decide) hm_z
              replace hm_z := rn_bipush (w := 99) (am_cur_of (i := (105, 2, .bipush 99, (0, 0, 0), 0)) (by decide +kernel)) (by decide) hm_z
              replace hm_z := rn_istore (am_cur_of (i := (107, 2, .istore 4, (0, 0, 0), 0)) (by decide +kernel)) hm_z
              obtain ⟨_, s973_z, s974_z, g4m, hm_z⟩ := hm_z
              replace g0m := s973_z 0 _ (by decide) rfl g0m
              replace g1m := s973_z 1 _ (by decide) rfl g1m
              replace g2m := s973_z 2 _ (by decide) rfl g2m
              replace g3m := s973_z 3 _ (by decide) rfl g3m
              clear s973_z s974_z
              replace hm_z := rn_aload_n (am_cur_of (i := (109, 1, .aload_n 0, (0, 0, 0), 0)) (by decide +kernel)) g0m hm_z
              replace hm_z := rn_iload_n (am_cur_of (i := (110, 1, .iload_n 3, (0, 0, 0), 0)) (by decide +kernel)) g3m hm_z
              replace hm_z := rn_iload (am_cur_of (i := (111, 2, .iload 4, (0, 0, 0), 0)) (by decide +kernel)) g4m hm_z
              replace hm_z := rn_callV (M' := am_m161) (o := 164) (ar := [.int 99, .int 1]) (rest := []) (L := lv_args 0 [.ref 164, .int 1, .int 99]) (am_cur_of (i := (113, 3, .invokevirtual 197, (161, 1677, 3), 0)) (by decide +kernel)) rfl rfl rfl rfl hm_z
              obtain ⟨r975_z, h976_z, q977_z, hm_z⟩ := hm_z
              have R' : rq T S x18_z p18_z 2 h959_z h962_z := ⟨⟨c1_z, c2_z, c3_z, c4_z, c5_z, c6_z, fun k hk_z => c7_z k hk_z, fun k hk_z => c8_z k hk_z⟩, ⟨m2_z, m3_z, m4_z, m5_z, m6_z, fun k hk_z => m7_z k hk_z, fun k hk_z => m8_z k hk_z⟩, R3, R4, R5, R6, R7, R8, R9, R10⟩
              have A' : rp 2 h959_z h962_z := ⟨⟨a1_z, a2_z, a3_z, a4_z, a5_z, a6_z⟩, ⟨nb1_z, nb2_z, nb3_z⟩, ⟨nt1_z, nt2_z, nt3_z⟩, ⟨nl1_z, nl2_z, nl3_z⟩, ⟨nr1_z, nr2_z, nr3_z⟩, ⟨nk1_z, nk2_z, nk3_z⟩, ⟨(fun hb_z k hk_z => by match k, hk_z with | 0, _ => exact AC0 hb_z 0 (by decide) | 1, _ => exact AC0 hb_z 1 (by decide) | 2, _ => exact AC0 hb_z 2 (by decide) | 3, _ => exact AC0 hb_z 3 (by decide) | 4, _ => exact AC0 hb_z 4 (by decide) | 5, _ => exact AC0 hb_z 5 (by decide) | 6, _ => exact AC0 hb_z 6 (by decide) | 7, _ => exact AC0 hb_z 7 (by decide)), (fun hb_z k hk_z => by match k, hk_z with | 0, _ => exact AC1 hb_z 0 (by decide) | 1, _ => exact AC1 hb_z 1 (by decide) | 2, _ => exact AC1 hb_z 2 (by decide) | 3, _ => exact AC1 hb_z 3 (by decide) | 4, _ => exact AC1 hb_z 4 (by decide) | 5, _ => exact AC1 hb_z 5 (by decide) | 6, _ => exact AC1 hb_z 6 (by decide) | 7, _ => exact AC1 hb_z 7 (by decide)), fun hb_z => absurd hb_z (by rw [show rg_v h959_z 2 2 = 2 from ecb]; decide), fun hb_z => absurd hb_z (by rw [show rg_v h959_z 2 2 = 2 from ecb]; decide)⟩, fun t ht => AD t ht, fun t ht => AE t ht, fun t ht => AG t ht⟩
              have B' : rp_t h959_z h962_z := by
                obtain ⟨b0_z, b1_z, b2_z, b3_z, b4_z, b5_z, b6_z, t, o0_z, o1_z, o2_z, o3_z, o4_z, o5_z, o6_z⟩ := B
                exact ⟨b0_z, b1_z, b2_z, b3_z, b4_z, b5_z, b6_z, t, o0_z, o1_z, o2_z, o3_z, o4_z, o5_z, o6_z⟩
              rcases pr_num R' (by decide) (by decide) q966_z q977_z with ⟨v19_z, x19_z, p19_z, rfl, rfl, lo19_z, hi19_z, R, le19_z, got, X, Y, t7_z, t167_z⟩ | ⟨rfl, F⟩
              · replace A := rp_x (by decide) A' X Y
                replace B := rp_tk B' t7_z t167_z Y
                clear A' B' R'
                replace le19_z : x.toInt ≤ p19_z.toInt := Int.le_trans (Int.le_trans le18_z R8) le19_z
                replace ecb : rg_v h965_z 2 2 = 2 := (rx_v X (o := 2) (k := 2) (by decide)).trans ecb
                replace ect : rg_v h965_z 2 4 = ct := (rx_v X (o := 2) (k := 4) (by decide)).trans ect
                replace ecl : rg_v h965_z 2 9 = cl := (rx_v X (o := 2) (k := 9) (by decide)).trans ecl
                replace ecr : rg_v h965_z 2 12 = cr := (rx_v X (o := 2) (k := 12) (by decide)).trans ecr
                replace E0 : rg_v h965_z 21 0 = rg_v h976_z 169 6 := (rx_v X (o := 21) (k := 0) (by decide)).trans (E0.trans (rx_w Y (o := 169) (k := 6) (by omega) (by decide)).symm)
                replace hm_z : rn _ _ _ _ [.int 1] _ _ _ := hm_z
                replace hc_z : rn _ _ _ _ [.int v19_z, .ref 21] _ _ _ := hc_z
                clear a1_z a2_z a3_z a4_z a5_z a6_z nb1_z nb2_z nb3_z nt1_z nt2_z nt3_z nl1_z nl2_z nl3_z nr1_z nr2_z nr3_z nk1_z nk2_z nk3_z AC0 AC1 AC2 AC3 AD AE AG c1_z c2_z c3_z c4_z c5_z c6_z c7_z c8_z m2_z m3_z m4_z m5_z m6_z m7_z m8_z R3 R4 R5 R6 R7 R8 R9 R10
                obtain ⟨⟨⟨a1_z, a2_z, a3_z, a4_z, a5_z, a6_z⟩, ⟨nb1_z, nb2_z, nb3_z⟩, ⟨nt1_z, nt2_z, nt3_z⟩, ⟨nl1_z, nl2_z, nl3_z⟩, ⟨nr1_z, nr2_z, nr3_z⟩, ⟨nk1_z, nk2_z, nk3_z⟩, ⟨AC0, AC1, AC2, AC3⟩, AD, AE, AG⟩, ⟨⟨c1_z, c2_z, c3_z, c4_z, c5_z, c6_z, c7_z, c8_z⟩, ⟨m2_z, m3_z, m4_z, m5_z, m6_z, m7_z, m8_z⟩, R3, R4, R5, R6, R7, R8, R9, R10⟩⟩ := (⟨A, R⟩ : rp 2 h965_z h976_z ∧ rq T S x19_z p19_z 2 h965_z h976_z)
                replace hc_z := rn_put (am_cur_of (i := (80, 3, .putfield 175, (3, 1, 206), 0)) (by decide +kernel)) (by decide +kernel) hc_z
                replace hc_z := rn_aload_n (am_cur_of (i := (83, 1, .aload_n 1, (0, 0, 0), 0)) (by decide +kernel)) g1_z hc_z
                replace hc_z := rn_aload_n (am_cur_of (i := (84, 1, .aload_n 0, (0, 0, 0), 0)) (by decide +kernel)) g0_z hc_z
                replace hc_z := rn_iconst (w := 0) (am_cur_of (i := (85, 1, .iconst 0, (0, 0, 0), 0)) (by decide +kernel)) (by decide) hc_z
                replace hc_z := rn_bipush (w := 20) (am_cur_of (i := (86, 2, .bipush 20, (0, 0, 0), 0)) (by decide +kernel)) (by decide) hc_z
                replace hc_z := rn_callV (M' := am_m30) (o := 44) (ar := [.int 20, .int 0]) (rest := [.ref 21]) (L := lv_args 0 [.ref 44, .int 0, .int 20]) (am_cur_of (i := (88, 3, .invokevirtual 142, (30, 773, 3), 0)) (by decide +kernel)) rfl rfl rfl rfl hc_z
                obtain ⟨r978_z, h979_z, q980_z, hc_z⟩ := hc_z
                replace hm_z := rn_ifT (am_cur_of (i := (116, 3, .ifCond .ne 5, (69, 0, 0), 0)) (by decide +kernel)) (by decide) hm_z
                replace hm_z := rn_aload_n (am_cur_of (i := (121, 1, .aload_n 0, (0, 0, 0), 0)) (by decide +kernel)) g0m hm_z
                replace hm_z := rn_getR (x := 170) (am_cur_of (i := (122, 3, .getfield 30, (12, 25, 1409), 0)) (by decide +kernel)) (by decide +kernel) hm_z
                replace hm_z := rn_iload_n (am_cur_of (i := (125, 1, .iload_n 1, (0, 0, 0), 0)) (by decide +kernel)) g1m hm_z
                replace hm_z := rn_iload_n (am_cur_of (i := (126, 1, .iload_n 2, (0, 0, 0), 0)) (by decide +kernel)) g2m hm_z
                replace hm_z := rn_iadd (w := 42) (am_cur_of (i := (127, 1, .iadd, (0, 0, 0), 0)) (by decide +kernel)) (by decide) hm_z
                replace hm_z := rn_aload_n (am_cur_of (i := (128, 1, .aload_n 0, (0, 0, 0), 0)) (by decide +kernel)) g0m hm_z
                replace hm_z := rn_getI (v := v19_z) (am_cur_of (i := (129, 3, .getfield 188, (12, 11, 1395), 0)) (by decide +kernel)) (by decide +kernel) got hm_z
                replace hm_z := rn_iastore (N := 56) (q := 42) (am_cur_of (i := (132, 1, .iastore, (0, 0, 0), 0)) (by decide +kernel)) (by decide +kernel) rfl hm_z
                obtain ⟨p981_z, hm_z⟩ := hm_z
                replace hm_z := rn_iinc (w := 1) (am_cur_of (i := (133, 3, .iinc 2 1, (0, 0, 0), 0)) (by decide +kernel)) g2m (by decide) hm_z
                obtain ⟨_, s982_z, s983_z, g2m, hm_z⟩ := hm_z
                replace g0m := s982_z 0 _ (by decide) rfl g0m
                replace g1m := s982_z 1 _ (by decide) rfl g1m
                replace g3m := s982_z 3 _ (by decide) rfl g3m
                replace g4m := s982_z 4 _ (by decide) rfl g4m
                clear s982_z s983_z
                replace hm_z := rn_goto (am_cur_of (i := (136, 3, .goto (-87), (29, 0, 0), 0)) (by decide +kernel)) hm_z
                replace hm_z := rn_iload_n (am_cur_of (i := (49, 1, .iload_n 2, (0, 0, 0), 0)) (by decide +kernel)) g2m hm_z
                replace hm_z := rn_bipush (w := 7) (am_cur_of (i := (50, 2, .bipush 7, (0, 0, 0), 0)) (by decide +kernel)) (by decide) hm_z
                replace hm_z := rn_cmpF (am_cur_of (i := (52, 3, .if_icmp .ge 87, (79, 0, 0), 0)) (by decide +kernel)) (by decide) hm_z
                replace hm_z := rn_iload_n (am_cur_of (i := (55, 1, .iload_n 2, (0, 0, 0), 0)) (by decide +kernel)) g2m hm_z
                replace hm_z := rn_ifF (am_cur_of (i := (56, 3, .ifCond .eq 13, (40, 0, 0), 0)) (by decide +kernel)) (by decide) hm_z
                replace hm_z := rn_iload_n (am_cur_of (i := (59, 1, .iload_n 2, (0, 0, 0), 0)) (by decide +kernel)) g2m hm_z
                replace hm_z := rn_iconst (w := 2) (am_cur_of (i := (60, 1, .iconst 2, (0, 0, 0), 0)) (by decide +kernel)) (by decide) hm_z
                replace hm_z := rn_cmpF (am_cur_of (i := (61, 3, .if_icmp .eq 8, (40, 0, 0), 0)) (by decide +kernel)) (by decide) hm_z
                replace hm_z := rn_iload_n (am_cur_of (i := (64, 1, .iload_n 2, (0, 0, 0), 0)) (by decide +kernel)) g2m hm_z
                replace hm_z := rn_iconst (w := 3) (am_cur_of (i := (65, 1, .iconst 3, (0, 0, 0), 0)) (by decide +kernel)) (by decide) hm_z
                replace hm_z := rn_cmpT (am_cur_of (i := (66, 3, .if_icmp .ne 7, (42, 0, 0), 0)) (by decide +kernel)) (by decide) hm_z
                replace hm_z := rn_iconst (w := 0) (am_cur_of (i := (73, 1, .iconst 0, (0, 0, 0), 0)) (by decide +kernel)) (by decide) hm_z
                replace hm_z := rn_istore_n (am_cur_of (i := (74, 1, .istore_n 3, (0, 0, 0), 0)) (by decide +kernel)) hm_z
                obtain ⟨_, s984_z, s985_z, g3m, hm_z⟩ := hm_z
                replace g0m := s984_z 0 _ (by decide) rfl g0m
                replace g1m := s984_z 1 _ (by decide) rfl g1m
                replace g2m := s984_z 2 _ (by decide) rfl g2m
                replace g4m := s984_z 4 _ (by decide) rfl g4m
                clear s984_z s985_z
                replace hm_z := rn_iload_n (am_cur_of (i := (75, 1, .iload_n 2, (0, 0, 0), 0)) (by decide +kernel)) g2m hm_z
                replace hm_z := rn_iconst (w := 1) (am_cur_of (i := (76, 1, .iconst 1, (0, 0, 0), 0)) (by decide +kernel)) (by decide) hm_z
                replace hm_z := rn_cmpT (am_cur_of (i := (77, 3, .if_icmp .eq 8, (50, 0, 0), 0)) (by decide +kernel)) (by decide) hm_z
                replace hm_z := rn_bipush (w := 20) (am_cur_of (i := (85, 2, .bipush 20, (0, 0, 0), 0)) (by decide +kernel)) (by decide) hm_z
                replace hm_z := rn_goto (am_cur_of (i := (87, 3, .goto 20, (61, 0, 0), 0)) (by decide +kernel)) hm_z
                replace hm_z := rn_istore (am_cur_of (i := (107, 2, .istore 4, (0, 0, 0), 0)) (by decide +kernel)) hm_z
                obtain ⟨_, s986_z, s987_z, g4m, hm_z⟩ := hm_z
                replace g0m := s986_z 0 _ (by decide) rfl g0m
                replace g1m := s986_z 1 _ (by decide) rfl g1m
                replace g2m := s986_z 2 _ (by decide) rfl g2m
                replace g3m := s986_z 3 _ (by decide) rfl g3m
                clear s986_z s987_z
                replace hm_z := rn_aload_n (am_cur_of (i := (109, 1, .aload_n 0, (0, 0, 0), 0)) (by decide +kernel)) g0m hm_z
                replace hm_z := rn_iload_n (am_cur_of (i := (110, 1, .iload_n 3, (0, 0, 0), 0)) (by decide +kernel)) g3m hm_z
                replace hm_z := rn_iload (am_cur_of (i := (111, 2, .iload 4, (0, 0, 0), 0)) (by decide +kernel)) g4m hm_z
                replace hm_z := rn_callV (M' := am_m161) (o := 164) (ar := [.int 20, .int 0]) (rest := []) (L := lv_args 0 [.ref 164, .int 0, .int 20]) (am_cur_of (i := (113, 3, .invokevirtual 197, (161, 1677, 3), 0)) (by decide +kernel)) rfl rfl rfl rfl hm_z
                obtain ⟨r988_z, h989_z, q990_z, hm_z⟩ := hm_z
                have R' : rq T S x19_z p19_z 2 (am_up h965_z 21 1 (.int v19_z)) (am_up h976_z 170 42 (.int v19_z)) := ⟨⟨c1_z, c2_z, c3_z, c4_z, c5_z, c6_z, fun k hk_z => c7_z k hk_z, fun k hk_z => c8_z k hk_z⟩, ⟨m2_z, m3_z, m4_z, m5_z, m6_z, fun k hk_z => m7_z k hk_z, fun k hk_z => m8_z k hk_z⟩, R3, R4, R5, R6, R7, R8, R9, R10⟩
                have A' : rp 2 (am_up h965_z 21 1 (.int v19_z)) (am_up h976_z 170 42 (.int v19_z)) := ⟨⟨a1_z, a2_z, a3_z, a4_z, a5_z, a6_z⟩, ⟨nb1_z, nb2_z, nb3_z⟩, ⟨nt1_z, nt2_z, nt3_z⟩, ⟨nl1_z, nl2_z, nl3_z⟩, ⟨nr1_z, nr2_z, nr3_z⟩, ⟨nk1_z, nk2_z, nk3_z⟩, ⟨(fun hb_z k hk_z => by match k, hk_z with | 0, _ => exact AC0 hb_z 0 (by decide) | 1, _ => exact AC0 hb_z 1 (by decide) | 2, _ => exact AC0 hb_z 2 (by decide) | 3, _ => exact AC0 hb_z 3 (by decide) | 4, _ => exact AC0 hb_z 4 (by decide) | 5, _ => exact AC0 hb_z 5 (by decide) | 6, _ => exact AC0 hb_z 6 (by decide) | 7, _ => exact AC0 hb_z 7 (by decide)), (fun hb_z k hk_z => by match k, hk_z with | 0, _ => exact AC1 hb_z 0 (by decide) | 1, _ => exact AC1 hb_z 1 (by decide) | 2, _ => exact AC1 hb_z 2 (by decide) | 3, _ => exact AC1 hb_z 3 (by decide) | 4, _ => exact AC1 hb_z 4 (by decide) | 5, _ => exact AC1 hb_z 5 (by decide) | 6, _ => exact AC1 hb_z 6 (by decide) | 7, _ => exact AC1 hb_z 7 (by decide)), fun hb_z => absurd hb_z (by rw [show rg_v (am_up h965_z 21 1 (.int v19_z)) 2 2 = 2 from ecb]; decide), fun hb_z => absurd hb_z (by rw [show rg_v (am_up h965_z 21 1 (.int v19_z)) 2 2 = 2 from ecb]; decide)⟩, fun t ht => AD t ht, fun t ht => AE t ht, fun t ht => AG t ht⟩
                have B' : rp_t (am_up h965_z 21 1 (.int v19_z)) (am_up h976_z 170 42 (.int v19_z)) := by
                  obtain ⟨b0_z, b1_z, b2_z, b3_z, b4_z, b5_z, b6_z, t, o0_z, o1_z, o2_z, o3_z, o4_z, o5_z, o6_z⟩ := B
                  exact ⟨b0_z, b1_z, b2_z, b3_z, b4_z, b5_z, b6_z, t, o0_z, o1_z, o2_z, o3_z, o4_z, o5_z, o6_z⟩
                rcases pr_num R' (by decide) (by decide) q980_z q990_z with ⟨v20_z, x20_z, p20_z, rfl, rfl, lo20_z, hi20_z, R, le20_z, got, X, Y, t7_z, t167_z⟩ | ⟨rfl, F⟩
                · replace A := rp_x (by decide) A' X Y
                  replace B := rp_tk B' t7_z t167_z Y
                  clear A' B' R'
                  replace le20_z : x.toInt ≤ p20_z.toInt := Int.le_trans (Int.le_trans le19_z R8) le20_z
                  replace ecb : rg_v h979_z 2 2 = 2 := (rx_v X (o := 2) (k := 2) (by decide)).trans ecb
                  replace ect : rg_v h979_z 2 4 = ct := (rx_v X (o := 2) (k := 4) (by decide)).trans ect
                  replace ecl : rg_v h979_z 2 9 = cl := (rx_v X (o := 2) (k := 9) (by decide)).trans ecl
                  replace ecr : rg_v h979_z 2 12 = cr := (rx_v X (o := 2) (k := 12) (by decide)).trans ecr
                  replace E0 : rg_v h979_z 21 0 = rg_v h989_z 169 6 := (rx_v X (o := 21) (k := 0) (by decide)).trans (E0.trans (rx_w Y (o := 169) (k := 6) (by omega) (by decide)).symm)
                  have E1 : rg_v h979_z 21 1 = rg_v h989_z 170 42 := (rx_v X (o := 21) (k := 1) (by decide)).trans (Eq.trans (rfl) (rx_w Y (o := 170) (k := 42) (by omega) (by decide)).symm)
                  replace hm_z : rn _ _ _ _ [.int 1] _ _ _ := hm_z
                  replace hc_z : rn _ _ _ _ [.int v20_z, .ref 21] _ _ _ := hc_z
                  clear a1_z a2_z a3_z a4_z a5_z a6_z nb1_z nb2_z nb3_z nt1_z nt2_z nt3_z nl1_z nl2_z nl3_z nr1_z nr2_z nr3_z nk1_z nk2_z nk3_z AC0 AC1 AC2 AC3 AD AE AG c1_z c2_z c3_z c4_z c5_z c6_z c7_z c8_z m2_z m3_z m4_z m5_z m6_z m7_z m8_z R3 R4 R5 R6 R7 R8 R9 R10
                  obtain ⟨⟨⟨a1_z, a2_z, a3_z, a4_z, a5_z, a6_z⟩, ⟨nb1_z, nb2_z, nb3_z⟩, ⟨nt1_z, nt2_z, nt3_z⟩, ⟨nl1_z, nl2_z, nl3_z⟩, ⟨nr1_z, nr2_z, nr3_z⟩, ⟨nk1_z, nk2_z, nk3_z⟩, ⟨AC0, AC1, AC2, AC3⟩, AD, AE, AG⟩, ⟨⟨c1_z, c2_z, c3_z, c4_z, c5_z, c6_z, c7_z, c8_z⟩, ⟨m2_z, m3_z, m4_z, m5_z, m6_z, m7_z, m8_z⟩, R3, R4, R5, R6, R7, R8, R9, R10⟩⟩ := (⟨A, R⟩ : rp 2 h979_z h989_z ∧ rq T S x20_z p20_z 2 h979_z h989_z)
                  replace hc_z := rn_put (am_cur_of (i := (91, 3, .putfield 178, (3, 2, 208), 0)) (by decide +kernel)) (by decide +kernel) hc_z
                  replace hc_z := rn_aload_n (am_cur_of (i := (94, 1, .aload_n 1, (0, 0, 0), 0)) (by decide +kernel)) g1_z hc_z
                  replace hc_z := rn_aload_n (am_cur_of (i := (95, 1, .aload_n 0, (0, 0, 0), 0)) (by decide +kernel)) g0_z hc_z
                  replace hc_z := rn_iconst (w := 1) (am_cur_of (i := (96, 1, .iconst 1, (0, 0, 0), 0)) (by decide +kernel)) (by decide) hc_z
                  replace hc_z := rn_bipush (w := 20) (am_cur_of (i := (97, 2, .bipush 20, (0, 0, 0), 0)) (by decide +kernel)) (by decide) hc_z
                  replace hc_z := rn_callV (M' := am_m30) (o := 44) (ar := [.int 20, .int 1]) (rest := [.ref 21]) (L := lv_args 0 [.ref 44, .int 1, .int 20]) (am_cur_of (i := (99, 3, .invokevirtual 142, (30, 773, 3), 0)) (by decide +kernel)) rfl rfl rfl rfl hc_z
                  obtain ⟨r991_z, h992_z, q993_z, hc_z⟩ := hc_z
                  replace hm_z := rn_ifT (am_cur_of (i := (116, 3, .ifCond .ne 5, (69, 0, 0), 0)) (by decide +kernel)) (by decide) hm_z
                  replace hm_z := rn_aload_n (am_cur_of (i := (121, 1, .aload_n 0, (0, 0, 0), 0)) (by decide +kernel)) g0m hm_z
                  replace hm_z := rn_getR (x := 170) (am_cur_of (i := (122, 3, .getfield 30, (12, 25, 1409), 0)) (by decide +kernel)) (by decide +kernel) hm_z
                  replace hm_z := rn_iload_n (am_cur_of (i := (125, 1, .iload_n 1, (0, 0, 0), 0)) (by decide +kernel)) g1m hm_z
                  replace hm_z := rn_iload_n (am_cur_of (i := (126, 1, .iload_n 2, (0, 0, 0), 0)) (by decide +kernel)) g2m hm_z
                  replace hm_z := rn_iadd (w := 43) (am_cur_of (i := (127, 1, .iadd, (0, 0, 0), 0)) (by decide +kernel)) (by decide) hm_z
                  replace hm_z := rn_aload_n (am_cur_of (i := (128, 1, .aload_n 0, (0, 0, 0), 0)) (by decide +kernel)) g0m hm_z
                  replace hm_z := rn_getI (v := v20_z) (am_cur_of (i := (129, 3, .getfield 188, (12, 11, 1395), 0)) (by decide +kernel)) (by decide +kernel) got hm_z
                  replace hm_z := rn_iastore (N := 56) (q := 43) (am_cur_of (i := (132, 1, .iastore, (0, 0, 0), 0)) (by decide +kernel)) (by decide +kernel) rfl hm_z
                  obtain ⟨p994_z, hm_z⟩ := hm_z
                  replace hm_z := rn_iinc (w := 2) (am_cur_of (i := (133, 3, .iinc 2 1, (0, 0, 0), 0)) (by decide +kernel)) g2m (by decide) hm_z
                  obtain ⟨_, s995_z, s996_z, g2m, hm_z⟩ := hm_z
                  replace g0m := s995_z 0 _ (by decide) rfl g0m
                  replace g1m := s995_z 1 _ (by decide) rfl g1m
                  replace g3m := s995_z 3 _ (by decide) rfl g3m
                  replace g4m := s995_z 4 _ (by decide) rfl g4m
                  clear s995_z s996_z
                  replace hm_z := rn_goto (am_cur_of (i := (136, 3, .goto (-87), (29, 0, 0), 0)) (by decide +kernel)) hm_z
                  replace hm_z := rn_iload_n (am_cur_of (i := (49, 1, .iload_n 2, (0, 0, 0), 0)) (by decide +kernel)) g2m hm_z
                  replace hm_z := rn_bipush (w := 7) (am_cur_of (i := (50, 2, .bipush 7, (0, 0, 0), 0)) (by decide +kernel)) (by decide) hm_z
                  replace hm_z := rn_cmpF (am_cur_of (i := (52, 3, .if_icmp .ge 87, (79, 0, 0), 0)) (by decide +kernel)) (by decide) hm_z
                  replace hm_z := rn_iload_n (am_cur_of (i := (55, 1, .iload_n 2, (0, 0, 0), 0)) (by decide +kernel)) g2m hm_z
                  replace hm_z := rn_ifF (am_cur_of (i := (56, 3, .ifCond .eq 13, (40, 0, 0), 0)) (by decide +kernel)) (by decide) hm_z
                  replace hm_z := rn_iload_n (am_cur_of (i := (59, 1, .iload_n 2, (0, 0, 0), 0)) (by decide +kernel)) g2m hm_z
                  replace hm_z := rn_iconst (w := 2) (am_cur_of (i := (60, 1, .iconst 2, (0, 0, 0), 0)) (by decide +kernel)) (by decide) hm_z
                  replace hm_z := rn_cmpT (am_cur_of (i := (61, 3, .if_icmp .eq 8, (40, 0, 0), 0)) (by decide +kernel)) (by decide) hm_z
                  replace hm_z := rn_iconst (w := 1) (am_cur_of (i := (69, 1, .iconst 1, (0, 0, 0), 0)) (by decide +kernel)) (by decide) hm_z
                  replace hm_z := rn_goto (am_cur_of (i := (70, 3, .goto 4, (43, 0, 0), 0)) (by decide +kernel)) hm_z
                  replace hm_z := rn_istore_n (am_cur_of (i := (74, 1, .istore_n 3, (0, 0, 0), 0)) (by decide +kernel)) hm_z
                  obtain ⟨_, s997_z, s998_z, g3m, hm_z⟩ := hm_z
                  replace g0m := s997_z 0 _ (by decide) rfl g0m
                  replace g1m := s997_z 1 _ (by decide) rfl g1m
                  replace g2m := s997_z 2 _ (by decide) rfl g2m
                  replace g4m := s997_z 4 _ (by decide) rfl g4m
                  clear s997_z s998_z
                  replace hm_z := rn_iload_n (am_cur_of (i := (75, 1, .iload_n 2, (0, 0, 0), 0)) (by decide +kernel)) g2m hm_z
                  replace hm_z := rn_iconst (w := 1) (am_cur_of (i := (76, 1, .iconst 1, (0, 0, 0), 0)) (by decide +kernel)) (by decide) hm_z
                  replace hm_z := rn_cmpF (am_cur_of (i := (77, 3, .if_icmp .eq 8, (50, 0, 0), 0)) (by decide +kernel)) (by decide) hm_z
                  replace hm_z := rn_iload_n (am_cur_of (i := (80, 1, .iload_n 2, (0, 0, 0), 0)) (by decide +kernel)) g2m hm_z
                  replace hm_z := rn_iconst (w := 2) (am_cur_of (i := (81, 1, .iconst 2, (0, 0, 0), 0)) (by decide +kernel)) (by decide) hm_z
                  replace hm_z := rn_cmpF (am_cur_of (i := (82, 3, .if_icmp .ne 8, (52, 0, 0), 0)) (by decide +kernel)) (by decide) hm_z
                  replace hm_z := rn_bipush (w := 20) (am_cur_of (i := (85, 2, .bipush 20, (0, 0, 0), 0)) (by decide +kernel)) (by decide) hm_z
                  replace hm_z := rn_goto (am_cur_of (i := (87, 3, .goto 20, (61, 0, 0), 0)) (by decide +kernel)) hm_z
                  replace hm_z := rn_istore (am_cur_of (i := (107, 2, .istore 4, (0, 0, 0), 0)) (by decide +kernel)) hm_z
                  obtain ⟨_, s999_z, s1000_z, g4m, hm_z⟩ := hm_z
                  replace g0m := s999_z 0 _ (by decide) rfl g0m
                  replace g1m := s999_z 1 _ (by decide) rfl g1m
                  replace g2m := s999_z 2 _ (by decide) rfl g2m
                  replace g3m := s999_z 3 _ (by decide) rfl g3m
                  clear s999_z s1000_z
                  replace hm_z := rn_aload_n (am_cur_of (i := (109, 1, .aload_n 0, (0, 0, 0), 0)) (by decide +kernel)) g0m hm_z
                  replace hm_z := rn_iload_n (am_cur_of (i := (110, 1, .iload_n 3, (0, 0, 0), 0)) (by decide +kernel)) g3m hm_z
                  replace hm_z := rn_iload (am_cur_of (i := (111, 2, .iload 4, (0, 0, 0), 0)) (by decide +kernel)) g4m hm_z
                  replace hm_z := rn_callV (M' := am_m161) (o := 164) (ar := [.int 20, .int 1]) (rest := []) (L := lv_args 0 [.ref 164, .int 1, .int 20]) (am_cur_of (i := (113, 3, .invokevirtual 197, (161, 1677, 3), 0)) (by decide +kernel)) rfl rfl rfl rfl hm_z
                  obtain ⟨r1001_z, h1002_z, q1003_z, hm_z⟩ := hm_z
                  have R' : rq T S x20_z p20_z 2 (am_up h979_z 21 2 (.int v20_z)) (am_up h989_z 170 43 (.int v20_z)) := ⟨⟨c1_z, c2_z, c3_z, c4_z, c5_z, c6_z, fun k hk_z => c7_z k hk_z, fun k hk_z => c8_z k hk_z⟩, ⟨m2_z, m3_z, m4_z, m5_z, m6_z, fun k hk_z => m7_z k hk_z, fun k hk_z => m8_z k hk_z⟩, R3, R4, R5, R6, R7, R8, R9, R10⟩
                  have A' : rp 2 (am_up h979_z 21 2 (.int v20_z)) (am_up h989_z 170 43 (.int v20_z)) := ⟨⟨a1_z, a2_z, a3_z, a4_z, a5_z, a6_z⟩, ⟨nb1_z, nb2_z, nb3_z⟩, ⟨nt1_z, nt2_z, nt3_z⟩, ⟨nl1_z, nl2_z, nl3_z⟩, ⟨nr1_z, nr2_z, nr3_z⟩, ⟨nk1_z, nk2_z, nk3_z⟩, ⟨(fun hb_z k hk_z => by match k, hk_z with | 0, _ => exact AC0 hb_z 0 (by decide) | 1, _ => exact AC0 hb_z 1 (by decide) | 2, _ => exact AC0 hb_z 2 (by decide) | 3, _ => exact AC0 hb_z 3 (by decide) | 4, _ => exact AC0 hb_z 4 (by decide) | 5, _ => exact AC0 hb_z 5 (by decide) | 6, _ => exact AC0 hb_z 6 (by decide) | 7, _ => exact AC0 hb_z 7 (by decide)), (fun hb_z k hk_z => by match k, hk_z with | 0, _ => exact AC1 hb_z 0 (by decide) | 1, _ => exact AC1 hb_z 1 (by decide) | 2, _ => exact AC1 hb_z 2 (by decide) | 3, _ => exact AC1 hb_z 3 (by decide) | 4, _ => exact AC1 hb_z 4 (by decide) | 5, _ => exact AC1 hb_z 5 (by decide) | 6, _ => exact AC1 hb_z 6 (by decide) | 7, _ => exact AC1 hb_z 7 (by decide)), fun hb_z => absurd hb_z (by rw [show rg_v (am_up h979_z 21 2 (.int v20_z)) 2 2 = 2 from ecb]; decide), fun hb_z => absurd hb_z (by rw [show rg_v (am_up h979_z 21 2 (.int v20_z)) 2 2 = 2 from ecb]; decide)⟩, fun t ht => AD t ht, fun t ht => AE t ht, fun t ht => AG t ht⟩
                  have B' : rp_t (am_up h979_z 21 2 (.int v20_z)) (am_up h989_z 170 43 (.int v20_z)) := by
                    obtain ⟨b0_z, b1_z, b2_z, b3_z, b4_z, b5_z, b6_z, t, o0_z, o1_z, o2_z, o3_z, o4_z, o5_z, o6_z⟩ := B
                    exact ⟨b0_z, b1_z, b2_z, b3_z, b4_z, b5_z, b6_z, t, o0_z, o1_z, o2_z, o3_z, o4_z, o5_z, o6_z⟩
                  rcases pr_num R' (by decide) (by decide) q993_z q1003_z with ⟨v21_z, x21_z, p21_z, rfl, rfl, lo21_z, hi21_z, R, le21_z, got, X, Y, t7_z, t167_z⟩ | ⟨rfl, F⟩
                  · replace A := rp_x (by decide) A' X Y
                    replace B := rp_tk B' t7_z t167_z Y
                    clear A' B' R'
                    replace le21_z : x.toInt ≤ p21_z.toInt := Int.le_trans (Int.le_trans le20_z R8) le21_z
                    replace ecb : rg_v h992_z 2 2 = 2 := (rx_v X (o := 2) (k := 2) (by decide)).trans ecb
                    replace ect : rg_v h992_z 2 4 = ct := (rx_v X (o := 2) (k := 4) (by decide)).trans ect
                    replace ecl : rg_v h992_z 2 9 = cl := (rx_v X (o := 2) (k := 9) (by decide)).trans ecl
                    replace ecr : rg_v h992_z 2 12 = cr := (rx_v X (o := 2) (k := 12) (by decide)).trans ecr
                    replace E0 : rg_v h992_z 21 0 = rg_v h1002_z 169 6 := (rx_v X (o := 21) (k := 0) (by decide)).trans (E0.trans (rx_w Y (o := 169) (k := 6) (by omega) (by decide)).symm)
                    replace E1 : rg_v h992_z 21 1 = rg_v h1002_z 170 42 := (rx_v X (o := 21) (k := 1) (by decide)).trans (E1.trans (rx_w Y (o := 170) (k := 42) (by omega) (by decide)).symm)
                    have E2 : rg_v h992_z 21 2 = rg_v h1002_z 170 43 := (rx_v X (o := 21) (k := 2) (by decide)).trans (Eq.trans (rfl) (rx_w Y (o := 170) (k := 43) (by omega) (by decide)).symm)
                    replace hm_z : rn _ _ _ _ [.int 1] _ _ _ := hm_z
                    replace hc_z : rn _ _ _ _ [.int v21_z, .ref 21] _ _ _ := hc_z
                    clear a1_z a2_z a3_z a4_z a5_z a6_z nb1_z nb2_z nb3_z nt1_z nt2_z nt3_z nl1_z nl2_z nl3_z nr1_z nr2_z nr3_z nk1_z nk2_z nk3_z AC0 AC1 AC2 AC3 AD AE AG c1_z c2_z c3_z c4_z c5_z c6_z c7_z c8_z m2_z m3_z m4_z m5_z m6_z m7_z m8_z R3 R4 R5 R6 R7 R8 R9 R10
                    obtain ⟨⟨⟨a1_z, a2_z, a3_z, a4_z, a5_z, a6_z⟩, ⟨nb1_z, nb2_z, nb3_z⟩, ⟨nt1_z, nt2_z, nt3_z⟩, ⟨nl1_z, nl2_z, nl3_z⟩, ⟨nr1_z, nr2_z, nr3_z⟩, ⟨nk1_z, nk2_z, nk3_z⟩, ⟨AC0, AC1, AC2, AC3⟩, AD, AE, AG⟩, ⟨⟨c1_z, c2_z, c3_z, c4_z, c5_z, c6_z, c7_z, c8_z⟩, ⟨m2_z, m3_z, m4_z, m5_z, m6_z, m7_z, m8_z⟩, R3, R4, R5, R6, R7, R8, R9, R10⟩⟩ := (⟨A, R⟩ : rp 2 h992_z h1002_z ∧ rq T S x21_z p21_z 2 h992_z h1002_z)
                    replace hc_z := rn_put (am_cur_of (i := (102, 3, .putfield 181, (3, 3, 211), 0)) (by decide +kernel)) (by decide +kernel) hc_z
                    replace hc_z := rn_aload_n (am_cur_of (i := (105, 1, .aload_n 1, (0, 0, 0), 0)) (by decide +kernel)) g1_z hc_z
                    replace hc_z := rn_aload_n (am_cur_of (i := (106, 1, .aload_n 0, (0, 0, 0), 0)) (by decide +kernel)) g0_z hc_z
                    replace hc_z := rn_iconst (w := 1) (am_cur_of (i := (107, 1, .iconst 1, (0, 0, 0), 0)) (by decide +kernel)) (by decide) hc_z
                    replace hc_z := rn_bipush (w := 9) (am_cur_of (i := (108, 2, .bipush 9, (0, 0, 0), 0)) (by decide +kernel)) (by decide) hc_z
                    replace hc_z := rn_callV (M' := am_m30) (o := 44) (ar := [.int 9, .int 1]) (rest := [.ref 21]) (L := lv_args 0 [.ref 44, .int 1, .int 9]) (am_cur_of (i := (110, 3, .invokevirtual 142, (30, 773, 3), 0)) (by decide +kernel)) rfl rfl rfl rfl hc_z
                    obtain ⟨r1004_z, h1005_z, q1006_z, hc_z⟩ := hc_z
                    replace hm_z := rn_ifT (am_cur_of (i := (116, 3, .ifCond .ne 5, (69, 0, 0), 0)) (by decide +kernel)) (by decide) hm_z
                    replace hm_z := rn_aload_n (am_cur_of (i := (121, 1, .aload_n 0, (0, 0, 0), 0)) (by decide +kernel)) g0m hm_z
                    replace hm_z := rn_getR (x := 170) (am_cur_of (i := (122, 3, .getfield 30, (12, 25, 1409), 0)) (by decide +kernel)) (by decide +kernel) hm_z
                    replace hm_z := rn_iload_n (am_cur_of (i := (125, 1, .iload_n 1, (0, 0, 0), 0)) (by decide +kernel)) g1m hm_z
                    replace hm_z := rn_iload_n (am_cur_of (i := (126, 1, .iload_n 2, (0, 0, 0), 0)) (by decide +kernel)) g2m hm_z
                    replace hm_z := rn_iadd (w := 44) (am_cur_of (i := (127, 1, .iadd, (0, 0, 0), 0)) (by decide +kernel)) (by decide) hm_z
                    replace hm_z := rn_aload_n (am_cur_of (i := (128, 1, .aload_n 0, (0, 0, 0), 0)) (by decide +kernel)) g0m hm_z
                    replace hm_z := rn_getI (v := v21_z) (am_cur_of (i := (129, 3, .getfield 188, (12, 11, 1395), 0)) (by decide +kernel)) (by decide +kernel) got hm_z
                    replace hm_z := rn_iastore (N := 56) (q := 44) (am_cur_of (i := (132, 1, .iastore, (0, 0, 0), 0)) (by decide +kernel)) (by decide +kernel) rfl hm_z
                    obtain ⟨p1007_z, hm_z⟩ := hm_z
                    replace hm_z := rn_iinc (w := 3) (am_cur_of (i := (133, 3, .iinc 2 1, (0, 0, 0), 0)) (by decide +kernel)) g2m (by decide) hm_z
                    obtain ⟨_, s1008_z, s1009_z, g2m, hm_z⟩ := hm_z
                    replace g0m := s1008_z 0 _ (by decide) rfl g0m
                    replace g1m := s1008_z 1 _ (by decide) rfl g1m
                    replace g3m := s1008_z 3 _ (by decide) rfl g3m
                    replace g4m := s1008_z 4 _ (by decide) rfl g4m
                    clear s1008_z s1009_z
                    replace hm_z := rn_goto (am_cur_of (i := (136, 3, .goto (-87), (29, 0, 0), 0)) (by decide +kernel)) hm_z
                    replace hm_z := rn_iload_n (am_cur_of (i := (49, 1, .iload_n 2, (0, 0, 0), 0)) (by decide +kernel)) g2m hm_z
                    replace hm_z := rn_bipush (w := 7) (am_cur_of (i := (50, 2, .bipush 7, (0, 0, 0), 0)) (by decide +kernel)) (by decide) hm_z
                    replace hm_z := rn_cmpF (am_cur_of (i := (52, 3, .if_icmp .ge 87, (79, 0, 0), 0)) (by decide +kernel)) (by decide) hm_z
                    replace hm_z := rn_iload_n (am_cur_of (i := (55, 1, .iload_n 2, (0, 0, 0), 0)) (by decide +kernel)) g2m hm_z
                    replace hm_z := rn_ifF (am_cur_of (i := (56, 3, .ifCond .eq 13, (40, 0, 0), 0)) (by decide +kernel)) (by decide) hm_z
                    replace hm_z := rn_iload_n (am_cur_of (i := (59, 1, .iload_n 2, (0, 0, 0), 0)) (by decide +kernel)) g2m hm_z
                    replace hm_z := rn_iconst (w := 2) (am_cur_of (i := (60, 1, .iconst 2, (0, 0, 0), 0)) (by decide +kernel)) (by decide) hm_z
                    replace hm_z := rn_cmpF (am_cur_of (i := (61, 3, .if_icmp .eq 8, (40, 0, 0), 0)) (by decide +kernel)) (by decide) hm_z
                    replace hm_z := rn_iload_n (am_cur_of (i := (64, 1, .iload_n 2, (0, 0, 0), 0)) (by decide +kernel)) g2m hm_z
                    replace hm_z := rn_iconst (w := 3) (am_cur_of (i := (65, 1, .iconst 3, (0, 0, 0), 0)) (by decide +kernel)) (by decide) hm_z
                    replace hm_z := rn_cmpF (am_cur_of (i := (66, 3, .if_icmp .ne 7, (42, 0, 0), 0)) (by decide +kernel)) (by decide) hm_z
                    replace hm_z := rn_iconst (w := 1) (am_cur_of (i := (69, 1, .iconst 1, (0, 0, 0), 0)) (by decide +kernel)) (by decide) hm_z
                    replace hm_z := rn_goto (am_cur_of (i := (70, 3, .goto 4, (43, 0, 0), 0)) (by decide +kernel)) hm_z
                    replace hm_z := rn_istore_n (am_cur_of (i := (74, 1, .istore_n 3, (0, 0, 0), 0)) (by decide +kernel)) hm_z
                    obtain ⟨_, s1010_z, s1011_z, g3m, hm_z⟩ := hm_z
                    replace g0m := s1010_z 0 _ (by decide) rfl g0m
                    replace g1m := s1010_z 1 _ (by decide) rfl g1m
                    replace g2m := s1010_z 2 _ (by decide) rfl g2m
                    replace g4m := s1010_z 4 _ (by decide) rfl g4m
                    clear s1010_z s1011_z
                    replace hm_z := rn_iload_n (am_cur_of (i := (75, 1, .iload_n 2, (0, 0, 0), 0)) (by decide +kernel)) g2m hm_z
                    replace hm_z := rn_iconst (w := 1) (am_cur_of (i := (76, 1, .iconst 1, (0, 0, 0), 0)) (by decide +kernel)) (by decide) hm_z
                    replace hm_z := rn_cmpF (am_cur_of (i := (77, 3, .if_icmp .eq 8, (50, 0, 0), 0)) (by decide +kernel)) (by decide) hm_z
                    replace hm_z := rn_iload_n (am_cur_of (i := (80, 1, .iload_n 2, (0, 0, 0), 0)) (by decide +kernel)) g2m hm_z
                    replace hm_z := rn_iconst (w := 2) (am_cur_of (i := (81, 1, .iconst 2, (0, 0, 0), 0)) (by decide +kernel)) (by decide) hm_z
                    replace hm_z := rn_cmpT (am_cur_of (i := (82, 3, .if_icmp .ne 8, (52, 0, 0), 0)) (by decide +kernel)) (by decide) hm_z
                    replace hm_z := rn_iload_n (am_cur_of (i := (90, 1, .iload_n 2, (0, 0, 0), 0)) (by decide +kernel)) g2m hm_z
                    replace hm_z := rn_iconst (w := 3) (am_cur_of (i := (91, 1, .iconst 3, (0, 0, 0), 0)) (by decide +kernel)) (by decide) hm_z
                    replace hm_z := rn_cmpT (am_cur_of (i := (92, 3, .if_icmp .eq 8, (58, 0, 0), 0)) (by decide +kernel)) (by decide) hm_z
                    replace hm_z := rn_bipush (w := 9) (am_cur_of (i := (100, 2, .bipush 9, (0, 0, 0), 0)) (by decide +kernel)) (by decide) hm_z
                    replace hm_z := rn_goto (am_cur_of (i := (102, 3, .goto 5, (61, 0, 0), 0)) (by decide +kernel)) hm_z
                    replace hm_z := rn_istore (am_cur_of (i := (107, 2, .istore 4, (0, 0, 0), 0)) (by decide +kernel)) hm_z
                    obtain ⟨_, s1012_z, s1013_z, g4m, hm_z⟩ := hm_z
                    replace g0m := s1012_z 0 _ (by decide) rfl g0m
                    replace g1m := s1012_z 1 _ (by decide) rfl g1m
                    replace g2m := s1012_z 2 _ (by decide) rfl g2m
                    replace g3m := s1012_z 3 _ (by decide) rfl g3m
                    clear s1012_z s1013_z
                    replace hm_z := rn_aload_n (am_cur_of (i := (109, 1, .aload_n 0, (0, 0, 0), 0)) (by decide +kernel)) g0m hm_z
                    replace hm_z := rn_iload_n (am_cur_of (i := (110, 1, .iload_n 3, (0, 0, 0), 0)) (by decide +kernel)) g3m hm_z
                    replace hm_z := rn_iload (am_cur_of (i := (111, 2, .iload 4, (0, 0, 0), 0)) (by decide +kernel)) g4m hm_z
                    replace hm_z := rn_callV (M' := am_m161) (o := 164) (ar := [.int 9, .int 1]) (rest := []) (L := lv_args 0 [.ref 164, .int 1, .int 9]) (am_cur_of (i := (113, 3, .invokevirtual 197, (161, 1677, 3), 0)) (by decide +kernel)) rfl rfl rfl rfl hm_z
                    obtain ⟨r1014_z, h1015_z, q1016_z, hm_z⟩ := hm_z
                    have R' : rq T S x21_z p21_z 2 (am_up h992_z 21 3 (.int v21_z)) (am_up h1002_z 170 44 (.int v21_z)) := ⟨⟨c1_z, c2_z, c3_z, c4_z, c5_z, c6_z, fun k hk_z => c7_z k hk_z, fun k hk_z => c8_z k hk_z⟩, ⟨m2_z, m3_z, m4_z, m5_z, m6_z, fun k hk_z => m7_z k hk_z, fun k hk_z => m8_z k hk_z⟩, R3, R4, R5, R6, R7, R8, R9, R10⟩
                    have A' : rp 2 (am_up h992_z 21 3 (.int v21_z)) (am_up h1002_z 170 44 (.int v21_z)) := ⟨⟨a1_z, a2_z, a3_z, a4_z, a5_z, a6_z⟩, ⟨nb1_z, nb2_z, nb3_z⟩, ⟨nt1_z, nt2_z, nt3_z⟩, ⟨nl1_z, nl2_z, nl3_z⟩, ⟨nr1_z, nr2_z, nr3_z⟩, ⟨nk1_z, nk2_z, nk3_z⟩, ⟨(fun hb_z k hk_z => by match k, hk_z with | 0, _ => exact AC0 hb_z 0 (by decide) | 1, _ => exact AC0 hb_z 1 (by decide) | 2, _ => exact AC0 hb_z 2 (by decide) | 3, _ => exact AC0 hb_z 3 (by decide) | 4, _ => exact AC0 hb_z 4 (by decide) | 5, _ => exact AC0 hb_z 5 (by decide) | 6, _ => exact AC0 hb_z 6 (by decide) | 7, _ => exact AC0 hb_z 7 (by decide)), (fun hb_z k hk_z => by match k, hk_z with | 0, _ => exact AC1 hb_z 0 (by decide) | 1, _ => exact AC1 hb_z 1 (by decide) | 2, _ => exact AC1 hb_z 2 (by decide) | 3, _ => exact AC1 hb_z 3 (by decide) | 4, _ => exact AC1 hb_z 4 (by decide) | 5, _ => exact AC1 hb_z 5 (by decide) | 6, _ => exact AC1 hb_z 6 (by decide) | 7, _ => exact AC1 hb_z 7 (by decide)), fun hb_z => absurd hb_z (by rw [show rg_v (am_up h992_z 21 3 (.int v21_z)) 2 2 = 2 from ecb]; decide), fun hb_z => absurd hb_z (by rw [show rg_v (am_up h992_z 21 3 (.int v21_z)) 2 2 = 2 from ecb]; decide)⟩, fun t ht => AD t ht, fun t ht => AE t ht, fun t ht => AG t ht⟩
                    have B' : rp_t (am_up h992_z 21 3 (.int v21_z)) (am_up h1002_z 170 44 (.int v21_z)) := by
                      obtain ⟨b0_z, b1_z, b2_z, b3_z, b4_z, b5_z, b6_z, t, o0_z, o1_z, o2_z, o3_z, o4_z, o5_z, o6_z⟩ := B
                      exact ⟨b0_z, b1_z, b2_z, b3_z, b4_z, b5_z, b6_z, t, o0_z, o1_z, o2_z, o3_z, o4_z, o5_z, o6_z⟩
                    rcases pr_num R' (by decide) (by decide) q1006_z q1016_z with ⟨v22_z, x22_z, p22_z, rfl, rfl, lo22_z, hi22_z, R, le22_z, got, X, Y, t7_z, t167_z⟩ | ⟨rfl, F⟩
                    · replace A := rp_x (by decide) A' X Y
                      replace B := rp_tk B' t7_z t167_z Y
                      clear A' B' R'
                      replace le22_z : x.toInt ≤ p22_z.toInt := Int.le_trans (Int.le_trans le21_z R8) le22_z
                      replace ecb : rg_v h1005_z 2 2 = 2 := (rx_v X (o := 2) (k := 2) (by decide)).trans ecb
                      replace ect : rg_v h1005_z 2 4 = ct := (rx_v X (o := 2) (k := 4) (by decide)).trans ect
                      replace ecl : rg_v h1005_z 2 9 = cl := (rx_v X (o := 2) (k := 9) (by decide)).trans ecl
                      replace ecr : rg_v h1005_z 2 12 = cr := (rx_v X (o := 2) (k := 12) (by decide)).trans ecr
                      replace E0 : rg_v h1005_z 21 0 = rg_v h1015_z 169 6 := (rx_v X (o := 21) (k := 0) (by decide)).trans (E0.trans (rx_w Y (o := 169) (k := 6) (by omega) (by decide)).symm)
                      replace E1 : rg_v h1005_z 21 1 = rg_v h1015_z 170 42 := (rx_v X (o := 21) (k := 1) (by decide)).trans (E1.trans (rx_w Y (o := 170) (k := 42) (by omega) (by decide)).symm)
                      replace E2 : rg_v h1005_z 21 2 = rg_v h1015_z 170 43 := (rx_v X (o := 21) (k := 2) (by decide)).trans (E2.trans (rx_w Y (o := 170) (k := 43) (by omega) (by decide)).symm)
                      have E3 : rg_v h1005_z 21 3 = rg_v h1015_z 170 44 := (rx_v X (o := 21) (k := 3) (by decide)).trans (Eq.trans (rfl) (rx_w Y (o := 170) (k := 44) (by omega) (by decide)).symm)
                      replace hm_z : rn _ _ _ _ [.int 1] _ _ _ := hm_z
                      replace hc_z : rn _ _ _ _ [.int v22_z, .ref 21] _ _ _ := hc_z
                      clear a1_z a2_z a3_z a4_z a5_z a6_z nb1_z nb2_z nb3_z nt1_z nt2_z nt3_z nl1_z nl2_z nl3_z nr1_z nr2_z nr3_z nk1_z nk2_z nk3_z AC0 AC1 AC2 AC3 AD AE AG c1_z c2_z c3_z c4_z c5_z c6_z c7_z c8_z m2_z m3_z m4_z m5_z m6_z m7_z m8_z R3 R4 R5 R6 R7 R8 R9 R10
                      obtain ⟨⟨⟨a1_z, a2_z, a3_z, a4_z, a5_z, a6_z⟩, ⟨nb1_z, nb2_z, nb3_z⟩, ⟨nt1_z, nt2_z, nt3_z⟩, ⟨nl1_z, nl2_z, nl3_z⟩, ⟨nr1_z, nr2_z, nr3_z⟩, ⟨nk1_z, nk2_z, nk3_z⟩, ⟨AC0, AC1, AC2, AC3⟩, AD, AE, AG⟩, ⟨⟨c1_z, c2_z, c3_z, c4_z, c5_z, c6_z, c7_z, c8_z⟩, ⟨m2_z, m3_z, m4_z, m5_z, m6_z, m7_z, m8_z⟩, R3, R4, R5, R6, R7, R8, R9, R10⟩⟩ := (⟨A, R⟩ : rp 2 h1005_z h1015_z ∧ rq T S x22_z p22_z 2 h1005_z h1015_z)
                      replace hc_z := rn_put (am_cur_of (i := (113, 3, .putfield 184, (3, 4, 216), 0)) (by decide +kernel)) (by decide +kernel) hc_z
                      replace hc_z := rn_aload_n (am_cur_of (i := (116, 1, .aload_n 1, (0, 0, 0), 0)) (by decide +kernel)) g1_z hc_z
                      replace hc_z := rn_aload_n (am_cur_of (i := (117, 1, .aload_n 0, (0, 0, 0), 0)) (by decide +kernel)) g0_z hc_z
                      replace hc_z := rn_iconst (w := 0) (am_cur_of (i := (118, 1, .iconst 0, (0, 0, 0), 0)) (by decide +kernel)) (by decide) hc_z
                      replace hc_z := rn_bipush (w := 99) (am_cur_of (i := (119, 2, .bipush 99, (0, 0, 0), 0)) (by decide +kernel)) (by decide) hc_z
                      replace hc_z := rn_callV (M' := am_m30) (o := 44) (ar := [.int 99, .int 0]) (rest := [.ref 21]) (L := lv_args 0 [.ref 44, .int 0, .int 99]) (am_cur_of (i := (121, 3, .invokevirtual 142, (30, 773, 3), 0)) (by decide +kernel)) rfl rfl rfl rfl hc_z
                      obtain ⟨r1017_z, h1018_z, q1019_z, hc_z⟩ := hc_z
                      replace hm_z := rn_ifT (am_cur_of (i := (116, 3, .ifCond .ne 5, (69, 0, 0), 0)) (by decide +kernel)) (by decide) hm_z
                      replace hm_z := rn_aload_n (am_cur_of (i := (121, 1, .aload_n 0, (0, 0, 0), 0)) (by decide +kernel)) g0m hm_z
                      replace hm_z := rn_getR (x := 170) (am_cur_of (i := (122, 3, .getfield 30, (12, 25, 1409), 0)) (by decide +kernel)) (by decide +kernel) hm_z
                      replace hm_z := rn_iload_n (am_cur_of (i := (125, 1, .iload_n 1, (0, 0, 0), 0)) (by decide +kernel)) g1m hm_z
                      replace hm_z := rn_iload_n (am_cur_of (i := (126, 1, .iload_n 2, (0, 0, 0), 0)) (by decide +kernel)) g2m hm_z
                      replace hm_z := rn_iadd (w := 45) (am_cur_of (i := (127, 1, .iadd, (0, 0, 0), 0)) (by decide +kernel)) (by decide) hm_z
                      replace hm_z := rn_aload_n (am_cur_of (i := (128, 1, .aload_n 0, (0, 0, 0), 0)) (by decide +kernel)) g0m hm_z
                      replace hm_z := rn_getI (v := v22_z) (am_cur_of (i := (129, 3, .getfield 188, (12, 11, 1395), 0)) (by decide +kernel)) (by decide +kernel) got hm_z
                      replace hm_z := rn_iastore (N := 56) (q := 45) (am_cur_of (i := (132, 1, .iastore, (0, 0, 0), 0)) (by decide +kernel)) (by decide +kernel) rfl hm_z
                      obtain ⟨p1020_z, hm_z⟩ := hm_z
                      replace hm_z := rn_iinc (w := 4) (am_cur_of (i := (133, 3, .iinc 2 1, (0, 0, 0), 0)) (by decide +kernel)) g2m (by decide) hm_z
                      obtain ⟨_, s1021_z, s1022_z, g2m, hm_z⟩ := hm_z
                      replace g0m := s1021_z 0 _ (by decide) rfl g0m
                      replace g1m := s1021_z 1 _ (by decide) rfl g1m
                      replace g3m := s1021_z 3 _ (by decide) rfl g3m
                      replace g4m := s1021_z 4 _ (by decide) rfl g4m
                      clear s1021_z s1022_z
                      replace hm_z := rn_goto (am_cur_of (i := (136, 3, .goto (-87), (29, 0, 0), 0)) (by decide +kernel)) hm_z
                      replace hm_z := rn_iload_n (am_cur_of (i := (49, 1, .iload_n 2, (0, 0, 0), 0)) (by decide +kernel)) g2m hm_z
                      replace hm_z := rn_bipush (w := 7) (am_cur_of (i := (50, 2, .bipush 7, (0, 0, 0), 0)) (by decide +kernel)) (by decide) hm_z
                      replace hm_z := rn_cmpF (am_cur_of (i := (52, 3, .if_icmp .ge 87, (79, 0, 0), 0)) (by decide +kernel)) (by decide) hm_z
                      replace hm_z := rn_iload_n (am_cur_of (i := (55, 1, .iload_n 2, (0, 0, 0), 0)) (by decide +kernel)) g2m hm_z
                      replace hm_z := rn_ifF (am_cur_of (i := (56, 3, .ifCond .eq 13, (40, 0, 0), 0)) (by decide +kernel)) (by decide) hm_z
                      replace hm_z := rn_iload_n (am_cur_of (i := (59, 1, .iload_n 2, (0, 0, 0), 0)) (by decide +kernel)) g2m hm_z
                      replace hm_z := rn_iconst (w := 2) (am_cur_of (i := (60, 1, .iconst 2, (0, 0, 0), 0)) (by decide +kernel)) (by decide) hm_z
                      replace hm_z := rn_cmpF (am_cur_of (i := (61, 3, .if_icmp .eq 8, (40, 0, 0), 0)) (by decide +kernel)) (by decide) hm_z
                      replace hm_z := rn_iload_n (am_cur_of (i := (64, 1, .iload_n 2, (0, 0, 0), 0)) (by decide +kernel)) g2m hm_z
                      replace hm_z := rn_iconst (w := 3) (am_cur_of (i := (65, 1, .iconst 3, (0, 0, 0), 0)) (by decide +kernel)) (by decide) hm_z
                      replace hm_z := rn_cmpT (am_cur_of (i := (66, 3, .if_icmp .ne 7, (42, 0, 0), 0)) (by decide +kernel)) (by decide) hm_z
                      replace hm_z := rn_iconst (w := 0) (am_cur_of (i := (73, 1, .iconst 0, (0, 0, 0), 0)) (by decide +kernel)) (by decide) hm_z
                      replace hm_z := rn_istore_n (am_cur_of (i := (74, 1, .istore_n 3, (0, 0, 0), 0)) (by decide +kernel)) hm_z
                      obtain ⟨_, s1023_z, s1024_z, g3m, hm_z⟩ := hm_z
                      replace g0m := s1023_z 0 _ (by decide) rfl g0m
                      replace g1m := s1023_z 1 _ (by decide) rfl g1m
                      replace g2m := s1023_z 2 _ (by decide) rfl g2m
                      replace g4m := s1023_z 4 _ (by decide) rfl g4m
                      clear s1023_z s1024_z
                      replace hm_z := rn_iload_n (am_cur_of (i := (75, 1, .iload_n 2, (0, 0, 0), 0)) (by decide +kernel)) g2m hm_z
                      replace hm_z := rn_iconst (w := 1) (am_cur_of (i := (76, 1, .iconst 1, (0, 0, 0), 0)) (by decide +kernel)) (by decide) hm_z
                      replace hm_z := rn_cmpF (am_cur_of (i := (77, 3, .if_icmp .eq 8, (50, 0, 0), 0)) (by decide +kernel)) (by decide) hm_z
                      replace hm_z := rn_iload_n (am_cur_of (i := (80, 1, .iload_n 2, (0, 0, 0), 0)) (by decide +kernel)) g2m hm_z
                      replace hm_z := rn_iconst (w := 2) (am_cur_of (i := (81, 1, .iconst 2, (0, 0, 0), 0)) (by decide +kernel)) (by decide) hm_z
                      replace hm_z := rn_cmpT (am_cur_of (i := (82, 3, .if_icmp .ne 8, (52, 0, 0), 0)) (by decide +kernel)) (by decide) hm_z
                      replace hm_z := rn_iload_n (am_cur_of (i := (90, 1, .iload_n 2, (0, 0, 0), 0)) (by decide +kernel)) g2m hm_z
                      replace hm_z := rn_iconst (w := 3) (am_cur_of (i := (91, 1, .iconst 3, (0, 0, 0), 0)) (by decide +kernel)) (by decide) hm_z
                      replace hm_z := rn_cmpF (am_cur_of (i := (92, 3, .if_icmp .eq 8, (58, 0, 0), 0)) (by decide +kernel)) (by decide) hm_z
                      replace hm_z := rn_iload_n (am_cur_of (i := (95, 1, .iload_n 2, (0, 0, 0), 0)) (by decide +kernel)) g2m hm_z
                      replace hm_z := rn_iconst (w := 5) (am_cur_of (i := (96, 1, .iconst 5, (0, 0, 0), 0)) (by decide +kernel)) (by decide) hm_z
                      replace hm_z := rn_cmpT (am_cur_of (i := (97, 3, .if_icmp .ne 8, (60, 0, 0), 0)) (by decide +kernel)) (by decide) hm_z
                      replace hm_z := rn_bipush (w := 99) (am_cur_of (i := (105, 2, .bipush 99, (0, 0, 0), 0)) (by decide +kernel)) (by decide) hm_z
                      replace hm_z := rn_istore (am_cur_of (i := (107, 2, .istore 4, (0, 0, 0), 0)) (by decide +kernel)) hm_z
                      obtain ⟨_, s1025_z, s1026_z, g4m, hm_z⟩ := hm_z
                      replace g0m := s1025_z 0 _ (by decide) rfl g0m
                      replace g1m := s1025_z 1 _ (by decide) rfl g1m
                      replace g2m := s1025_z 2 _ (by decide) rfl g2m
                      replace g3m := s1025_z 3 _ (by decide) rfl g3m
                      clear s1025_z s1026_z
                      replace hm_z := rn_aload_n (am_cur_of (i := (109, 1, .aload_n 0, (0, 0, 0), 0)) (by decide +kernel)) g0m hm_z
                      replace hm_z := rn_iload_n (am_cur_of (i := (110, 1, .iload_n 3, (0, 0, 0), 0)) (by decide +kernel)) g3m hm_z
                      replace hm_z := rn_iload (am_cur_of (i := (111, 2, .iload 4, (0, 0, 0), 0)) (by decide +kernel)) g4m hm_z
                      replace hm_z := rn_callV (M' := am_m161) (o := 164) (ar := [.int 99, .int 0]) (rest := []) (L := lv_args 0 [.ref 164, .int 0, .int 99]) (am_cur_of (i := (113, 3, .invokevirtual 197, (161, 1677, 3), 0)) (by decide +kernel)) rfl rfl rfl rfl hm_z
                      obtain ⟨r1027_z, h1028_z, q1029_z, hm_z⟩ := hm_z
                      have R' : rq T S x22_z p22_z 2 (am_up h1005_z 21 4 (.int v22_z)) (am_up h1015_z 170 45 (.int v22_z)) := ⟨⟨c1_z, c2_z, c3_z, c4_z, c5_z, c6_z, fun k hk_z => c7_z k hk_z, fun k hk_z => c8_z k hk_z⟩, ⟨m2_z, m3_z, m4_z, m5_z, m6_z, fun k hk_z => m7_z k hk_z, fun k hk_z => m8_z k hk_z⟩, R3, R4, R5, R6, R7, R8, R9, R10⟩
                      have A' : rp 2 (am_up h1005_z 21 4 (.int v22_z)) (am_up h1015_z 170 45 (.int v22_z)) := ⟨⟨a1_z, a2_z, a3_z, a4_z, a5_z, a6_z⟩, ⟨nb1_z, nb2_z, nb3_z⟩, ⟨nt1_z, nt2_z, nt3_z⟩, ⟨nl1_z, nl2_z, nl3_z⟩, ⟨nr1_z, nr2_z, nr3_z⟩, ⟨nk1_z, nk2_z, nk3_z⟩, ⟨(fun hb_z k hk_z => by match k, hk_z with | 0, _ => exact AC0 hb_z 0 (by decide) | 1, _ => exact AC0 hb_z 1 (by decide) | 2, _ => exact AC0 hb_z 2 (by decide) | 3, _ => exact AC0 hb_z 3 (by decide) | 4, _ => exact AC0 hb_z 4 (by decide) | 5, _ => exact AC0 hb_z 5 (by decide) | 6, _ => exact AC0 hb_z 6 (by decide) | 7, _ => exact AC0 hb_z 7 (by decide)), (fun hb_z k hk_z => by match k, hk_z with | 0, _ => exact AC1 hb_z 0 (by decide) | 1, _ => exact AC1 hb_z 1 (by decide) | 2, _ => exact AC1 hb_z 2 (by decide) | 3, _ => exact AC1 hb_z 3 (by decide) | 4, _ => exact AC1 hb_z 4 (by decide) | 5, _ => exact AC1 hb_z 5 (by decide) | 6, _ => exact AC1 hb_z 6 (by decide) | 7, _ => exact AC1 hb_z 7 (by decide)), fun hb_z => absurd hb_z (by rw [show rg_v (am_up h1005_z 21 4 (.int v22_z)) 2 2 = 2 from ecb]; decide), fun hb_z => absurd hb_z (by rw [show rg_v (am_up h1005_z 21 4 (.int v22_z)) 2 2 = 2 from ecb]; decide)⟩, fun t ht => AD t ht, fun t ht => AE t ht, fun t ht => AG t ht⟩
                      have B' : rp_t (am_up h1005_z 21 4 (.int v22_z)) (am_up h1015_z 170 45 (.int v22_z)) := by
                        obtain ⟨b0_z, b1_z, b2_z, b3_z, b4_z, b5_z, b6_z, t, o0_z, o1_z, o2_z, o3_z, o4_z, o5_z, o6_z⟩ := B
                        exact ⟨b0_z, b1_z, b2_z, b3_z, b4_z, b5_z, b6_z, t, o0_z, o1_z, o2_z, o3_z, o4_z, o5_z, o6_z⟩
                      rcases pr_num R' (by decide) (by decide) q1019_z q1029_z with ⟨v23_z, x23_z, p23_z, rfl, rfl, lo23_z, hi23_z, R, le23_z, got, X, Y, t7_z, t167_z⟩ | ⟨rfl, F⟩
                      · replace A := rp_x (by decide) A' X Y
                        replace B := rp_tk B' t7_z t167_z Y
                        clear A' B' R'
                        replace le23_z : x.toInt ≤ p23_z.toInt := Int.le_trans (Int.le_trans le22_z R8) le23_z
                        replace ecb : rg_v h1018_z 2 2 = 2 := (rx_v X (o := 2) (k := 2) (by decide)).trans ecb
                        replace ect : rg_v h1018_z 2 4 = ct := (rx_v X (o := 2) (k := 4) (by decide)).trans ect
                        replace ecl : rg_v h1018_z 2 9 = cl := (rx_v X (o := 2) (k := 9) (by decide)).trans ecl
                        replace ecr : rg_v h1018_z 2 12 = cr := (rx_v X (o := 2) (k := 12) (by decide)).trans ecr
                        replace E0 : rg_v h1018_z 21 0 = rg_v h1028_z 169 6 := (rx_v X (o := 21) (k := 0) (by decide)).trans (E0.trans (rx_w Y (o := 169) (k := 6) (by omega) (by decide)).symm)
                        replace E1 : rg_v h1018_z 21 1 = rg_v h1028_z 170 42 := (rx_v X (o := 21) (k := 1) (by decide)).trans (E1.trans (rx_w Y (o := 170) (k := 42) (by omega) (by decide)).symm)
                        replace E2 : rg_v h1018_z 21 2 = rg_v h1028_z 170 43 := (rx_v X (o := 21) (k := 2) (by decide)).trans (E2.trans (rx_w Y (o := 170) (k := 43) (by omega) (by decide)).symm)
                        replace E3 : rg_v h1018_z 21 3 = rg_v h1028_z 170 44 := (rx_v X (o := 21) (k := 3) (by decide)).trans (E3.trans (rx_w Y (o := 170) (k := 44) (by omega) (by decide)).symm)
                        have E4 : rg_v h1018_z 21 4 = rg_v h1028_z 170 45 := (rx_v X (o := 21) (k := 4) (by decide)).trans (Eq.trans (rfl) (rx_w Y (o := 170) (k := 45) (by omega) (by decide)).symm)
                        replace hm_z : rn _ _ _ _ [.int 1] _ _ _ := hm_z
                        replace hc_z : rn _ _ _ _ [.int v23_z, .ref 21] _ _ _ := hc_z
                        clear a1_z a2_z a3_z a4_z a5_z a6_z nb1_z nb2_z nb3_z nt1_z nt2_z nt3_z nl1_z nl2_z nl3_z nr1_z nr2_z nr3_z nk1_z nk2_z nk3_z AC0 AC1 AC2 AC3 AD AE AG c1_z c2_z c3_z c4_z c5_z c6_z c7_z c8_z m2_z m3_z m4_z m5_z m6_z m7_z m8_z R3 R4 R5 R6 R7 R8 R9 R10
                        obtain ⟨⟨⟨a1_z, a2_z, a3_z, a4_z, a5_z, a6_z⟩, ⟨nb1_z, nb2_z, nb3_z⟩, ⟨nt1_z, nt2_z, nt3_z⟩, ⟨nl1_z, nl2_z, nl3_z⟩, ⟨nr1_z, nr2_z, nr3_z⟩, ⟨nk1_z, nk2_z, nk3_z⟩, ⟨AC0, AC1, AC2, AC3⟩, AD, AE, AG⟩, ⟨⟨c1_z, c2_z, c3_z, c4_z, c5_z, c6_z, c7_z, c8_z⟩, ⟨m2_z, m3_z, m4_z, m5_z, m6_z, m7_z, m8_z⟩, R3, R4, R5, R6, R7, R8, R9, R10⟩⟩ := (⟨A, R⟩ : rp 2 h1018_z h1028_z ∧ rq T S x23_z p23_z 2 h1018_z h1028_z)
                        replace hc_z := rn_put (am_cur_of (i := (124, 3, .putfield 187, (3, 5, 218), 0)) (by decide +kernel)) (by decide +kernel) hc_z
                        replace hc_z := rn_aload_n (am_cur_of (i := (127, 1, .aload_n 1, (0, 0, 0), 0)) (by decide +kernel)) g1_z hc_z
                        replace hc_z := rn_aload_n (am_cur_of (i := (128, 1, .aload_n 0, (0, 0, 0), 0)) (by decide +kernel)) g0_z hc_z
                        replace hc_z := rn_iconst (w := 0) (am_cur_of (i := (129, 1, .iconst 0, (0, 0, 0), 0)) (by decide +kernel)) (by decide) hc_z
                        replace hc_z := rn_bipush (w := 9) (am_cur_of (i := (130, 2, .bipush 9, (0, 0, 0), 0)) (by decide +kernel)) (by decide) hc_z
                        replace hc_z := rn_callV (M' := am_m30) (o := 44) (ar := [.int 9, .int 0]) (rest := [.ref 21]) (L := lv_args 0 [.ref 44, .int 0, .int 9]) (am_cur_of (i := (132, 3, .invokevirtual 142, (30, 773, 3), 0)) (by decide +kernel)) rfl rfl rfl rfl hc_z
                        obtain ⟨r1030_z, h1031_z, q1032_z, hc_z⟩ := hc_z
                        replace hm_z := rn_ifT (am_cur_of (i := (116, 3, .ifCond .ne 5, (69, 0, 0), 0)) (by decide +kernel)) (by decide) hm_z
                        replace hm_z := rn_aload_n (am_cur_of (i := (121, 1, .aload_n 0, (0, 0, 0), 0)) (by decide +kernel)) g0m hm_z
                        replace hm_z := rn_getR (x := 170) (am_cur_of (i := (122, 3, .getfield 30, (12, 25, 1409), 0)) (by decide +kernel)) (by decide +kernel) hm_z
                        replace hm_z := rn_iload_n (am_cur_of (i := (125, 1, .iload_n 1, (0, 0, 0), 0)) (by decide +kernel)) g1m hm_z
                        replace hm_z := rn_iload_n (am_cur_of (i := (126, 1, .iload_n 2, (0, 0, 0), 0)) (by decide +kernel)) g2m hm_z
                        replace hm_z := rn_iadd (w := 46) (am_cur_of (i := (127, 1, .iadd, (0, 0, 0), 0)) (by decide +kernel)) (by decide) hm_z
                        replace hm_z := rn_aload_n (am_cur_of (i := (128, 1, .aload_n 0, (0, 0, 0), 0)) (by decide +kernel)) g0m hm_z
                        replace hm_z := rn_getI (v := v23_z) (am_cur_of (i := (129, 3, .getfield 188, (12, 11, 1395), 0)) (by decide +kernel)) (by decide +kernel) got hm_z
                        replace hm_z := rn_iastore (N := 56) (q := 46) (am_cur_of (i := (132, 1, .iastore, (0, 0, 0), 0)) (by decide +kernel)) (by decide +kernel) rfl hm_z
                        obtain ⟨p1033_z, hm_z⟩ := hm_z
                        replace hm_z := rn_iinc (w := 5) (am_cur_of (i := (133, 3, .iinc 2 1, (0, 0, 0), 0)) (by decide +kernel)) g2m (by decide) hm_z
                        obtain ⟨_, s1034_z, s1035_z, g2m, hm_z⟩ := hm_z
                        replace g0m := s1034_z 0 _ (by decide) rfl g0m
                        replace g1m := s1034_z 1 _ (by decide) rfl g1m
                        replace g3m := s1034_z 3 _ (by decide) rfl g3m
                        replace g4m := s1034_z 4 _ (by decide) rfl g4m
                        clear s1034_z s1035_z
                        replace hm_z := rn_goto (am_cur_of (i := (136, 3, .goto (-87), (29, 0, 0), 0)) (by decide +kernel)) hm_z
                        replace hm_z := rn_iload_n (am_cur_of (i := (49, 1, .iload_n 2, (0, 0, 0), 0)) (by decide +kernel)) g2m hm_z
                        replace hm_z := rn_bipush (w := 7) (am_cur_of (i := (50, 2, .bipush 7, (0, 0, 0), 0)) (by decide +kernel)) (by decide) hm_z
                        replace hm_z := rn_cmpF (am_cur_of (i := (52, 3, .if_icmp .ge 87, (79, 0, 0), 0)) (by decide +kernel)) (by decide) hm_z
                        replace hm_z := rn_iload_n (am_cur_of (i := (55, 1, .iload_n 2, (0, 0, 0), 0)) (by decide +kernel)) g2m hm_z
                        replace hm_z := rn_ifF (am_cur_of (i := (56, 3, .ifCond .eq 13, (40, 0, 0), 0)) (by decide +kernel)) (by decide) hm_z
                        replace hm_z := rn_iload_n (am_cur_of (i := (59, 1, .iload_n 2, (0, 0, 0), 0)) (by decide +kernel)) g2m hm_z
                        replace hm_z := rn_iconst (w := 2) (am_cur_of (i := (60, 1, .iconst 2, (0, 0, 0), 0)) (by decide +kernel)) (by decide) hm_z
                        replace hm_z := rn_cmpF (am_cur_of (i := (61, 3, .if_icmp .eq 8, (40, 0, 0), 0)) (by decide +kernel)) (by decide) hm_z
                        replace hm_z := rn_iload_n (am_cur_of (i := (64, 1, .iload_n 2, (0, 0, 0), 0)) (by decide +kernel)) g2m hm_z
                        replace hm_z := rn_iconst (w := 3) (am_cur_of (i := (65, 1, .iconst 3, (0, 0, 0), 0)) (by decide +kernel)) (by decide) hm_z
                        replace hm_z := rn_cmpT (am_cur_of (i := (66, 3, .if_icmp .ne 7, (42, 0, 0), 0)) (by decide +kernel)) (by decide) hm_z
                        replace hm_z := rn_iconst (w := 0) (am_cur_of (i := (73, 1, .iconst 0, (0, 0, 0), 0)) (by decide +kernel)) (by decide) hm_z
                        replace hm_z := rn_istore_n (am_cur_of (i := (74, 1, .istore_n 3, (0, 0, 0), 0)) (by decide +kernel)) hm_z
                        obtain ⟨_, s1036_z, s1037_z, g3m, hm_z⟩ := hm_z
                        replace g0m := s1036_z 0 _ (by decide) rfl g0m
                        replace g1m := s1036_z 1 _ (by decide) rfl g1m
                        replace g2m := s1036_z 2 _ (by decide) rfl g2m
                        replace g4m := s1036_z 4 _ (by decide) rfl g4m
                        clear s1036_z s1037_z
                        replace hm_z := rn_iload_n (am_cur_of (i := (75, 1, .iload_n 2, (0, 0, 0), 0)) (by decide +kernel)) g2m hm_z
                        replace hm_z := rn_iconst (w := 1) (am_cur_of (i := (76, 1, .iconst 1, (0, 0, 0), 0)) (by decide +kernel)) (by decide) hm_z
                        replace hm_z := rn_cmpF (am_cur_of (i := (77, 3, .if_icmp .eq 8, (50, 0, 0), 0)) (by decide +kernel)) (by decide) hm_z
                        replace hm_z := rn_iload_n (am_cur_of (i := (80, 1, .iload_n 2, (0, 0, 0), 0)) (by decide +kernel)) g2m hm_z
                        replace hm_z := rn_iconst (w := 2) (am_cur_of (i := (81, 1, .iconst 2, (0, 0, 0), 0)) (by decide +kernel)) (by decide) hm_z
                        replace hm_z := rn_cmpT (am_cur_of (i := (82, 3, .if_icmp .ne 8, (52, 0, 0), 0)) (by decide +kernel)) (by decide) hm_z
                        replace hm_z := rn_iload_n (am_cur_of (i := (90, 1, .iload_n 2, (0, 0, 0), 0)) (by decide +kernel)) g2m hm_z
                        replace hm_z := rn_iconst (w := 3) (am_cur_of (i := (91, 1, .iconst 3, (0, 0, 0), 0)) (by decide +kernel)) (by decide) hm_z
                        replace hm_z := rn_cmpF (am_cur_of (i := (92, 3, .if_icmp .eq 8, (58, 0, 0), 0)) (by decide +kernel)) (by decide) hm_z
                        replace hm_z := rn_iload_n (am_cur_of (i := (95, 1, .iload_n 2, (0, 0, 0), 0)) (by decide +kernel)) g2m hm_z
                        replace hm_z := rn_iconst (w := 5) (am_cur_of (i := (96, 1, .iconst 5, (0, 0, 0), 0)) (by decide +kernel)) (by decide) hm_z
                        replace hm_z := rn_cmpF (am_cur_of (i := (97, 3, .if_icmp .ne 8, (60, 0, 0), 0)) (by decide +kernel)) (by decide) hm_z
                        replace hm_z := rn_bipush (w := 9) (am_cur_of (i := (100, 2, .bipush 9, (0, 0, 0), 0)) (by decide +kernel)) (by decide) hm_z
                        replace hm_z := rn_goto (am_cur_of (i := (102, 3, .goto 5, (61, 0, 0), 0)) (by decide +kernel)) hm_z
                        replace hm_z := rn_istore (am_cur_of (i := (107, 2, .istore 4, (0, 0, 0), 0)) (by decide +kernel)) hm_z
                        obtain ⟨_, s1038_z, s1039_z, g4m, hm_z⟩ := hm_z
                        replace g0m := s1038_z 0 _ (by decide) rfl g0m
                        replace g1m := s1038_z 1 _ (by decide) rfl g1m
                        replace g2m := s1038_z 2 _ (by decide) rfl g2m
                        replace g3m := s1038_z 3 _ (by decide) rfl g3m
                        clear s1038_z s1039_z
                        replace hm_z := rn_aload_n (am_cur_of (i := (109, 1, .aload_n 0, (0, 0, 0), 0)) (by decide +kernel)) g0m hm_z
                        replace hm_z := rn_iload_n (am_cur_of (i := (110, 1, .iload_n 3, (0, 0, 0), 0)) (by decide +kernel)) g3m hm_z
                        replace hm_z := rn_iload (am_cur_of (i := (111, 2, .iload 4, (0, 0, 0), 0)) (by decide +kernel)) g4m hm_z
                        replace hm_z := rn_callV (M' := am_m161) (o := 164) (ar := [.int 9, .int 0]) (rest := []) (L := lv_args 0 [.ref 164, .int 0, .int 9]) (am_cur_of (i := (113, 3, .invokevirtual 197, (161, 1677, 3), 0)) (by decide +kernel)) rfl rfl rfl rfl hm_z
                        obtain ⟨r1040_z, h1041_z, q1042_z, hm_z⟩ := hm_z
                        have R' : rq T S x23_z p23_z 2 (am_up h1018_z 21 5 (.int v23_z)) (am_up h1028_z 170 46 (.int v23_z)) := ⟨⟨c1_z, c2_z, c3_z, c4_z, c5_z, c6_z, fun k hk_z => c7_z k hk_z, fun k hk_z => c8_z k hk_z⟩, ⟨m2_z, m3_z, m4_z, m5_z, m6_z, fun k hk_z => m7_z k hk_z, fun k hk_z => m8_z k hk_z⟩, R3, R4, R5, R6, R7, R8, R9, R10⟩
                        have A' : rp 2 (am_up h1018_z 21 5 (.int v23_z)) (am_up h1028_z 170 46 (.int v23_z)) := ⟨⟨a1_z, a2_z, a3_z, a4_z, a5_z, a6_z⟩, ⟨nb1_z, nb2_z, nb3_z⟩, ⟨nt1_z, nt2_z, nt3_z⟩, ⟨nl1_z, nl2_z, nl3_z⟩, ⟨nr1_z, nr2_z, nr3_z⟩, ⟨nk1_z, nk2_z, nk3_z⟩, ⟨(fun hb_z k hk_z => by match k, hk_z with | 0, _ => exact AC0 hb_z 0 (by decide) | 1, _ => exact AC0 hb_z 1 (by decide) | 2, _ => exact AC0 hb_z 2 (by decide) | 3, _ => exact AC0 hb_z 3 (by decide) | 4, _ => exact AC0 hb_z 4 (by decide) | 5, _ => exact AC0 hb_z 5 (by decide) | 6, _ => exact AC0 hb_z 6 (by decide) | 7, _ => exact AC0 hb_z 7 (by decide)), (fun hb_z k hk_z => by match k, hk_z with | 0, _ => exact AC1 hb_z 0 (by decide) | 1, _ => exact AC1 hb_z 1 (by decide) | 2, _ => exact AC1 hb_z 2 (by decide) | 3, _ => exact AC1 hb_z 3 (by decide) | 4, _ => exact AC1 hb_z 4 (by decide) | 5, _ => exact AC1 hb_z 5 (by decide) | 6, _ => exact AC1 hb_z 6 (by decide) | 7, _ => exact AC1 hb_z 7 (by decide)), fun hb_z => absurd hb_z (by rw [show rg_v (am_up h1018_z 21 5 (.int v23_z)) 2 2 = 2 from ecb]; decide), fun hb_z => absurd hb_z (by rw [show rg_v (am_up h1018_z 21 5 (.int v23_z)) 2 2 = 2 from ecb]; decide)⟩, fun t ht => AD t ht, fun t ht => AE t ht, fun t ht => AG t ht⟩
                        have B' : rp_t (am_up h1018_z 21 5 (.int v23_z)) (am_up h1028_z 170 46 (.int v23_z)) := by
                          obtain ⟨b0_z, b1_z, b2_z, b3_z, b4_z, b5_z, b6_z, t, o0_z, o1_z, o2_z, o3_z, o4_z, o5_z, o6_z⟩ := B
                          exact ⟨b0_z, b1_z, b2_z, b3_z, b4_z, b5_z, b6_z, t, o0_z, o1_z, o2_z, o3_z, o4_z, o5_z, o6_z⟩
                        rcases pr_num R' (by decide) (by decide) q1032_z q1042_z with ⟨v24_z, x24_z, p24_z, rfl, rfl, lo24_z, hi24_z, R, le24_z, got, X, Y, t7_z, t167_z⟩ | ⟨rfl, F⟩
                        · replace A := rp_x (by decide) A' X Y
                          replace B := rp_tk B' t7_z t167_z Y
                          clear A' B' R'
                          replace le24_z : x.toInt ≤ p24_z.toInt := Int.le_trans (Int.le_trans le23_z R8) le24_z
                          replace ecb : rg_v h1031_z 2 2 = 2 := (rx_v X (o := 2) (k := 2) (by decide)).trans ecb
                          replace ect : rg_v h1031_z 2 4 = ct := (rx_v X (o := 2) (k := 4) (by decide)).trans ect
                          replace ecl : rg_v h1031_z 2 9 = cl := (rx_v X (o := 2) (k := 9) (by decide)).trans ecl
                          replace ecr : rg_v h1031_z 2 12 = cr := (rx_v X (o := 2) (k := 12) (by decide)).trans ecr
                          replace E0 : rg_v h1031_z 21 0 = rg_v h1041_z 169 6 := (rx_v X (o := 21) (k := 0) (by decide)).trans (E0.trans (rx_w Y (o := 169) (k := 6) (by omega) (by decide)).symm)
                          replace E1 : rg_v h1031_z 21 1 = rg_v h1041_z 170 42 := (rx_v X (o := 21) (k := 1) (by decide)).trans (E1.trans (rx_w Y (o := 170) (k := 42) (by omega) (by decide)).symm)
                          replace E2 : rg_v h1031_z 21 2 = rg_v h1041_z 170 43 := (rx_v X (o := 21) (k := 2) (by decide)).trans (E2.trans (rx_w Y (o := 170) (k := 43) (by omega) (by decide)).symm)
                          replace E3 : rg_v h1031_z 21 3 = rg_v h1041_z 170 44 := (rx_v X (o := 21) (k := 3) (by decide)).trans (E3.trans (rx_w Y (o := 170) (k := 44) (by omega) (by decide)).symm)
                          replace E4 : rg_v h1031_z 21 4 = rg_v h1041_z 170 45 := (rx_v X (o := 21) (k := 4) (by decide)).trans (E4.trans (rx_w Y (o := 170) (k := 45) (by omega) (by decide)).symm)
                          have E5 : rg_v h1031_z 21 5 = rg_v h1041_z 170 46 := (rx_v X (o := 21) (k := 5) (by decide)).trans (Eq.trans (rfl) (rx_w Y (o := 170) (k := 46) (by omega) (by decide)).symm)
                          replace hm_z : rn _ _ _ _ [.int 1] _ _ _ := hm_z
                          replace hc_z : rn _ _ _ _ [.int v24_z, .ref 21] _ _ _ := hc_z
                          clear a1_z a2_z a3_z a4_z a5_z a6_z nb1_z nb2_z nb3_z nt1_z nt2_z nt3_z nl1_z nl2_z nl3_z nr1_z nr2_z nr3_z nk1_z nk2_z nk3_z AC0 AC1 AC2 AC3 AD AE AG c1_z c2_z c3_z c4_z c5_z c6_z c7_z c8_z m2_z m3_z m4_z m5_z m6_z m7_z m8_z R3 R4 R5 R6 R7 R8 R9 R10
                          obtain ⟨⟨⟨a1_z, a2_z, a3_z, a4_z, a5_z, a6_z⟩, ⟨nb1_z, nb2_z, nb3_z⟩, ⟨nt1_z, nt2_z, nt3_z⟩, ⟨nl1_z, nl2_z, nl3_z⟩, ⟨nr1_z, nr2_z, nr3_z⟩, ⟨nk1_z, nk2_z, nk3_z⟩, ⟨AC0, AC1, AC2, AC3⟩, AD, AE, AG⟩, ⟨⟨c1_z, c2_z, c3_z, c4_z, c5_z, c6_z, c7_z, c8_z⟩, ⟨m2_z, m3_z, m4_z, m5_z, m6_z, m7_z, m8_z⟩, R3, R4, R5, R6, R7, R8, R9, R10⟩⟩ := (⟨A, R⟩ : rp 2 h1031_z h1041_z ∧ rq T S x24_z p24_z 2 h1031_z h1041_z)
                          replace hc_z := rn_put (am_cur_of (i := (135, 3, .putfield 190, (3, 6, 220), 0)) (by decide +kernel)) (by decide +kernel) hc_z
                          replace hc_z := rn_aload_n (am_cur_of (i := (138, 1, .aload_n 1, (0, 0, 0), 0)) (by decide +kernel)) g1_z hc_z
                          replace hc_z := rn_aload_n (am_cur_of (i := (139, 1, .aload_n 0, (0, 0, 0), 0)) (by decide +kernel)) g0_z hc_z
                          replace hc_z := rn_iconst (w := 0) (am_cur_of (i := (140, 1, .iconst 0, (0, 0, 0), 0)) (by decide +kernel)) (by decide) hc_z
                          replace hc_z := rn_bipush (w := 99) (am_cur_of (i := (141, 2, .bipush 99, (0, 0, 0), 0)) (by decide +kernel)) (by decide) hc_z
                          replace hc_z := rn_callV (M' := am_m30) (o := 44) (ar := [.int 99, .int 0]) (rest := [.ref 21]) (L := lv_args 0 [.ref 44, .int 0, .int 99]) (am_cur_of (i := (143, 3, .invokevirtual 142, (30, 773, 3), 0)) (by decide +kernel)) rfl rfl rfl rfl hc_z
                          obtain ⟨r1043_z, h1044_z, q1045_z, hc_z⟩ := hc_z
                          replace hm_z := rn_ifT (am_cur_of (i := (116, 3, .ifCond .ne 5, (69, 0, 0), 0)) (by decide +kernel)) (by decide) hm_z
                          replace hm_z := rn_aload_n (am_cur_of (i := (121, 1, .aload_n 0, (0, 0, 0), 0)) (by decide +kernel)) g0m hm_z
                          replace hm_z := rn_getR (x := 170) (am_cur_of (i := (122, 3, .getfield 30, (12, 25, 1409), 0)) (by decide +kernel)) (by decide +kernel) hm_z
                          replace hm_z := rn_iload_n (am_cur_of (i := (125, 1, .iload_n 1, (0, 0, 0), 0)) (by decide +kernel)) g1m hm_z
                          replace hm_z := rn_iload_n (am_cur_of (i := (126, 1, .iload_n 2, (0, 0, 0), 0)) (by decide +kernel)) g2m hm_z
                          replace hm_z := rn_iadd (w := 47) (am_cur_of (i := (127, 1, .iadd, (0, 0, 0), 0)) (by decide +kernel)) (by decide) hm_z
                          replace hm_z := rn_aload_n (am_cur_of (i := (128, 1, .aload_n 0, (0, 0, 0), 0)) (by decide +kernel)) g0m hm_z
                          replace hm_z := rn_getI (v := v24_z) (am_cur_of (i := (129, 3, .getfield 188, (12, 11, 1395), 0)) (by decide +kernel)) (by decide +kernel) got hm_z
                          replace hm_z := rn_iastore (N := 56) (q := 47) (am_cur_of (i := (132, 1, .iastore, (0, 0, 0), 0)) (by decide +kernel)) (by decide +kernel) rfl hm_z
                          obtain ⟨p1046_z, hm_z⟩ := hm_z
                          replace hm_z := rn_iinc (w := 6) (am_cur_of (i := (133, 3, .iinc 2 1, (0, 0, 0), 0)) (by decide +kernel)) g2m (by decide) hm_z
                          obtain ⟨_, s1047_z, s1048_z, g2m, hm_z⟩ := hm_z
                          replace g0m := s1047_z 0 _ (by decide) rfl g0m
                          replace g1m := s1047_z 1 _ (by decide) rfl g1m
                          replace g3m := s1047_z 3 _ (by decide) rfl g3m
                          replace g4m := s1047_z 4 _ (by decide) rfl g4m
                          clear s1047_z s1048_z
                          replace hm_z := rn_goto (am_cur_of (i := (136, 3, .goto (-87), (29, 0, 0), 0)) (by decide +kernel)) hm_z
                          replace hm_z := rn_iload_n (am_cur_of (i := (49, 1, .iload_n 2, (0, 0, 0), 0)) (by decide +kernel)) g2m hm_z
                          replace hm_z := rn_bipush (w := 7) (am_cur_of (i := (50, 2, .bipush 7, (0, 0, 0), 0)) (by decide +kernel)) (by decide) hm_z
                          replace hm_z := rn_cmpF (am_cur_of (i := (52, 3, .if_icmp .ge 87, (79, 0, 0), 0)) (by decide +kernel)) (by decide) hm_z
                          replace hm_z := rn_iload_n (am_cur_of (i := (55, 1, .iload_n 2, (0, 0, 0), 0)) (by decide +kernel)) g2m hm_z
                          replace hm_z := rn_ifF (am_cur_of (i := (56, 3, .ifCond .eq 13, (40, 0, 0), 0)) (by decide +kernel)) (by decide) hm_z
                          replace hm_z := rn_iload_n (am_cur_of (i := (59, 1, .iload_n 2, (0, 0, 0), 0)) (by decide +kernel)) g2m hm_z
                          replace hm_z := rn_iconst (w := 2) (am_cur_of (i := (60, 1, .iconst 2, (0, 0, 0), 0)) (by decide +kernel)) (by decide) hm_z
                          replace hm_z := rn_cmpF (am_cur_of (i := (61, 3, .if_icmp .eq 8, (40, 0, 0), 0)) (by decide +kernel)) (by decide) hm_z
                          replace hm_z := rn_iload_n (am_cur_of (i := (64, 1, .iload_n 2, (0, 0, 0), 0)) (by decide +kernel)) g2m hm_z
                          replace hm_z := rn_iconst (w := 3) (am_cur_of (i := (65, 1, .iconst 3, (0, 0, 0), 0)) (by decide +kernel)) (by decide) hm_z
                          replace hm_z := rn_cmpT (am_cur_of (i := (66, 3, .if_icmp .ne 7, (42, 0, 0), 0)) (by decide +kernel)) (by decide) hm_z
                          replace hm_z := rn_iconst (w := 0) (am_cur_of (i := (73, 1, .iconst 0, (0, 0, 0), 0)) (by decide +kernel)) (by decide) hm_z
                          replace hm_z := rn_istore_n (am_cur_of (i := (74, 1, .istore_n 3, (0, 0, 0), 0)) (by decide +kernel)) hm_z
                          obtain ⟨_, s1049_z, s1050_z, g3m, hm_z⟩ := hm_z
                          replace g0m := s1049_z 0 _ (by decide) rfl g0m
                          replace g1m := s1049_z 1 _ (by decide) rfl g1m
                          replace g2m := s1049_z 2 _ (by decide) rfl g2m
                          replace g4m := s1049_z 4 _ (by decide) rfl g4m
                          clear s1049_z s1050_z
                          replace hm_z := rn_iload_n (am_cur_of (i := (75, 1, .iload_n 2, (0, 0, 0), 0)) (by decide +kernel)) g2m hm_z
                          replace hm_z := rn_iconst (w := 1) (am_cur_of (i := (76, 1, .iconst 1, (0, 0, 0), 0)) (by decide +kernel)) (by decide) hm_z
                          replace hm_z := rn_cmpF (am_cur_of (i := (77, 3, .if_icmp .eq 8, (50, 0, 0), 0)) (by decide +kernel)) (by decide) hm_z
                          replace hm_z := rn_iload_n (am_cur_of (i := (80, 1, .iload_n 2, (0, 0, 0), 0)) (by decide +kernel)) g2m hm_z
                          replace hm_z := rn_iconst (w := 2) (am_cur_of (i := (81, 1, .iconst 2, (0, 0, 0), 0)) (by decide +kernel)) (by decide) hm_z
                          replace hm_z := rn_cmpT (am_cur_of (i := (82, 3, .if_icmp .ne 8, (52, 0, 0), 0)) (by decide +kernel)) (by decide) hm_z
                          replace hm_z := rn_iload_n (am_cur_of (i := (90, 1, .iload_n 2, (0, 0, 0), 0)) (by decide +kernel)) g2m hm_z
                          replace hm_z := rn_iconst (w := 3) (am_cur_of (i := (91, 1, .iconst 3, (0, 0, 0), 0)) (by decide +kernel)) (by decide) hm_z
                          replace hm_z := rn_cmpF (am_cur_of (i := (92, 3, .if_icmp .eq 8, (58, 0, 0), 0)) (by decide +kernel)) (by decide) hm_z
                          replace hm_z := rn_iload_n (am_cur_of (i := (95, 1, .iload_n 2, (0, 0, 0), 0)) (by decide +kernel)) g2m hm_z
                          replace hm_z := rn_iconst (w := 5) (am_cur_of (i := (96, 1, .iconst 5, (0, 0, 0), 0)) (by decide +kernel)) (by decide) hm_z
                          replace hm_z := rn_cmpT (am_cur_of (i := (97, 3, .if_icmp .ne 8, (60, 0, 0), 0)) (by decide +kernel)) (by decide) hm_z
                          replace hm_z := rn_bipush (w := 99) (am_cur_of (i := (105, 2, .bipush 99, (0, 0, 0), 0)) (by decide +kernel)) (by decide) hm_z
                          replace hm_z := rn_istore (am_cur_of (i := (107, 2, .istore 4, (0, 0, 0), 0)) (by decide +kernel)) hm_z
                          obtain ⟨_, s1051_z, s1052_z, g4m, hm_z⟩ := hm_z
                          replace g0m := s1051_z 0 _ (by decide) rfl g0m
                          replace g1m := s1051_z 1 _ (by decide) rfl g1m
                          replace g2m := s1051_z 2 _ (by decide) rfl g2m
                          replace g3m := s1051_z 3 _ (by decide) rfl g3m
                          clear s1051_z s1052_z
                          replace hm_z := rn_aload_n (am_cur_of (i := (109, 1, .aload_n 0, (0, 0, 0), 0)) (by decide +kernel)) g0m hm_z
                          replace hm_z := rn_iload_n (am_cur_of (i := (110, 1, .iload_n 3, (0, 0, 0), 0)) (by decide +kernel)) g3m hm_z
                          replace hm_z := rn_iload (am_cur_of (i := (111, 2, .iload 4, (0, 0, 0), 0)) (by decide +kernel)) g4m hm_z
                          replace hm_z := rn_callV (M' := am_m161) (o := 164) (ar := [.int 99, .int 0]) (rest := []) (L := lv_args 0 [.ref 164, .int 0, .int 99]) (am_cur_of (i := (113, 3, .invokevirtual 197, (161, 1677, 3), 0)) (by decide +kernel)) rfl rfl rfl rfl hm_z
                          obtain ⟨r1053_z, h1054_z, q1055_z, hm_z⟩ := hm_z
                          have R' : rq T S x24_z p24_z 2 (am_up h1031_z 21 6 (.int v24_z)) (am_up h1041_z 170 47 (.int v24_z)) := ⟨⟨c1_z, c2_z, c3_z, c4_z, c5_z, c6_z, fun k hk_z => c7_z k hk_z, fun k hk_z => c8_z k hk_z⟩, ⟨m2_z, m3_z, m4_z, m5_z, m6_z, fun k hk_z => m7_z k hk_z, fun k hk_z => m8_z k hk_z⟩, R3, R4, R5, R6, R7, R8, R9, R10⟩
                          have A' : rp 2 (am_up h1031_z 21 6 (.int v24_z)) (am_up h1041_z 170 47 (.int v24_z)) := ⟨⟨a1_z, a2_z, a3_z, a4_z, a5_z, a6_z⟩, ⟨nb1_z, nb2_z, nb3_z⟩, ⟨nt1_z, nt2_z, nt3_z⟩, ⟨nl1_z, nl2_z, nl3_z⟩, ⟨nr1_z, nr2_z, nr3_z⟩, ⟨nk1_z, nk2_z, nk3_z⟩, ⟨(fun hb_z k hk_z => by match k, hk_z with | 0, _ => exact AC0 hb_z 0 (by decide) | 1, _ => exact AC0 hb_z 1 (by decide) | 2, _ => exact AC0 hb_z 2 (by decide) | 3, _ => exact AC0 hb_z 3 (by decide) | 4, _ => exact AC0 hb_z 4 (by decide) | 5, _ => exact AC0 hb_z 5 (by decide) | 6, _ => exact AC0 hb_z 6 (by decide) | 7, _ => exact AC0 hb_z 7 (by decide)), (fun hb_z k hk_z => by match k, hk_z with | 0, _ => exact AC1 hb_z 0 (by decide) | 1, _ => exact AC1 hb_z 1 (by decide) | 2, _ => exact AC1 hb_z 2 (by decide) | 3, _ => exact AC1 hb_z 3 (by decide) | 4, _ => exact AC1 hb_z 4 (by decide) | 5, _ => exact AC1 hb_z 5 (by decide) | 6, _ => exact AC1 hb_z 6 (by decide) | 7, _ => exact AC1 hb_z 7 (by decide)), fun hb_z => absurd hb_z (by rw [show rg_v (am_up h1031_z 21 6 (.int v24_z)) 2 2 = 2 from ecb]; decide), fun hb_z => absurd hb_z (by rw [show rg_v (am_up h1031_z 21 6 (.int v24_z)) 2 2 = 2 from ecb]; decide)⟩, fun t ht => AD t ht, fun t ht => AE t ht, fun t ht => AG t ht⟩
                          have B' : rp_t (am_up h1031_z 21 6 (.int v24_z)) (am_up h1041_z 170 47 (.int v24_z)) := by
                            obtain ⟨b0_z, b1_z, b2_z, b3_z, b4_z, b5_z, b6_z, t, o0_z, o1_z, o2_z, o3_z, o4_z, o5_z, o6_z⟩ := B
                            exact ⟨b0_z, b1_z, b2_z, b3_z, b4_z, b5_z, b6_z, t, o0_z, o1_z, o2_z, o3_z, o4_z, o5_z, o6_z⟩
                          rcases pr_num R' (by decide) (by decide) q1045_z q1055_z with ⟨v25_z, x25_z, p25_z, rfl, rfl, lo25_z, hi25_z, R, le25_z, got, X, Y, t7_z, t167_z⟩ | ⟨rfl, F⟩
                          · replace A := rp_x (by decide) A' X Y
                            replace B := rp_tk B' t7_z t167_z Y
                            clear A' B' R'
                            replace le25_z : x.toInt ≤ p25_z.toInt := Int.le_trans (Int.le_trans le24_z R8) le25_z
                            replace ecb : rg_v h1044_z 2 2 = 2 := (rx_v X (o := 2) (k := 2) (by decide)).trans ecb
                            replace ect : rg_v h1044_z 2 4 = ct := (rx_v X (o := 2) (k := 4) (by decide)).trans ect
                            replace ecl : rg_v h1044_z 2 9 = cl := (rx_v X (o := 2) (k := 9) (by decide)).trans ecl
                            replace ecr : rg_v h1044_z 2 12 = cr := (rx_v X (o := 2) (k := 12) (by decide)).trans ecr
                            replace E0 : rg_v h1044_z 21 0 = rg_v h1054_z 169 6 := (rx_v X (o := 21) (k := 0) (by decide)).trans (E0.trans (rx_w Y (o := 169) (k := 6) (by omega) (by decide)).symm)
                            replace E1 : rg_v h1044_z 21 1 = rg_v h1054_z 170 42 := (rx_v X (o := 21) (k := 1) (by decide)).trans (E1.trans (rx_w Y (o := 170) (k := 42) (by omega) (by decide)).symm)
                            replace E2 : rg_v h1044_z 21 2 = rg_v h1054_z 170 43 := (rx_v X (o := 21) (k := 2) (by decide)).trans (E2.trans (rx_w Y (o := 170) (k := 43) (by omega) (by decide)).symm)
                            replace E3 : rg_v h1044_z 21 3 = rg_v h1054_z 170 44 := (rx_v X (o := 21) (k := 3) (by decide)).trans (E3.trans (rx_w Y (o := 170) (k := 44) (by omega) (by decide)).symm)
                            replace E4 : rg_v h1044_z 21 4 = rg_v h1054_z 170 45 := (rx_v X (o := 21) (k := 4) (by decide)).trans (E4.trans (rx_w Y (o := 170) (k := 45) (by omega) (by decide)).symm)
                            replace E5 : rg_v h1044_z 21 5 = rg_v h1054_z 170 46 := (rx_v X (o := 21) (k := 5) (by decide)).trans (E5.trans (rx_w Y (o := 170) (k := 46) (by omega) (by decide)).symm)
                            have E6 : rg_v h1044_z 21 6 = rg_v h1054_z 170 47 := (rx_v X (o := 21) (k := 6) (by decide)).trans (Eq.trans (rfl) (rx_w Y (o := 170) (k := 47) (by omega) (by decide)).symm)
                            replace hm_z : rn _ _ _ _ [.int 1] _ _ _ := hm_z
                            replace hc_z : rn _ _ _ _ [.int v25_z, .ref 21] _ _ _ := hc_z
                            clear a1_z a2_z a3_z a4_z a5_z a6_z nb1_z nb2_z nb3_z nt1_z nt2_z nt3_z nl1_z nl2_z nl3_z nr1_z nr2_z nr3_z nk1_z nk2_z nk3_z AC0 AC1 AC2 AC3 AD AE AG c1_z c2_z c3_z c4_z c5_z c6_z c7_z c8_z m2_z m3_z m4_z m5_z m6_z m7_z m8_z R3 R4 R5 R6 R7 R8 R9 R10
                            obtain ⟨⟨⟨a1_z, a2_z, a3_z, a4_z, a5_z, a6_z⟩, ⟨nb1_z, nb2_z, nb3_z⟩, ⟨nt1_z, nt2_z, nt3_z⟩, ⟨nl1_z, nl2_z, nl3_z⟩, ⟨nr1_z, nr2_z, nr3_z⟩, ⟨nk1_z, nk2_z, nk3_z⟩, ⟨AC0, AC1, AC2, AC3⟩, AD, AE, AG⟩, ⟨⟨c1_z, c2_z, c3_z, c4_z, c5_z, c6_z, c7_z, c8_z⟩, ⟨m2_z, m3_z, m4_z, m5_z, m6_z, m7_z, m8_z⟩, R3, R4, R5, R6, R7, R8, R9, R10⟩⟩ := (⟨A, R⟩ : rp 2 h1044_z h1054_z ∧ rq T S x25_z p25_z 2 h1044_z h1054_z)
                            replace hc_z := rn_put (am_cur_of (i := (146, 3, .putfield 193, (3, 7, 221), 0)) (by decide +kernel)) (by decide +kernel) hc_z
                            replace hc_z := rn_aload_n (am_cur_of (i := (149, 1, .aload_n 0, (0, 0, 0), 0)) (by decide +kernel)) g0_z hc_z
                            replace hc_z := rn_getM (x := 2) (am_cur_of (i := (150, 3, .getfield 25, (4, 6, 415), 0)) (by decide +kernel)) (show (am_up h1044_z 21 7 (.int v25_z)) 44 6 = .ref 2 from R3) hc_z
                            replace hc_z := rn_dup (am_cur_of (i := (153, 1, .dup, (0, 0, 0), 0)) (by decide +kernel)) hc_z
                            replace hc_z := rn_getI (v := 2) (am_cur_of (i := (154, 3, .getfield 151, (1, 2, 259), 0)) (by decide +kernel)) (by decide +kernel) (show rg_v (am_up h1044_z 21 7 (.int v25_z)) 2 2 = 2 from ecb) hc_z
                            replace hc_z := rn_iconst (w := 1) (am_cur_of (i := (157, 1, .iconst 1, (0, 0, 0), 0)) (by decide +kernel)) (by decide) hc_z
                            replace hc_z := rn_iadd (w := 3) (am_cur_of (i := (158, 1, .iadd, (0, 0, 0), 0)) (by decide +kernel)) (by decide) hc_z
                            replace hc_z := rn_put (am_cur_of (i := (159, 3, .putfield 151, (1, 2, 259), 0)) (by decide +kernel)) (by decide +kernel) hc_z
                            replace hc_z := rn_vret (am_cur_of (i := (162, 1, .return_, (0, 0, 0), 0)) (by decide +kernel)) hc_z
                            obtain ⟨e1056_z, e1057_z⟩ := hc_z
                            subst e1056_z e1057_z
                            replace hm_z := rn_ifT (am_cur_of (i := (116, 3, .ifCond .ne 5, (69, 0, 0), 0)) (by decide +kernel)) (by decide) hm_z
                            replace hm_z := rn_aload_n (am_cur_of (i := (121, 1, .aload_n 0, (0, 0, 0), 0)) (by decide +kernel)) g0m hm_z
                            replace hm_z := rn_getR (x := 170) (am_cur_of (i := (122, 3, .getfield 30, (12, 25, 1409), 0)) (by decide +kernel)) (by decide +kernel) hm_z
                            replace hm_z := rn_iload_n (am_cur_of (i := (125, 1, .iload_n 1, (0, 0, 0), 0)) (by decide +kernel)) g1m hm_z
                            replace hm_z := rn_iload_n (am_cur_of (i := (126, 1, .iload_n 2, (0, 0, 0), 0)) (by decide +kernel)) g2m hm_z
                            replace hm_z := rn_iadd (w := 48) (am_cur_of (i := (127, 1, .iadd, (0, 0, 0), 0)) (by decide +kernel)) (by decide) hm_z
                            replace hm_z := rn_aload_n (am_cur_of (i := (128, 1, .aload_n 0, (0, 0, 0), 0)) (by decide +kernel)) g0m hm_z
                            replace hm_z := rn_getI (v := v25_z) (am_cur_of (i := (129, 3, .getfield 188, (12, 11, 1395), 0)) (by decide +kernel)) (by decide +kernel) got hm_z
                            replace hm_z := rn_iastore (N := 56) (q := 48) (am_cur_of (i := (132, 1, .iastore, (0, 0, 0), 0)) (by decide +kernel)) (by decide +kernel) rfl hm_z
                            obtain ⟨p1058_z, hm_z⟩ := hm_z
                            replace hm_z := rn_iinc (w := 7) (am_cur_of (i := (133, 3, .iinc 2 1, (0, 0, 0), 0)) (by decide +kernel)) g2m (by decide) hm_z
                            obtain ⟨_, s1059_z, s1060_z, g2m, hm_z⟩ := hm_z
                            replace g0m := s1059_z 0 _ (by decide) rfl g0m
                            replace g1m := s1059_z 1 _ (by decide) rfl g1m
                            replace g3m := s1059_z 3 _ (by decide) rfl g3m
                            replace g4m := s1059_z 4 _ (by decide) rfl g4m
                            clear s1059_z s1060_z
                            replace hm_z := rn_goto (am_cur_of (i := (136, 3, .goto (-87), (29, 0, 0), 0)) (by decide +kernel)) hm_z
                            replace hm_z := rn_iload_n (am_cur_of (i := (49, 1, .iload_n 2, (0, 0, 0), 0)) (by decide +kernel)) g2m hm_z
                            replace hm_z := rn_bipush (w := 7) (am_cur_of (i := (50, 2, .bipush 7, (0, 0, 0), 0)) (by decide +kernel)) (by decide) hm_z
                            replace hm_z := rn_cmpT (am_cur_of (i := (52, 3, .if_icmp .ge 87, (79, 0, 0), 0)) (by decide +kernel)) (by decide) hm_z
                            replace hm_z := rn_aload_n (am_cur_of (i := (139, 1, .aload_n 0, (0, 0, 0), 0)) (by decide +kernel)) g0m hm_z
                            replace hm_z := rn_dup (am_cur_of (i := (140, 1, .dup, (0, 0, 0), 0)) (by decide +kernel)) hm_z
                            replace hm_z := rn_getI (v := 2) (am_cur_of (i := (141, 3, .getfield 201, (12, 17, 1401), 0)) (by decide +kernel)) (by decide +kernel) (show rg_v (am_up h1054_z 170 48 (.int v25_z)) 164 17 = 2 from (nb1_z.symm.trans ecb)) hm_z
                            replace hm_z := rn_iconst (w := 1) (am_cur_of (i := (144, 1, .iconst 1, (0, 0, 0), 0)) (by decide +kernel)) (by decide) hm_z
                            replace hm_z := rn_iadd (w := 3) (am_cur_of (i := (145, 1, .iadd, (0, 0, 0), 0)) (by decide +kernel)) (by decide) hm_z
                            replace hm_z := rn_put (am_cur_of (i := (146, 3, .putfield 201, (12, 17, 1401), 0)) (by decide +kernel)) (by decide +kernel) hm_z
                            replace hm_z := rn_iconst (w := 1) (am_cur_of (i := (149, 1, .iconst 1, (0, 0, 0), 0)) (by decide +kernel)) (by decide) hm_z
                            replace hm_z := rn_iret (am_cur_of (i := (150, 1, .ireturn, (0, 0, 0), 0)) (by decide +kernel)) hm_z
                            obtain ⟨e1061_z, e1062_z⟩ := hm_z
                            subst e1061_z e1062_z
                            have R' : rq T S x25_z p25_z 2 (am_up (am_up h1044_z 21 7 (.int v25_z)) 2 2 (.int 3)) (am_up (am_up h1054_z 170 48 (.int v25_z)) 164 17 (.int 3)) := ⟨⟨c1_z, c2_z, c3_z, c4_z, c5_z, c6_z, fun k hk_z => c7_z k hk_z, fun k hk_z => c8_z k hk_z⟩, ⟨m2_z, m3_z, m4_z, m5_z, m6_z, fun k hk_z => m7_z k hk_z, fun k hk_z => m8_z k hk_z⟩, R3, R4, R5, R6, R7, R8, R9, R10⟩
                            have pq0_z : rp_C 2 (am_up (am_up h1044_z 21 7 (.int v25_z)) 2 2 (.int 3)) (am_up (am_up h1054_z 170 48 (.int v25_z)) 164 17 (.int 3)) 0 := by
                              intro hb_z k hk_z
                              have hb2_z : ((0 : Nat) : Int) < (rg_v h1044_z 2 2).toInt := by rw [ecb]; decide
                              match k, hk_z with
                              | 0, _ => exact AC0 hb2_z 0 (by decide)
                              | 1, _ => exact AC0 hb2_z 1 (by decide)
                              | 2, _ => exact AC0 hb2_z 2 (by decide)
                              | 3, _ => exact AC0 hb2_z 3 (by decide)
                              | 4, _ => exact AC0 hb2_z 4 (by decide)
                              | 5, _ => exact AC0 hb2_z 5 (by decide)
                              | 6, _ => exact AC0 hb2_z 6 (by decide)
                              | 7, _ => exact AC0 hb2_z 7 (by decide)
                            have pq1_z : rp_C 2 (am_up (am_up h1044_z 21 7 (.int v25_z)) 2 2 (.int 3)) (am_up (am_up h1054_z 170 48 (.int v25_z)) 164 17 (.int 3)) 1 := by
                              intro hb_z k hk_z
                              have hb2_z : ((1 : Nat) : Int) < (rg_v h1044_z 2 2).toInt := by rw [ecb]; decide
                              match k, hk_z with
                              | 0, _ => exact AC1 hb2_z 0 (by decide)
                              | 1, _ => exact AC1 hb2_z 1 (by decide)
                              | 2, _ => exact AC1 hb2_z 2 (by decide)
                              | 3, _ => exact AC1 hb2_z 3 (by decide)
                              | 4, _ => exact AC1 hb2_z 4 (by decide)
                              | 5, _ => exact AC1 hb2_z 5 (by decide)
                              | 6, _ => exact AC1 hb2_z 6 (by decide)
                              | 7, _ => exact AC1 hb2_z 7 (by decide)
                            have pq2_z : rp_C 2 (am_up (am_up h1044_z 21 7 (.int v25_z)) 2 2 (.int 3)) (am_up (am_up h1054_z 170 48 (.int v25_z)) 164 17 (.int 3)) 2 := by
                              intro hb_z k hk_z
                              match k, hk_z with
                              | 0, _ => exact E0
                              | 1, _ => exact E1
                              | 2, _ => exact E2
                              | 3, _ => exact E3
                              | 4, _ => exact E4
                              | 5, _ => exact E5
                              | 6, _ => exact E6
                              | 7, _ => exact rfl
                            have A' : rp 2 (am_up (am_up h1044_z 21 7 (.int v25_z)) 2 2 (.int 3)) (am_up (am_up h1054_z 170 48 (.int v25_z)) 164 17 (.int 3)) := ⟨⟨a1_z, a2_z, a3_z, a4_z, a5_z, a6_z⟩, ⟨rfl, (show 0 ≤ ((2 : Int32) + 1).toInt by decide), (show ((2 : Int32) + 1).toInt ≤ 4 by decide)⟩, ⟨nt1_z, nt2_z, nt3_z⟩, ⟨nl1_z, nl2_z, nl3_z⟩, ⟨nr1_z, nr2_z, nr3_z⟩, ⟨nk1_z, nk2_z, nk3_z⟩, ⟨(pq0_z), (pq1_z), (pq2_z), (fun hb_z => absurd hb_z (by show ¬ ((3 : Nat) : Int) < ((2 : Int32) + 1).toInt; decide))⟩, fun t ht => AD t ht, fun t ht => AE t ht, fun t ht => AG t ht⟩
                            have B' : rp_t (am_up (am_up h1044_z 21 7 (.int v25_z)) 2 2 (.int 3)) (am_up (am_up h1054_z 170 48 (.int v25_z)) 164 17 (.int 3)) := by
                              obtain ⟨b0_z, b1_z, b2_z, b3_z, b4_z, b5_z, b6_z, t, o0_z, o1_z, o2_z, o3_z, o4_z, o5_z, o6_z⟩ := B
                              exact ⟨b0_z, b1_z, b2_z, b3_z, b4_z, b5_z, b6_z, t, o0_z, o1_z, o2_z, o3_z, o4_z, o5_z, o6_z⟩
                            exact Or.inl ⟨rfl, _, _, R', le25_z, A', B'⟩
                          · obtain ⟨wv, w0_z, f1_z, f2_z, f3_z, f4_z⟩ := F
                            have K := rs_stick (a := 31) (by decide) (by decide) rfl w0_z f1_z f2_z hc_z
                            replace hm_z : rn _ _ _ _ [.int 0] _ _ _ := hm_z
                            replace hm_z := rn_ifF (am_cur_of (i := (116, 3, .ifCond .ne 5, (69, 0, 0), 0)) (by decide +kernel)) (by decide) hm_z
                            replace hm_z := rn_iconst (w := 0) (am_cur_of (i := (119, 1, .iconst 0, (0, 0, 0), 0)) (by decide +kernel)) (by decide) hm_z
                            replace hm_z := rn_iret (am_cur_of (i := (120, 1, .ireturn, (0, 0, 0), 0)) (by decide +kernel)) hm_z
                            obtain ⟨e1063_z, e1064_z⟩ := hm_z
                            subst e1063_z e1064_z
                            exact Or.inr ⟨rfl, _, wv, w0_z, K.1, K.2, f3_z, f4_z⟩
                        · obtain ⟨wv, w0_z, f1_z, f2_z, f3_z, f4_z⟩ := F
                          have K := rs_stick (a := 31) (by decide) (by decide) rfl w0_z f1_z f2_z hc_z
                          replace hm_z : rn _ _ _ _ [.int 0] _ _ _ := hm_z
                          replace hm_z := rn_ifF (am_cur_of (i := (116, 3, .ifCond .ne 5, (69, 0, 0), 0)) (by decide +kernel)) (by decide) hm_z
                          replace hm_z := rn_iconst (w := 0) (am_cur_of (i := (119, 1, .iconst 0, (0, 0, 0), 0)) (by decide +kernel)) (by decide) hm_z
                          replace hm_z := rn_iret (am_cur_of (i := (120, 1, .ireturn, (0, 0, 0), 0)) (by decide +kernel)) hm_z
                          obtain ⟨e1065_z, e1066_z⟩ := hm_z
                          subst e1065_z e1066_z
                          exact Or.inr ⟨rfl, _, wv, w0_z, K.1, K.2, f3_z, f4_z⟩
                      · obtain ⟨wv, w0_z, f1_z, f2_z, f3_z, f4_z⟩ := F
                        have K := rs_stick (a := 31) (by decide) (by decide) rfl w0_z f1_z f2_z hc_z
                        replace hm_z : rn _ _ _ _ [.int 0] _ _ _ := hm_z
                        replace hm_z := rn_ifF (am_cur_of (i := (116, 3, .ifCond .ne 5, (69, 0, 0), 0)) (by decide +kernel)) (by decide) hm_z
                        replace hm_z := rn_iconst (w := 0) (am_cur_of (i := (119, 1, .iconst 0, (0, 0, 0), 0)) (by decide +kernel)) (by decide) hm_z
                        replace hm_z := rn_iret (am_cur_of (i := (120, 1, .ireturn, (0, 0, 0), 0)) (by decide +kernel)) hm_z
                        obtain ⟨e1067_z, e1068_z⟩ := hm_z
                        subst e1067_z e1068_z
                        exact Or.inr ⟨rfl, _, wv, w0_z, K.1, K.2, f3_z, f4_z⟩
                    · obtain ⟨wv, w0_z, f1_z, f2_z, f3_z, f4_z⟩ := F
                      have K := rs_stick (a := 31) (by decide) (by decide) rfl w0_z f1_z f2_z hc_z
                      replace hm_z : rn _ _ _ _ [.int 0] _ _ _ := hm_z
                      replace hm_z := rn_ifF (am_cur_of (i := (116, 3, .ifCond .ne 5, (69, 0, 0), 0)) (by decide +kernel)) (by decide) hm_z
                      replace hm_z := rn_iconst (w := 0) (am_cur_of (i := (119, 1, .iconst 0, (0, 0, 0), 0)) (by decide +kernel)) (by decide) hm_z
                      replace hm_z := rn_iret (am_cur_of (i := (120, 1, .ireturn, (0, 0, 0), 0)) (by decide +kernel)) hm_z
                      obtain ⟨e1069_z, e1070_z⟩ := hm_z
                      subst e1069_z e1070_z
                      exact Or.inr ⟨rfl, _, wv, w0_z, K.1, K.2, f3_z, f4_z⟩
                  · obtain ⟨wv, w0_z, f1_z, f2_z, f3_z, f4_z⟩ := F
                    have K := rs_stick (a := 31) (by decide) (by decide) rfl w0_z f1_z f2_z hc_z
                    replace hm_z : rn _ _ _ _ [.int 0] _ _ _ := hm_z
                    replace hm_z := rn_ifF (am_cur_of (i := (116, 3, .ifCond .ne 5, (69, 0, 0), 0)) (by decide +kernel)) (by decide) hm_z
                    replace hm_z := rn_iconst (w := 0) (am_cur_of (i := (119, 1, .iconst 0, (0, 0, 0), 0)) (by decide +kernel)) (by decide) hm_z
                    replace hm_z := rn_iret (am_cur_of (i := (120, 1, .ireturn, (0, 0, 0), 0)) (by decide +kernel)) hm_z
                    obtain ⟨e1071_z, e1072_z⟩ := hm_z
                    subst e1071_z e1072_z
                    exact Or.inr ⟨rfl, _, wv, w0_z, K.1, K.2, f3_z, f4_z⟩
                · obtain ⟨wv, w0_z, f1_z, f2_z, f3_z, f4_z⟩ := F
                  have K := rs_stick (a := 31) (by decide) (by decide) rfl w0_z f1_z f2_z hc_z
                  replace hm_z : rn _ _ _ _ [.int 0] _ _ _ := hm_z
                  replace hm_z := rn_ifF (am_cur_of (i := (116, 3, .ifCond .ne 5, (69, 0, 0), 0)) (by decide +kernel)) (by decide) hm_z
                  replace hm_z := rn_iconst (w := 0) (am_cur_of (i := (119, 1, .iconst 0, (0, 0, 0), 0)) (by decide +kernel)) (by decide) hm_z
                  replace hm_z := rn_iret (am_cur_of (i := (120, 1, .ireturn, (0, 0, 0), 0)) (by decide +kernel)) hm_z
                  obtain ⟨e1073_z, e1074_z⟩ := hm_z
                  subst e1073_z e1074_z
                  exact Or.inr ⟨rfl, _, wv, w0_z, K.1, K.2, f3_z, f4_z⟩
              · obtain ⟨wv, w0_z, f1_z, f2_z, f3_z, f4_z⟩ := F
                have K := rs_stick (a := 31) (by decide) (by decide) rfl w0_z f1_z f2_z hc_z
                replace hm_z : rn _ _ _ _ [.int 0] _ _ _ := hm_z
                replace hm_z := rn_ifF (am_cur_of (i := (116, 3, .ifCond .ne 5, (69, 0, 0), 0)) (by decide +kernel)) (by decide) hm_z
                replace hm_z := rn_iconst (w := 0) (am_cur_of (i := (119, 1, .iconst 0, (0, 0, 0), 0)) (by decide +kernel)) (by decide) hm_z
                replace hm_z := rn_iret (am_cur_of (i := (120, 1, .ireturn, (0, 0, 0), 0)) (by decide +kernel)) hm_z
                obtain ⟨e1075_z, e1076_z⟩ := hm_z
                subst e1075_z e1076_z
                exact Or.inr ⟨rfl, _, wv, w0_z, K.1, K.2, f3_z, f4_z⟩
          · replace b954_z : ¬ i2_z = ((-1) : Int32) ∧ ¬ i2_z.toInt = ((-1) : Int32).toInt := b954_z
            replace hc_z := rn_aload_n (am_cur_of (i := (38, 1, .aload_n 0, (0, 0, 0), 0)) (by decide +kernel)) g0_z hc_z
            replace hc_z := rn_iconst (w := 3) (am_cur_of (i := (39, 1, .iconst 3, (0, 0, 0), 0)) (by decide +kernel)) (by decide) hc_z
            replace hc_z := rn_callV (M' := am_m29) (o := 44) (ar := [.int 3]) (rest := []) (L := lv_args 0 [.ref 44, .int 3]) (am_cur_of (i := (40, 3, .invokevirtual 108, (29, 769, 3), 0)) (by decide +kernel)) rfl rfl rfl rfl hc_z
            obtain ⟨r1077_z, h1078_z, q1079_z, hc_z⟩ := hc_z
            obtain ⟨rfl, yq1079_z⟩ := rp_fail R4 q1079_z
            subst yq1079_z
            replace hc_z : rn _ _ _ _ [] _ _ _ := hc_z
            have K := rs_stick (w := 3) (a := 31) (by decide) (by decide) rfl (by decide) rfl rfl hc_z
            replace hm_z := rn_aload_n (am_cur_of (i := (18, 1, .aload_n 0, (0, 0, 0), 0)) (by decide +kernel)) g0m hm_z
            replace hm_z := rn_aload_n (am_cur_of (i := (19, 1, .aload_n 0, (0, 0, 0), 0)) (by decide +kernel)) g0m hm_z
            replace hm_z := rn_getR (x := 169) (am_cur_of (i := (20, 3, .getfield 27, (12, 24, 1408), 0)) (by decide +kernel)) (by decide +kernel) hm_z
            replace hm_z := rn_iconst (w := 4) (am_cur_of (i := (23, 1, .iconst 4, (0, 0, 0), 0)) (by decide +kernel)) (by decide) hm_z
            replace hm_z := rn_aload_n (am_cur_of (i := (24, 1, .aload_n 0, (0, 0, 0), 0)) (by decide +kernel)) g0m hm_z
            replace hm_z := rn_getI (v := 2) (am_cur_of (i := (25, 3, .getfield 201, (12, 17, 1401), 0)) (by decide +kernel)) (by decide +kernel) (nb1_z.symm.trans ecb) hm_z
            replace hm_z := rn_callV (M' := am_m164) (o := 164) (ar := [.int 2, .int 4, .ref 169]) (rest := []) (L := lv_args 0 [.ref 164, .ref 169, .int 4, .int 2]) (am_cur_of (i := (28, 3, .invokevirtual 248, (164, 1688, 3), 0)) (by decide +kernel)) rfl rfl rfl rfl hm_z
            obtain ⟨r1080_z, h1081_z, q1082_z, hm_z⟩ := hm_z
            rcases rp_newB (nb := 2) (by omega) (by omega) q1082_z with ⟨y1_z, rfl, y3_z⟩ | ⟨y1_z, rfl, y3_z, y4_z, y5_z, y6_z⟩ | ⟨y1_z, rfl, y5_z, y4_z, y6_z, y7_z⟩
            · exact absurd k2_z.1 y1_z
            · subst y3_z
              replace hm_z : rn _ _ _ _ [.int 0] _ _ _ := hm_z
              replace hm_z := rn_ifF (am_cur_of (i := (31, 3, .ifCond .ne 5, (20, 0, 0), 0)) (by decide +kernel)) (by decide) hm_z
              replace hm_z := rn_iconst (w := 0) (am_cur_of (i := (34, 1, .iconst 0, (0, 0, 0), 0)) (by decide +kernel)) (by decide) hm_z
              replace hm_z := rn_iret (am_cur_of (i := (35, 1, .ireturn, (0, 0, 0), 0)) (by decide +kernel)) hm_z
              obtain ⟨e1083_z, e1084_z⟩ := hm_z
              subst e1083_z e1084_z
              exact Or.inr ⟨rfl, _, 3, by decide, K.1, K.2.trans R5, rfl, R6⟩
            · exact absurd (rp_fm_u hi2_z (k2_z.2 ▸ y5_z) names) b954_z.1
        · have K := rs_stick (a := 31) (by decide) (by decide) rfl (by decide) f1_z f2_z hc_z
          have k2_z := tk_n3 R10 k3_z
          replace hm_z := rn_aload_n (am_cur_of (i := (18, 1, .aload_n 0, (0, 0, 0), 0)) (by decide +kernel)) g0m hm_z
          replace hm_z := rn_aload_n (am_cur_of (i := (19, 1, .aload_n 0, (0, 0, 0), 0)) (by decide +kernel)) g0m hm_z
          replace hm_z := rn_getR (x := 169) (am_cur_of (i := (20, 3, .getfield 27, (12, 24, 1408), 0)) (by decide +kernel)) (by decide +kernel) hm_z
          replace hm_z := rn_iconst (w := 4) (am_cur_of (i := (23, 1, .iconst 4, (0, 0, 0), 0)) (by decide +kernel)) (by decide) hm_z
          replace hm_z := rn_aload_n (am_cur_of (i := (24, 1, .aload_n 0, (0, 0, 0), 0)) (by decide +kernel)) g0m hm_z
          replace hm_z := rn_getI (v := 2) (am_cur_of (i := (25, 3, .getfield 201, (12, 17, 1401), 0)) (by decide +kernel)) (by decide +kernel) (nb1_z.symm.trans ecb) hm_z
          replace hm_z := rn_callV (M' := am_m164) (o := 164) (ar := [.int 2, .int 4, .ref 169]) (rest := []) (L := lv_args 0 [.ref 164, .ref 169, .int 4, .int 2]) (am_cur_of (i := (28, 3, .invokevirtual 248, (164, 1688, 3), 0)) (by decide +kernel)) rfl rfl rfl rfl hm_z
          obtain ⟨r1085_z, h1086_z, q1087_z, hm_z⟩ := hm_z
          rcases rp_newB (nb := 2) (by omega) (by omega) q1087_z with ⟨y1_z, rfl, y3_z⟩ | ⟨y1_z, rfl, y3_z, y4_z, y5_z, y6_z⟩ | ⟨y1_z, rfl, y5_z, y4_z, y6_z, y7_z⟩
          · subst y3_z
            replace hm_z : rn _ _ _ _ [.int 0] _ _ _ := hm_z
            replace hm_z := rn_ifF (am_cur_of (i := (31, 3, .ifCond .ne 5, (20, 0, 0), 0)) (by decide +kernel)) (by decide) hm_z
            replace hm_z := rn_iconst (w := 0) (am_cur_of (i := (34, 1, .iconst 0, (0, 0, 0), 0)) (by decide +kernel)) (by decide) hm_z
            replace hm_z := rn_iret (am_cur_of (i := (35, 1, .ireturn, (0, 0, 0), 0)) (by decide +kernel)) hm_z
            obtain ⟨e1088_z, e1089_z⟩ := hm_z
            subst e1088_z e1089_z
            exact Or.inr ⟨rfl, _, 1, by decide, K.1, K.2.trans R5, rfl, R6⟩
          · exact absurd y1_z k2_z
          · exact absurd y1_z k2_z
      · obtain rfl : cb = 3 := rt_i32 (q4_z.trans (by decide))
        replace hc_z := rn_ifF (am_cur_of (i := (12, 3, .ifCond .eq 10, (10, 0, 0), 0)) (by decide +kernel)) (by decide) hc_z
        replace hc_z := rn_aload_n (am_cur_of (i := (15, 1, .aload_n 0, (0, 0, 0), 0)) (by decide +kernel)) g0_z hc_z
        replace hc_z := rn_callV (M' := am_m33) (o := 44) (ar := []) (rest := []) (L := lv_args 0 [.ref 44]) (am_cur_of (i := (16, 3, .invokevirtual 158, (33, 785, 3), 0)) (by decide +kernel)) rfl rfl rfl rfl hc_z
        obtain ⟨r1090_z, h1091_z, q1092_z, hc_z⟩ := hc_z
        rcases rp_own R4 q1092_z with ⟨k3_z, rfl, eh⟩ | ⟨k3_z, f1_z, f2_z⟩
        · replace eh := eh.symm
          subst eh
          have k2_z := tk_3 R10 k3_z
          replace hc_z : rn _ _ _ _ [.int 1] _ _ _ := hc_z
          replace hc_z := rn_ifT (am_cur_of (i := (19, 3, .ifCond .ne 4, (11, 0, 0), 0)) (by decide +kernel)) (by decide) hc_z
          replace hc_z := rn_aload_n (am_cur_of (i := (23, 1, .aload_n 0, (0, 0, 0), 0)) (by decide +kernel)) g0_z hc_z
          replace hc_z := rn_getM (x := 2) (am_cur_of (i := (24, 3, .getfield 25, (4, 6, 415), 0)) (by decide +kernel)) R3 hc_z
          replace hc_z := rn_aload_n (am_cur_of (i := (27, 1, .aload_n 0, (0, 0, 0), 0)) (by decide +kernel)) g0_z hc_z
          replace hc_z := rn_getI (v := rg_v h652_z 44 11) (am_cur_of (i := (28, 3, .getfield 91, (4, 11, 420), 0)) (by decide +kernel)) (by decide +kernel) rfl hc_z
          replace hc_z := rn_callV (M' := am_m34) (o := 2) (ar := [.int (rg_v h652_z 44 11)]) (rest := []) (L := lv_args 0 [.ref 2, .int (rg_v h652_z 44 11)]) (am_cur_of (i := (31, 3, .invokevirtual 162, (34, 789, 3), 0)) (by decide +kernel)) rfl rfl rfl rfl hc_z
          obtain ⟨r1093_z, h1094_z, q1095_z, hc_z⟩ := hc_z
          obtain ⟨eh, i2_z, rfl, hi2_z⟩ := rp_bn2 ecb (by omega) q1095_z
          replace eh := eh.symm
          subst eh
          have hib := rp_fm_b hi2_z (by omega)
          have names : ∀ b : Nat, (b : Int) < (3 : Int32).toInt → rg_v h652_z (19 + b) 0 = rg_v h662_z 169 (4 + b) := by
            intro b hb_z
            match b with
            | 0 => exact AC0 (by rw [ecb]; exact hb_z) 0 (by decide)
            | 1 => exact AC1 (by rw [ecb]; exact hb_z) 0 (by decide)
            | 2 => exact AC2 (by rw [ecb]; exact hb_z) 0 (by decide)
            | 3 => exact AC3 (by rw [ecb]; exact hb_z) 0 (by decide)
            | b + 4 => omega
          replace hc_z : rn _ _ _ _ [.int i2_z] _ _ _ := hc_z
          replace hc_z := rn_iconst (w := (-1)) (am_cur_of (i := (34, 1, .iconst (-1), (0, 0, 0), 0)) (by decide +kernel)) (by decide) hc_z
          replace hc_z := rn_cmp (am_cur_of (i := (35, 3, .if_icmp .eq 9, (22, 0, 0), 0)) (by decide +kernel)) hc_z
          rcases hc_z with ⟨b1096_z, hc_z⟩ | ⟨b1096_z, hc_z⟩
          · replace b1096_z : i2_z = ((-1) : Int32) ∧ i2_z.toInt = ((-1) : Int32).toInt := b1096_z
            replace hc_z := rn_aload_n (am_cur_of (i := (44, 1, .aload_n 0, (0, 0, 0), 0)) (by decide +kernel)) g0_z hc_z
            replace hc_z := rn_getM (x := 2) (am_cur_of (i := (45, 3, .getfield 25, (4, 6, 415), 0)) (by decide +kernel)) R3 hc_z
            replace hc_z := rn_getR (x := 3) (am_cur_of (i := (48, 3, .getfield 166, (1, 3, 265), 0)) (by decide +kernel)) (by decide +kernel) hc_z
            replace hc_z := rn_aload_n (am_cur_of (i := (51, 1, .aload_n 0, (0, 0, 0), 0)) (by decide +kernel)) g0_z hc_z
            replace hc_z := rn_getM (x := 2) (am_cur_of (i := (52, 3, .getfield 25, (4, 6, 415), 0)) (by decide +kernel)) R3 hc_z
            replace hc_z := rn_getI (v := 3) (am_cur_of (i := (55, 3, .getfield 151, (1, 2, 259), 0)) (by decide +kernel)) (by decide +kernel) ecb hc_z
            replace hc_z := rn_aaload (s := "AirBed$Blower") (N := 4) (q := 3) (am_cur_of (i := (58, 1, .aaload, (0, 0, 0), 0)) (by decide +kernel)) (by decide +kernel) rfl hc_z
            obtain ⟨p1097_z, hc_z⟩ := hc_z
            rw [show rg_r h652_z 3 3 = 22 from rp_bc2 (rn_G hc_z) (q := 3) (by decide)] at hc_z
            replace hc_z := rn_astore_n (am_cur_of (i := (59, 1, .astore_n 1, (0, 0, 0), 0)) (by decide +kernel)) hc_z
            obtain ⟨_, s1098_z, s1099_z, g1_z, hc_z⟩ := hc_z
            replace g0_z := s1098_z 0 _ (by decide) rfl g0_z
            clear s1098_z s1099_z
            replace hc_z := rn_aload_n (am_cur_of (i := (60, 1, .aload_n 1, (0, 0, 0), 0)) (by decide +kernel)) g1_z hc_z
            replace hc_z := rn_aload_n (am_cur_of (i := (61, 1, .aload_n 0, (0, 0, 0), 0)) (by decide +kernel)) g0_z hc_z
            replace hc_z := rn_getI (v := rg_v h652_z 44 11) (am_cur_of (i := (62, 3, .getfield 91, (4, 11, 420), 0)) (by decide +kernel)) (by decide +kernel) rfl hc_z
            replace hc_z := rn_put (am_cur_of (i := (65, 3, .putfield 170, (3, 0, 204), 0)) (by decide +kernel)) (by decide +kernel) hc_z
            replace hc_z := rn_aload_n (am_cur_of (i := (68, 1, .aload_n 0, (0, 0, 0), 0)) (by decide +kernel)) g0_z hc_z
            replace hc_z := rn_callV (M' := am_m19) (o := 44) (ar := []) (rest := []) (L := lv_args 0 [.ref 44]) (am_cur_of (i := (69, 3, .invokevirtual 57, (19, 727, 3), 0)) (by decide +kernel)) rfl rfl rfl rfl hc_z
            obtain ⟨r1100_z, h1101_z, q1102_z, hc_z⟩ := hc_z
            have vo := rn_void rfl q1102_z
            subst vo
            replace hm_z := rn_aload_n (am_cur_of (i := (18, 1, .aload_n 0, (0, 0, 0), 0)) (by decide +kernel)) g0m hm_z
            replace hm_z := rn_aload_n (am_cur_of (i := (19, 1, .aload_n 0, (0, 0, 0), 0)) (by decide +kernel)) g0m hm_z
            replace hm_z := rn_getR (x := 169) (am_cur_of (i := (20, 3, .getfield 27, (12, 24, 1408), 0)) (by decide +kernel)) (by decide +kernel) hm_z
            replace hm_z := rn_iconst (w := 4) (am_cur_of (i := (23, 1, .iconst 4, (0, 0, 0), 0)) (by decide +kernel)) (by decide) hm_z
            replace hm_z := rn_aload_n (am_cur_of (i := (24, 1, .aload_n 0, (0, 0, 0), 0)) (by decide +kernel)) g0m hm_z
            replace hm_z := rn_getI (v := 3) (am_cur_of (i := (25, 3, .getfield 201, (12, 17, 1401), 0)) (by decide +kernel)) (by decide +kernel) (nb1_z.symm.trans ecb) hm_z
            replace hm_z := rn_callV (M' := am_m164) (o := 164) (ar := [.int 3, .int 4, .ref 169]) (rest := []) (L := lv_args 0 [.ref 164, .ref 169, .int 4, .int 3]) (am_cur_of (i := (28, 3, .invokevirtual 248, (164, 1688, 3), 0)) (by decide +kernel)) rfl rfl rfl rfl hm_z
            obtain ⟨r1103_z, h1104_z, q1105_z, hm_z⟩ := hm_z
            rcases rp_newB (nb := 3) (by omega) (by omega) q1105_z with ⟨y1_z, rfl, y3_z⟩ | ⟨y1_z, rfl, y3_z, y4_z, y5_z, y6_z⟩ | ⟨y1_z, rfl, y5_z, y4_z, y6_z, y7_z⟩
            · exact absurd k2_z.1 y1_z
            · have ei := rp_fm_u hi2_z (k2_z.2 ▸ y5_z) names
              rw [← ei] at y6_z
              omega
            · have vo := rn_void rfl y7_z
              subst vo
              have R' : rq T S x1_z p1_z 2 (am_up h652_z 22 0 (.int (rg_v h652_z 44 11))) (am_up h662_z 169 7 (.int (rg_v h662_z 164 9))) := ⟨⟨c1_z, c2_z, c3_z, c4_z, c5_z, c6_z, fun k hk_z => c7_z k hk_z, fun k hk_z => c8_z k hk_z⟩, ⟨m2_z, m3_z, m4_z, m5_z, m6_z, fun k hk_z => m7_z k hk_z, fun k hk_z => m8_z k hk_z⟩, R3, R4, R5, R6, R7, R8, R9, R10⟩
              have A' : rp 2 (am_up h652_z 22 0 (.int (rg_v h652_z 44 11))) (am_up h662_z 169 7 (.int (rg_v h662_z 164 9))) := ⟨⟨a1_z, a2_z, a3_z, a4_z, a5_z, a6_z⟩, ⟨nb1_z, nb2_z, nb3_z⟩, ⟨nt1_z, nt2_z, nt3_z⟩, ⟨nl1_z, nl2_z, nl3_z⟩, ⟨nr1_z, nr2_z, nr3_z⟩, ⟨nk1_z, nk2_z, nk3_z⟩, ⟨fun hb_z k hk_z => AC0 hb_z k hk_z, fun hb_z k hk_z => AC1 hb_z k hk_z, fun hb_z k hk_z => AC2 hb_z k hk_z, fun hb_z => absurd hb_z (by rw [show rg_v (am_up h652_z 22 0 (.int (rg_v h652_z 44 11))) 2 2 = 3 from ecb]; decide)⟩, fun t ht => AD t ht, fun t ht => AE t ht, fun t ht => AG t ht⟩
              have B' : rp_t (am_up h652_z 22 0 (.int (rg_v h652_z 44 11))) (am_up h662_z 169 7 (.int (rg_v h662_z 164 9))) := by
                obtain ⟨b0_z, b1_z, b2_z, b3_z, b4_z, b5_z, b6_z, t, o0_z, o1_z, o2_z, o3_z, o4_z, o5_z, o6_z⟩ := B
                exact ⟨b0_z, b1_z, b2_z, b3_z, b4_z, b5_z, b6_z, t, o0_z, o1_z, o2_z, o3_z, o4_z, o5_z, o6_z⟩
              obtain ⟨-, -, x26_z, p26_z, R, le26_z, t5_z, t6_z⟩ := pr_tok (rq_0 R') q1102_z y7_z
              replace A := rp_x (by decide) A' (rx_C_f t5_z) (rx_M_f t6_z)
              replace B := rp_tk B' (rg_v_fr t5_z (by decide)) (fun k => rg_v_fr t6_z (rg_v_in (by decide) k)) (rx_M_f t6_z)
              clear A' B' R'
              replace le26_z : x.toInt ≤ p26_z.toInt := Int.le_trans (Int.le_trans le1_z R8) le26_z
              replace ecb : rg_v h1101_z 2 2 = 3 := (rx_v (rx_C_f t5_z) (o := 2) (k := 2) (by decide)).trans ecb
              replace ect : rg_v h1101_z 2 4 = ct := (rx_v (rx_C_f t5_z) (o := 2) (k := 4) (by decide)).trans ect
              replace ecl : rg_v h1101_z 2 9 = cl := (rx_v (rx_C_f t5_z) (o := 2) (k := 9) (by decide)).trans ecl
              replace ecr : rg_v h1101_z 2 12 = cr := (rx_v (rx_C_f t5_z) (o := 2) (k := 12) (by decide)).trans ecr
              have E0 : rg_v h1101_z 22 0 = rg_v h1104_z 169 7 := (rx_v (rx_C_f t5_z) (o := 22) (k := 0) (by decide)).trans (Eq.trans (k2_z.2) (rx_w (rx_M_f t6_z) (o := 169) (k := 7) (by omega) (by decide)).symm)
              replace hm_z : rn _ _ _ _ [.int 1] _ _ _ := hm_z
              replace hc_z : rn _ _ _ _ [] _ _ _ := hc_z
              clear a1_z a2_z a3_z a4_z a5_z a6_z nb1_z nb2_z nb3_z nt1_z nt2_z nt3_z nl1_z nl2_z nl3_z nr1_z nr2_z nr3_z nk1_z nk2_z nk3_z AC0 AC1 AC2 AC3 AD AE AG c1_z c2_z c3_z c4_z c5_z c6_z c7_z c8_z m2_z m3_z m4_z m5_z m6_z m7_z m8_z R3 R4 R5 R6 R7 R8 R9 R10
              obtain ⟨⟨⟨a1_z, a2_z, a3_z, a4_z, a5_z, a6_z⟩, ⟨nb1_z, nb2_z, nb3_z⟩, ⟨nt1_z, nt2_z, nt3_z⟩, ⟨nl1_z, nl2_z, nl3_z⟩, ⟨nr1_z, nr2_z, nr3_z⟩, ⟨nk1_z, nk2_z, nk3_z⟩, ⟨AC0, AC1, AC2, AC3⟩, AD, AE, AG⟩, ⟨⟨c1_z, c2_z, c3_z, c4_z, c5_z, c6_z, c7_z, c8_z⟩, ⟨m2_z, m3_z, m4_z, m5_z, m6_z, m7_z, m8_z⟩, R3, R4, R5, R6, R7, R8, R9, R10⟩⟩ := (⟨A, R⟩ : rp 2 h1101_z h1104_z ∧ rq T S x26_z p26_z 2 h1101_z h1104_z)
              replace hc_z := rn_aload_n (am_cur_of (i := (72, 1, .aload_n 1, (0, 0, 0), 0)) (by decide +kernel)) g1_z hc_z
              replace hc_z := rn_aload_n (am_cur_of (i := (73, 1, .aload_n 0, (0, 0, 0), 0)) (by decide +kernel)) g0_z hc_z
              replace hc_z := rn_iconst (w := 1) (am_cur_of (i := (74, 1, .iconst 1, (0, 0, 0), 0)) (by decide +kernel)) (by decide) hc_z
              replace hc_z := rn_bipush (w := 99) (am_cur_of (i := (75, 2, .bipush 99, (0, 0, 0), 0)) (by decide +kernel)) (by decide) hc_z
              replace hc_z := rn_callV (M' := am_m30) (o := 44) (ar := [.int 99, .int 1]) (rest := [.ref 22]) (L := lv_args 0 [.ref 44, .int 1, .int 99]) (am_cur_of (i := (77, 3, .invokevirtual 142, (30, 773, 3), 0)) (by decide +kernel)) rfl rfl rfl rfl hc_z
              obtain ⟨r1106_z, h1107_z, q1108_z, hc_z⟩ := hc_z
              replace hm_z := rn_ifT (am_cur_of (i := (31, 3, .ifCond .ne 5, (20, 0, 0), 0)) (by decide +kernel)) (by decide) hm_z
              replace hm_z := rn_bipush (w := 28) (am_cur_of (i := (36, 2, .bipush 28, (0, 0, 0), 0)) (by decide +kernel)) (by decide) hm_z
              replace hm_z := rn_bipush (w := 7) (am_cur_of (i := (38, 2, .bipush 7, (0, 0, 0), 0)) (by decide +kernel)) (by decide) hm_z
              replace hm_z := rn_aload_n (am_cur_of (i := (40, 1, .aload_n 0, (0, 0, 0), 0)) (by decide +kernel)) g0m hm_z
              replace hm_z := rn_getI (v := 3) (am_cur_of (i := (41, 3, .getfield 201, (12, 17, 1401), 0)) (by decide +kernel)) (by decide +kernel) (nb1_z.symm.trans ecb) hm_z
              replace hm_z := rn_imul (w := 21) (am_cur_of (i := (44, 1, .imul, (0, 0, 0), 0)) (by decide +kernel)) (by decide) hm_z
              replace hm_z := rn_iadd (w := 49) (am_cur_of (i := (45, 1, .iadd, (0, 0, 0), 0)) (by decide +kernel)) (by decide) hm_z
              replace hm_z := rn_istore_n (am_cur_of (i := (46, 1, .istore_n 1, (0, 0, 0), 0)) (by decide +kernel)) hm_z
              obtain ⟨_, s1109_z, s1110_z, g1m, hm_z⟩ := hm_z
              replace g0m := s1109_z 0 _ (by decide) rfl g0m
              clear s1109_z s1110_z
              replace hm_z := rn_iconst (w := 0) (am_cur_of (i := (47, 1, .iconst 0, (0, 0, 0), 0)) (by decide +kernel)) (by decide) hm_z
              replace hm_z := rn_istore_n (am_cur_of (i := (48, 1, .istore_n 2, (0, 0, 0), 0)) (by decide +kernel)) hm_z
              obtain ⟨_, s1111_z, s1112_z, g2m, hm_z⟩ := hm_z
              replace g0m := s1111_z 0 _ (by decide) rfl g0m
              replace g1m := s1111_z 1 _ (by decide) rfl g1m
              clear s1111_z s1112_z
              replace hm_z := rn_iload_n (am_cur_of (i := (49, 1, .iload_n 2, (0, 0, 0), 0)) (by decide +kernel)) g2m hm_z
              replace hm_z := rn_bipush (w := 7) (am_cur_of (i := (50, 2, .bipush 7, (0, 0, 0), 0)) (by decide +kernel)) (by decide) hm_z
              replace hm_z := rn_cmpF (am_cur_of (i := (52, 3, .if_icmp .ge 87, (79, 0, 0), 0)) (by decide +kernel)) (by decide) hm_z
              replace hm_z := rn_iload_n (am_cur_of (i := (55, 1, .iload_n 2, (0, 0, 0), 0)) (by decide +kernel)) g2m hm_z
              replace hm_z := rn_ifT (am_cur_of (i := (56, 3, .ifCond .eq 13, (40, 0, 0), 0)) (by decide +kernel)) (by decide) hm_z
              replace hm_z := rn_iconst (w := 1) (am_cur_of (i := (69, 1, .iconst 1, (0, 0, 0), 0)) (by decide +kernel)) (by decide) hm_z
              replace hm_z := rn_goto (am_cur_of (i := (70, 3, .goto 4, (43, 0, 0), 0)) (by decide +kernel)) hm_z
              replace hm_z := rn_istore_n (am_cur_of (i := (74, 1, .istore_n 3, (0, 0, 0), 0)) (by decide +kernel)) hm_z
              obtain ⟨_, s1113_z, s1114_z, g3m, hm_z⟩ := hm_z
              replace g0m := s1113_z 0 _ (by decide) rfl g0m
              replace g1m := s1113_z 1 _ (by decide) rfl g1m
              replace g2m := s1113_z 2 _ (by decide) rfl g2m
              clear s1113_z s1114_z
              replace hm_z := rn_iload_n (am_cur_of (i := (75, 1, .iload_n 2, (0, 0, 0), 0)) (by decide +kernel)) g2m hm_z
              replace hm_z := rn_iconst (w := 1) (am_cur_of (i := (76, 1, .iconst 1, (0, 0, 0), 0)) (by decide +kernel)) (by decide) hm_z
              replace hm_z := rn_cmpF (am_cur_of (i := (77, 3, .if_icmp .eq 8, (50, 0, 0), 0)) (by decide +kernel)) (by decide) hm_z
              replace hm_z := rn_iload_n (am_cur_of (i := (80, 1, .iload_n 2, (0, 0, 0), 0)) (by decide +kernel)) g2m hm_z
              replace hm_z := rn_iconst (w := 2) (am_cur_of (i := (81, 1, .iconst 2, (0, 0, 0), 0)) (by decide +kernel)) (by decide) hm_z
              replace hm_z := rn_cmpT (am_cur_of (i := (82, 3, .if_icmp .ne 8, (52, 0, 0), 0)) (by decide +kernel)) (by decide) hm_z
              replace hm_z := rn_iload_n (am_cur_of (i := (90, 1, .iload_n 2, (0, 0, 0), 0)) (by decide +kernel)) g2m hm_z
              replace hm_z := rn_iconst (w := 3) (am_cur_of (i := (91, 1, .iconst 3, (0, 0, 0), 0)) (by decide +kernel)) (by decide) hm_z
              replace hm_z := rn_cmpF (am_cur_of (i := (92, 3, .if_icmp .eq 8, (58, 0, 0), 0)) (by decide +kernel)) (by decide) hm_z
              replace hm_z := rn_iload_n (am_cur_of (i := (95, 1, .iload_n 2, (0, 0, 0), 0)) (by decide +kernel)) g2m hm_z
              replace hm_z := rn_iconst (w := 5) (am_cur_of (i := (96, 1, .iconst 5, (0, 0, 0), 0)) (by decide +kernel)) (by decide) hm_z
              replace hm_z := rn_cmpT (am_cur_of (i := (97, 3, .if_icmp .ne 8, (60, 0, 0), 0)) (by decide +kernel)) (by decide) hm_z
              replace hm_z := rn_bipush (w := 99) (am_cur_of (i := (105, 2, .bipush 99, (0, 0, 0), 0)) (by decide +kernel)) (by decide) hm_z
              replace hm_z := rn_istore (am_cur_of (i := (107, 2, .istore 4, (0, 0, 0), 0)) (by decide +kernel)) hm_z
              obtain ⟨_, s1115_z, s1116_z, g4m, hm_z⟩ := hm_z
              replace g0m := s1115_z 0 _ (by decide) rfl g0m
              replace g1m := s1115_z 1 _ (by decide) rfl g1m
              replace g2m := s1115_z 2 _ (by decide) rfl g2m
              replace g3m := s1115_z 3 _ (by decide) rfl g3m
              clear s1115_z s1116_z
              replace hm_z := rn_aload_n (am_cur_of (i := (109, 1, .aload_n 0, (0, 0, 0), 0)) (by decide +kernel)) g0m hm_z
              replace hm_z := rn_iload_n (am_cur_of (i := (110, 1, .iload_n 3, (0, 0, 0), 0)) (by decide +kernel)) g3m hm_z
              replace hm_z := rn_iload (am_cur_of (i := (111, 2, .iload 4, (0, 0, 0), 0)) (by decide +kernel)) g4m hm_z
              replace hm_z := rn_callV (M' := am_m161) (o := 164) (ar := [.int 99, .int 1]) (rest := []) (L := lv_args 0 [.ref 164, .int 1, .int 99]) (am_cur_of (i := (113, 3, .invokevirtual 197, (161, 1677, 3), 0)) (by decide +kernel)) rfl rfl rfl rfl hm_z
              obtain ⟨r1117_z, h1118_z, q1119_z, hm_z⟩ := hm_z
              have R' : rq T S x26_z p26_z 2 h1101_z h1104_z := ⟨⟨c1_z, c2_z, c3_z, c4_z, c5_z, c6_z, fun k hk_z => c7_z k hk_z, fun k hk_z => c8_z k hk_z⟩, ⟨m2_z, m3_z, m4_z, m5_z, m6_z, fun k hk_z => m7_z k hk_z, fun k hk_z => m8_z k hk_z⟩, R3, R4, R5, R6, R7, R8, R9, R10⟩
              have A' : rp 2 h1101_z h1104_z := ⟨⟨a1_z, a2_z, a3_z, a4_z, a5_z, a6_z⟩, ⟨nb1_z, nb2_z, nb3_z⟩, ⟨nt1_z, nt2_z, nt3_z⟩, ⟨nl1_z, nl2_z, nl3_z⟩, ⟨nr1_z, nr2_z, nr3_z⟩, ⟨nk1_z, nk2_z, nk3_z⟩, ⟨(fun hb_z k hk_z => by match k, hk_z with | 0, _ => exact AC0 hb_z 0 (by decide) | 1, _ => exact AC0 hb_z 1 (by decide) | 2, _ => exact AC0 hb_z 2 (by decide) | 3, _ => exact AC0 hb_z 3 (by decide) | 4, _ => exact AC0 hb_z 4 (by decide) | 5, _ => exact AC0 hb_z 5 (by decide) | 6, _ => exact AC0 hb_z 6 (by decide) | 7, _ => exact AC0 hb_z 7 (by decide)), (fun hb_z k hk_z => by match k, hk_z with | 0, _ => exact AC1 hb_z 0 (by decide) | 1, _ => exact AC1 hb_z 1 (by decide) | 2, _ => exact AC1 hb_z 2 (by decide) | 3, _ => exact AC1 hb_z 3 (by decide) | 4, _ => exact AC1 hb_z 4 (by decide) | 5, _ => exact AC1 hb_z 5 (by decide) | 6, _ => exact AC1 hb_z 6 (by decide) | 7, _ => exact AC1 hb_z 7 (by decide)), (fun hb_z k hk_z => by match k, hk_z with | 0, _ => exact AC2 hb_z 0 (by decide) | 1, _ => exact AC2 hb_z 1 (by decide) | 2, _ => exact AC2 hb_z 2 (by decide) | 3, _ => exact AC2 hb_z 3 (by decide) | 4, _ => exact AC2 hb_z 4 (by decide) | 5, _ => exact AC2 hb_z 5 (by decide) | 6, _ => exact AC2 hb_z 6 (by decide) | 7, _ => exact AC2 hb_z 7 (by decide)), fun hb_z => absurd hb_z (by rw [show rg_v h1101_z 2 2 = 3 from ecb]; decide)⟩, fun t ht => AD t ht, fun t ht => AE t ht, fun t ht => AG t ht⟩
              have B' : rp_t h1101_z h1104_z := by
                obtain ⟨b0_z, b1_z, b2_z, b3_z, b4_z, b5_z, b6_z, t, o0_z, o1_z, o2_z, o3_z, o4_z, o5_z, o6_z⟩ := B
                exact ⟨b0_z, b1_z, b2_z, b3_z, b4_z, b5_z, b6_z, t, o0_z, o1_z, o2_z, o3_z, o4_z, o5_z, o6_z⟩
              rcases pr_num R' (by decide) (by decide) q1108_z q1119_z with ⟨v27_z, x27_z, p27_z, rfl, rfl, lo27_z, hi27_z, R, le27_z, got, X, Y, t7_z, t167_z⟩ | ⟨rfl, F⟩
              · replace A := rp_x (by decide) A' X Y
                replace B := rp_tk B' t7_z t167_z Y
                clear A' B' R'
                replace le27_z : x.toInt ≤ p27_z.toInt := Int.le_trans (Int.le_trans le26_z R8) le27_z
                replace ecb : rg_v h1107_z 2 2 = 3 := (rx_v X (o := 2) (k := 2) (by decide)).trans ecb
                replace ect : rg_v h1107_z 2 4 = ct := (rx_v X (o := 2) (k := 4) (by decide)).trans ect
                replace ecl : rg_v h1107_z 2 9 = cl := (rx_v X (o := 2) (k := 9) (by decide)).trans ecl
                replace ecr : rg_v h1107_z 2 12 = cr := (rx_v X (o := 2) (k := 12) (by decide)).trans ecr
                replace E0 : rg_v h1107_z 22 0 = rg_v h1118_z 169 7 := (rx_v X (o := 22) (k := 0) (by decide)).trans (E0.trans (rx_w Y (o := 169) (k := 7) (by omega) (by decide)).symm)
                replace hm_z : rn _ _ _ _ [.int 1] _ _ _ := hm_z
                replace hc_z : rn _ _ _ _ [.int v27_z, .ref 22] _ _ _ := hc_z
                clear a1_z a2_z a3_z a4_z a5_z a6_z nb1_z nb2_z nb3_z nt1_z nt2_z nt3_z nl1_z nl2_z nl3_z nr1_z nr2_z nr3_z nk1_z nk2_z nk3_z AC0 AC1 AC2 AC3 AD AE AG c1_z c2_z c3_z c4_z c5_z c6_z c7_z c8_z m2_z m3_z m4_z m5_z m6_z m7_z m8_z R3 R4 R5 R6 R7 R8 R9 R10
                obtain ⟨⟨⟨a1_z, a2_z, a3_z, a4_z, a5_z, a6_z⟩, ⟨nb1_z, nb2_z, nb3_z⟩, ⟨nt1_z, nt2_z, nt3_z⟩, ⟨nl1_z, nl2_z, nl3_z⟩, ⟨nr1_z, nr2_z, nr3_z⟩, ⟨nk1_z, nk2_z, nk3_z⟩, ⟨AC0, AC1, AC2, AC3⟩, AD, AE, AG⟩, ⟨⟨c1_z, c2_z, c3_z, c4_z, c5_z, c6_z, c7_z, c8_z⟩, ⟨m2_z, m3_z, m4_z, m5_z, m6_z, m7_z, m8_z⟩, R3, R4, R5, R6, R7, R8, R9, R10⟩⟩ := (⟨A, R⟩ : rp 2 h1107_z h1118_z ∧ rq T S x27_z p27_z 2 h1107_z h1118_z)
                replace hc_z := rn_put (am_cur_of (i := (80, 3, .putfield 175, (3, 1, 206), 0)) (by decide +kernel)) (by decide +kernel) hc_z
                replace hc_z := rn_aload_n (am_cur_of (i := (83, 1, .aload_n 1, (0, 0, 0), 0)) (by decide +kernel)) g1_z hc_z
                replace hc_z := rn_aload_n (am_cur_of (i := (84, 1, .aload_n 0, (0, 0, 0), 0)) (by decide +kernel)) g0_z hc_z
                replace hc_z := rn_iconst (w := 0) (am_cur_of (i := (85, 1, .iconst 0, (0, 0, 0), 0)) (by decide +kernel)) (by decide) hc_z
                replace hc_z := rn_bipush (w := 20) (am_cur_of (i := (86, 2, .bipush 20, (0, 0, 0), 0)) (by decide +kernel)) (by decide) hc_z
                replace hc_z := rn_callV (M' := am_m30) (o := 44) (ar := [.int 20, .int 0]) (rest := [.ref 22]) (L := lv_args 0 [.ref 44, .int 0, .int 20]) (am_cur_of (i := (88, 3, .invokevirtual 142, (30, 773, 3), 0)) (by decide +kernel)) rfl rfl rfl rfl hc_z
                obtain ⟨r1120_z, h1121_z, q1122_z, hc_z⟩ := hc_z
                replace hm_z := rn_ifT (am_cur_of (i := (116, 3, .ifCond .ne 5, (69, 0, 0), 0)) (by decide +kernel)) (by decide) hm_z
                replace hm_z := rn_aload_n (am_cur_of (i := (121, 1, .aload_n 0, (0, 0, 0), 0)) (by decide +kernel)) g0m hm_z
                replace hm_z := rn_getR (x := 170) (am_cur_of (i := (122, 3, .getfield 30, (12, 25, 1409), 0)) (by decide +kernel)) (by decide +kernel) hm_z
                replace hm_z := rn_iload_n (am_cur_of (i := (125, 1, .iload_n 1, (0, 0, 0), 0)) (by decide +kernel)) g1m hm_z
                replace hm_z := rn_iload_n (am_cur_of (i := (126, 1, .iload_n 2, (0, 0, 0), 0)) (by decide +kernel)) g2m hm_z
                replace hm_z := rn_iadd (w := 49) (am_cur_of (i := (127, 1, .iadd, (0, 0, 0), 0)) (by decide +kernel)) (by decide) hm_z
                replace hm_z := rn_aload_n (am_cur_of (i := (128, 1, .aload_n 0, (0, 0, 0), 0)) (by decide +kernel)) g0m hm_z
                replace hm_z := rn_getI (v := v27_z) (am_cur_of (i := (129, 3, .getfield 188, (12, 11, 1395), 0)) (by decide +kernel)) (by decide +kernel) got hm_z
                replace hm_z := rn_iastore (N := 56) (q := 49) (am_cur_of (i := (132, 1, .iastore, (0, 0, 0), 0)) (by decide +kernel)) (by decide +kernel) rfl hm_z
                obtain ⟨p1123_z, hm_z⟩ := hm_z
                replace hm_z := rn_iinc (w := 1) (am_cur_of (i := (133, 3, .iinc 2 1, (0, 0, 0), 0)) (by decide +kernel)) g2m (by decide) hm_z
                obtain ⟨_, s1124_z, s1125_z, g2m, hm_z⟩ := hm_z
                replace g0m := s1124_z 0 _ (by decide) rfl g0m
                replace g1m := s1124_z 1 _ (by decide) rfl g1m
                replace g3m := s1124_z 3 _ (by decide) rfl g3m
                replace g4m := s1124_z 4 _ (by decide) rfl g4m
                clear s1124_z s1125_z
                replace hm_z := rn_goto (am_cur_of (i := (136, 3, .goto (-87), (29, 0, 0), 0)) (by decide +kernel)) hm_z
                replace hm_z := rn_iload_n (am_cur_of (i := (49, 1, .iload_n 2, (0, 0, 0), 0)) (by decide +kernel)) g2m hm_z
                replace hm_z := rn_bipush (w := 7) (am_cur_of (i := (50, 2, .bipush 7, (0, 0, 0), 0)) (by decide +kernel)) (by decide) hm_z
                replace hm_z := rn_cmpF (am_cur_of (i := (52, 3, .if_icmp .ge 87, (79, 0, 0), 0)) (by decide +kernel)) (by decide) hm_z
                replace hm_z := rn_iload_n (am_cur_of (i := (55, 1, .iload_n 2, (0, 0, 0), 0)) (by decide +kernel)) g2m hm_z
                replace hm_z := rn_ifF (am_cur_of (i := (56, 3, .ifCond .eq 13, (40, 0, 0), 0)) (by decide +kernel)) (by decide) hm_z
                replace hm_z := rn_iload_n (am_cur_of (i := (59, 1, .iload_n 2, (0, 0, 0), 0)) (by decide +kernel)) g2m hm_z
                replace hm_z := rn_iconst (w := 2) (am_cur_of (i := (60, 1, .iconst 2, (0, 0, 0), 0)) (by decide +kernel)) (by decide) hm_z
                replace hm_z := rn_cmpF (am_cur_of (i := (61, 3, .if_icmp .eq 8, (40, 0, 0), 0)) (by decide +kernel)) (by decide) hm_z
                replace hm_z := rn_iload_n (am_cur_of (i := (64, 1, .iload_n 2, (0, 0, 0), 0)) (by decide +kernel)) g2m hm_z
                replace hm_z := rn_iconst (w := 3) (am_cur_of (i := (65, 1, .iconst 3, (0, 0, 0), 0)) (by decide +kernel)) (by decide) hm_z
                replace hm_z := rn_cmpT (am_cur_of (i := (66, 3, .if_icmp .ne 7, (42, 0, 0), 0)) (by decide +kernel)) (by decide) hm_z
                replace hm_z := rn_iconst (w := 0) (am_cur_of (i := (73, 1, .iconst 0, (0, 0, 0), 0)) (by decide +kernel)) (by decide) hm_z
                replace hm_z := rn_istore_n (am_cur_of (i := (74, 1, .istore_n 3, (0, 0, 0), 0)) (by decide +kernel)) hm_z
                obtain ⟨_, s1126_z, s1127_z, g3m, hm_z⟩ := hm_z
                replace g0m := s1126_z 0 _ (by decide) rfl g0m
                replace g1m := s1126_z 1 _ (by decide) rfl g1m
                replace g2m := s1126_z 2 _ (by decide) rfl g2m
                replace g4m := s1126_z 4 _ (by decide) rfl g4m
                clear s1126_z s1127_z
                replace hm_z := rn_iload_n (am_cur_of (i := (75, 1, .iload_n 2, (0, 0, 0), 0)) (by decide +kernel)) g2m hm_z
                replace hm_z := rn_iconst (w := 1) (am_cur_of (i := (76, 1, .iconst 1, (0, 0, 0), 0)) (by decide +kernel)) (by decide) hm_z
                replace hm_z := rn_cmpT (am_cur_of (i := (77, 3, .if_icmp .eq 8, (50, 0, 0), 0)) (by decide +kernel)) (by decide) hm_z
                replace hm_z := rn_bipush (w := 20) (am_cur_of (i := (85, 2, .bipush 20, (0, 0, 0), 0)) (by decide +kernel)) (by decide) hm_z
                replace hm_z := rn_goto (am_cur_of (i := (87, 3, .goto 20, (61, 0, 0), 0)) (by decide +kernel)) hm_z
                replace hm_z := rn_istore (am_cur_of (i := (107, 2, .istore 4, (0, 0, 0), 0)) (by decide +kernel)) hm_z
                obtain ⟨_, s1128_z, s1129_z, g4m, hm_z⟩ := hm_z
                replace g0m := s1128_z 0 _ (by decide) rfl g0m
                replace g1m := s1128_z 1 _ (by decide) rfl g1m
                replace g2m := s1128_z 2 _ (by decide) rfl g2m
                replace g3m := s1128_z 3 _ (by decide) rfl g3m
                clear s1128_z s1129_z
                replace hm_z := rn_aload_n (am_cur_of (i := (109, 1, .aload_n 0, (0, 0, 0), 0)) (by decide +kernel)) g0m hm_z
                replace hm_z := rn_iload_n (am_cur_of (i := (110, 1, .iload_n 3, (0, 0, 0), 0)) (by decide +kernel)) g3m hm_z
                replace hm_z := rn_iload (am_cur_of (i := (111, 2, .iload 4, (0, 0, 0), 0)) (by decide +kernel)) g4m hm_z
                replace hm_z := rn_callV (M' := am_m161) (o := 164) (ar := [.int 20, .int 0]) (rest := []) (L := lv_args 0 [.ref 164, .int 0, .int 20]) (am_cur_of (i := (113, 3, .invokevirtual 197, (161, 1677, 3), 0)) (by decide +kernel)) rfl rfl rfl rfl hm_z
                obtain ⟨r1130_z, h1131_z, q1132_z, hm_z⟩ := hm_z
                have R' : rq T S x27_z p27_z 2 (am_up h1107_z 22 1 (.int v27_z)) (am_up h1118_z 170 49 (.int v27_z)) := ⟨⟨c1_z, c2_z, c3_z, c4_z, c5_z, c6_z, fun k hk_z => c7_z k hk_z, fun k hk_z => c8_z k hk_z⟩, ⟨m2_z, m3_z, m4_z, m5_z, m6_z, fun k hk_z => m7_z k hk_z, fun k hk_z => m8_z k hk_z⟩, R3, R4, R5, R6, R7, R8, R9, R10⟩
                have A' : rp 2 (am_up h1107_z 22 1 (.int v27_z)) (am_up h1118_z 170 49 (.int v27_z)) := ⟨⟨a1_z, a2_z, a3_z, a4_z, a5_z, a6_z⟩, ⟨nb1_z, nb2_z, nb3_z⟩, ⟨nt1_z, nt2_z, nt3_z⟩, ⟨nl1_z, nl2_z, nl3_z⟩, ⟨nr1_z, nr2_z, nr3_z⟩, ⟨nk1_z, nk2_z, nk3_z⟩, ⟨(fun hb_z k hk_z => by match k, hk_z with | 0, _ => exact AC0 hb_z 0 (by decide) | 1, _ => exact AC0 hb_z 1 (by decide) | 2, _ => exact AC0 hb_z 2 (by decide) | 3, _ => exact AC0 hb_z 3 (by decide) | 4, _ => exact AC0 hb_z 4 (by decide) | 5, _ => exact AC0 hb_z 5 (by decide) | 6, _ => exact AC0 hb_z 6 (by decide) | 7, _ => exact AC0 hb_z 7 (by decide)), (fun hb_z k hk_z => by match k, hk_z with | 0, _ => exact AC1 hb_z 0 (by decide) | 1, _ => exact AC1 hb_z 1 (by decide) | 2, _ => exact AC1 hb_z 2 (by decide) | 3, _ => exact AC1 hb_z 3 (by decide) | 4, _ => exact AC1 hb_z 4 (by decide) | 5, _ => exact AC1 hb_z 5 (by decide) | 6, _ => exact AC1 hb_z 6 (by decide) | 7, _ => exact AC1 hb_z 7 (by decide)), (fun hb_z k hk_z => by match k, hk_z with | 0, _ => exact AC2 hb_z 0 (by decide) | 1, _ => exact AC2 hb_z 1 (by decide) | 2, _ => exact AC2 hb_z 2 (by decide) | 3, _ => exact AC2 hb_z 3 (by decide) | 4, _ => exact AC2 hb_z 4 (by decide) | 5, _ => exact AC2 hb_z 5 (by decide) | 6, _ => exact AC2 hb_z 6 (by decide) | 7, _ => exact AC2 hb_z 7 (by decide)), fun hb_z => absurd hb_z (by rw [show rg_v (am_up h1107_z 22 1 (.int v27_z)) 2 2 = 3 from ecb]; decide)⟩, fun t ht => AD t ht, fun t ht => AE t ht, fun t ht => AG t ht⟩
                have B' : rp_t (am_up h1107_z 22 1 (.int v27_z)) (am_up h1118_z 170 49 (.int v27_z)) := by
                  obtain ⟨b0_z, b1_z, b2_z, b3_z, b4_z, b5_z, b6_z, t, o0_z, o1_z, o2_z, o3_z, o4_z, o5_z, o6_z⟩ := B
                  exact ⟨b0_z, b1_z, b2_z, b3_z, b4_z, b5_z, b6_z, t, o0_z, o1_z, o2_z, o3_z, o4_z, o5_z, o6_z⟩
                rcases pr_num R' (by decide) (by decide) q1122_z q1132_z with ⟨v28_z, x28_z, p28_z, rfl, rfl, lo28_z, hi28_z, R, le28_z, got, X, Y, t7_z, t167_z⟩ | ⟨rfl, F⟩
                · replace A := rp_x (by decide) A' X Y
                  replace B := rp_tk B' t7_z t167_z Y
                  clear A' B' R'
                  replace le28_z : x.toInt ≤ p28_z.toInt := Int.le_trans (Int.le_trans le27_z R8) le28_z
                  replace ecb : rg_v h1121_z 2 2 = 3 := (rx_v X (o := 2) (k := 2) (by decide)).trans ecb
                  replace ect : rg_v h1121_z 2 4 = ct := (rx_v X (o := 2) (k := 4) (by decide)).trans ect
                  replace ecl : rg_v h1121_z 2 9 = cl := (rx_v X (o := 2) (k := 9) (by decide)).trans ecl
                  replace ecr : rg_v h1121_z 2 12 = cr := (rx_v X (o := 2) (k := 12) (by decide)).trans ecr
                  replace E0 : rg_v h1121_z 22 0 = rg_v h1131_z 169 7 := (rx_v X (o := 22) (k := 0) (by decide)).trans (E0.trans (rx_w Y (o := 169) (k := 7) (by omega) (by decide)).symm)
                  have E1 : rg_v h1121_z 22 1 = rg_v h1131_z 170 49 := (rx_v X (o := 22) (k := 1) (by decide)).trans (Eq.trans (rfl) (rx_w Y (o := 170) (k := 49) (by omega) (by decide)).symm)
                  replace hm_z : rn _ _ _ _ [.int 1] _ _ _ := hm_z
                  replace hc_z : rn _ _ _ _ [.int v28_z, .ref 22] _ _ _ := hc_z
                  clear a1_z a2_z a3_z a4_z a5_z a6_z nb1_z nb2_z nb3_z nt1_z nt2_z nt3_z nl1_z nl2_z nl3_z nr1_z nr2_z nr3_z nk1_z nk2_z nk3_z AC0 AC1 AC2 AC3 AD AE AG c1_z c2_z c3_z c4_z c5_z c6_z c7_z c8_z m2_z m3_z m4_z m5_z m6_z m7_z m8_z R3 R4 R5 R6 R7 R8 R9 R10
                  obtain ⟨⟨⟨a1_z, a2_z, a3_z, a4_z, a5_z, a6_z⟩, ⟨nb1_z, nb2_z, nb3_z⟩, ⟨nt1_z, nt2_z, nt3_z⟩, ⟨nl1_z, nl2_z, nl3_z⟩, ⟨nr1_z, nr2_z, nr3_z⟩, ⟨nk1_z, nk2_z, nk3_z⟩, ⟨AC0, AC1, AC2, AC3⟩, AD, AE, AG⟩, ⟨⟨c1_z, c2_z, c3_z, c4_z, c5_z, c6_z, c7_z, c8_z⟩, ⟨m2_z, m3_z, m4_z, m5_z, m6_z, m7_z, m8_z⟩, R3, R4, R5, R6, R7, R8, R9, R10⟩⟩ := (⟨A, R⟩ : rp 2 h1121_z h1131_z ∧ rq T S x28_z p28_z 2 h1121_z h1131_z)
                  replace hc_z := rn_put (am_cur_of (i := (91, 3, .putfield 178, (3, 2, 208), 0)) (by decide +kernel)) (by decide +kernel) hc_z
                  replace hc_z := rn_aload_n (am_cur_of (i := (94, 1, .aload_n 1, (0, 0, 0), 0)) (by decide +kernel)) g1_z hc_z
                  replace hc_z := rn_aload_n (am_cur_of (i := (95, 1, .aload_n 0, (0, 0, 0), 0)) (by decide +kernel)) g0_z hc_z
                  replace hc_z := rn_iconst (w := 1) (am_cur_of (i := (96, 1, .iconst 1, (0, 0, 0), 0)) (by decide +kernel)) (by decide) hc_z
                  replace hc_z := rn_bipush (w := 20) (am_cur_of (i := (97, 2, .bipush 20, (0, 0, 0), 0)) (by decide +kernel)) (by decide) hc_z
                  replace hc_z := rn_callV (M' := am_m30) (o := 44) (ar := [.int 20, .int 1]) (rest := [.ref 22]) (L := lv_args 0 [.ref 44, .int 1, .int 20]) (am_cur_of (i := (99, 3, .invokevirtual 142, (30, 773, 3), 0)) (by decide +kernel)) rfl rfl rfl rfl hc_z
                  obtain ⟨r1133_z, h1134_z, q1135_z, hc_z⟩ := hc_z
                  replace hm_z := rn_ifT (am_cur_of (i := (116, 3, .ifCond .ne 5, (69, 0, 0), 0)) (by decide +kernel)) (by decide) hm_z
                  replace hm_z := rn_aload_n (am_cur_of (i := (121, 1, .aload_n 0, (0, 0, 0), 0)) (by decide +kernel)) g0m hm_z
                  replace hm_z := rn_getR (x := 170) (am_cur_of (i := (122, 3, .getfield 30, (12, 25, 1409), 0)) (by decide +kernel)) (by decide +kernel) hm_z
                  replace hm_z := rn_iload_n (am_cur_of (i := (125, 1, .iload_n 1, (0, 0, 0), 0)) (by decide +kernel)) g1m hm_z
                  replace hm_z := rn_iload_n (am_cur_of (i := (126, 1, .iload_n 2, (0, 0, 0), 0)) (by decide +kernel)) g2m hm_z
                  replace hm_z := rn_iadd (w := 50) (am_cur_of (i := (127, 1, .iadd, (0, 0, 0), 0)) (by decide +kernel)) (by decide) hm_z
                  replace hm_z := rn_aload_n (am_cur_of (i := (128, 1, .aload_n 0, (0, 0, 0), 0)) (by decide +kernel)) g0m hm_z
                  replace hm_z := rn_getI (v := v28_z) (am_cur_of (i := (129, 3, .getfield 188, (12, 11, 1395), 0)) (by decide +kernel)) (by decide +kernel) got hm_z
                  replace hm_z := rn_iastore (N := 56) (q := 50) (am_cur_of (i := (132, 1, .iastore, (0, 0, 0), 0)) (by decide +kernel)) (by decide +kernel) rfl hm_z
                  obtain ⟨p1136_z, hm_z⟩ := hm_z
                  replace hm_z := rn_iinc (w := 2) (am_cur_of (i := (133, 3, .iinc 2 1, (0, 0, 0), 0)) (by decide +kernel)) g2m (by decide) hm_z
                  obtain ⟨_, s1137_z, s1138_z, g2m, hm_z⟩ := hm_z
                  replace g0m := s1137_z 0 _ (by decide) rfl g0m
                  replace g1m := s1137_z 1 _ (by decide) rfl g1m
                  replace g3m := s1137_z 3 _ (by decide) rfl g3m
                  replace g4m := s1137_z 4 _ (by decide) rfl g4m
                  clear s1137_z s1138_z
                  replace hm_z := rn_goto (am_cur_of (i := (136, 3, .goto (-87), (29, 0, 0), 0)) (by decide +kernel)) hm_z
                  replace hm_z := rn_iload_n (am_cur_of (i := (49, 1, .iload_n 2, (0, 0, 0), 0)) (by decide +kernel)) g2m hm_z
                  replace hm_z := rn_bipush (w := 7) (am_cur_of (i := (50, 2, .bipush 7, (0, 0, 0), 0)) (by decide +kernel)) (by decide) hm_z
                  replace hm_z := rn_cmpF (am_cur_of (i := (52, 3, .if_icmp .ge 87, (79, 0, 0), 0)) (by decide +kernel)) (by decide) hm_z
                  replace hm_z := rn_iload_n (am_cur_of (i := (55, 1, .iload_n 2, (0, 0, 0), 0)) (by decide +kernel)) g2m hm_z
                  replace hm_z := rn_ifF (am_cur_of (i := (56, 3, .ifCond .eq 13, (40, 0, 0), 0)) (by decide +kernel)) (by decide) hm_z
                  replace hm_z := rn_iload_n (am_cur_of (i := (59, 1, .iload_n 2, (0, 0, 0), 0)) (by decide +kernel)) g2m hm_z
                  replace hm_z := rn_iconst (w := 2) (am_cur_of (i := (60, 1, .iconst 2, (0, 0, 0), 0)) (by decide +kernel)) (by decide) hm_z
                  replace hm_z := rn_cmpT (am_cur_of (i := (61, 3, .if_icmp .eq 8, (40, 0, 0), 0)) (by decide +kernel)) (by decide) hm_z
                  replace hm_z := rn_iconst (w := 1) (am_cur_of (i := (69, 1, .iconst 1, (0, 0, 0), 0)) (by decide +kernel)) (by decide) hm_z
                  replace hm_z := rn_goto (am_cur_of (i := (70, 3, .goto 4, (43, 0, 0), 0)) (by decide +kernel)) hm_z
                  replace hm_z := rn_istore_n (am_cur_of (i := (74, 1, .istore_n 3, (0, 0, 0), 0)) (by decide +kernel)) hm_z
                  obtain ⟨_, s1139_z, s1140_z, g3m, hm_z⟩ := hm_z
                  replace g0m := s1139_z 0 _ (by decide) rfl g0m
                  replace g1m := s1139_z 1 _ (by decide) rfl g1m
                  replace g2m := s1139_z 2 _ (by decide) rfl g2m
                  replace g4m := s1139_z 4 _ (by decide) rfl g4m
                  clear s1139_z s1140_z
                  replace hm_z := rn_iload_n (am_cur_of (i := (75, 1, .iload_n 2, (0, 0, 0), 0)) (by decide +kernel)) g2m hm_z
                  replace hm_z := rn_iconst (w := 1) (am_cur_of (i := (76, 1, .iconst 1, (0, 0, 0), 0)) (by decide +kernel)) (by decide) hm_z
                  replace hm_z := rn_cmpF (am_cur_of (i := (77, 3, .if_icmp .eq 8, (50, 0, 0), 0)) (by decide +kernel)) (by decide) hm_z
                  replace hm_z := rn_iload_n (am_cur_of (i := (80, 1, .iload_n 2, (0, 0, 0), 0)) (by decide +kernel)) g2m hm_z
                  replace hm_z := rn_iconst (w := 2) (am_cur_of (i := (81, 1, .iconst 2, (0, 0, 0), 0)) (by decide +kernel)) (by decide) hm_z
                  replace hm_z := rn_cmpF (am_cur_of (i := (82, 3, .if_icmp .ne 8, (52, 0, 0), 0)) (by decide +kernel)) (by decide) hm_z
                  replace hm_z := rn_bipush (w := 20) (am_cur_of (i := (85, 2, .bipush 20, (0, 0, 0), 0)) (by decide +kernel)) (by decide) hm_z
                  replace hm_z := rn_goto (am_cur_of (i := (87, 3, .goto 20, (61, 0, 0), 0)) (by decide +kernel)) hm_z
                  replace hm_z := rn_istore (am_cur_of (i := (107, 2, .istore 4, (0, 0, 0), 0)) (by decide +kernel)) hm_z
                  obtain ⟨_, s1141_z, s1142_z, g4m, hm_z⟩ := hm_z
                  replace g0m := s1141_z 0 _ (by decide) rfl g0m
                  replace g1m := s1141_z 1 _ (by decide) rfl g1m
                  replace g2m := s1141_z 2 _ (by decide) rfl g2m
                  replace g3m := s1141_z 3 _ (by decide) rfl g3m
                  clear s1141_z s1142_z
                  replace hm_z := rn_aload_n (am_cur_of (i := (109, 1, .aload_n 0, (0, 0, 0), 0)) (by decide +kernel)) g0m hm_z
                  replace hm_z := rn_iload_n (am_cur_of (i := (110, 1, .iload_n 3, (0, 0, 0), 0)) (by decide +kernel)) g3m hm_z
                  replace hm_z := rn_iload (am_cur_of (i := (111, 2, .iload 4, (0, 0, 0), 0)) (by decide +kernel)) g4m hm_z
                  replace hm_z := rn_callV (M' := am_m161) (o := 164) (ar := [.int 20, .int 1]) (rest := []) (L := lv_args 0 [.ref 164, .int 1, .int 20]) (am_cur_of (i := (113, 3, .invokevirtual 197, (161, 1677, 3), 0)) (by decide +kernel)) rfl rfl rfl rfl hm_z
                  obtain ⟨r1143_z, h1144_z, q1145_z, hm_z⟩ := hm_z
                  have R' : rq T S x28_z p28_z 2 (am_up h1121_z 22 2 (.int v28_z)) (am_up h1131_z 170 50 (.int v28_z)) := ⟨⟨c1_z, c2_z, c3_z, c4_z, c5_z, c6_z, fun k hk_z => c7_z k hk_z, fun k hk_z => c8_z k hk_z⟩, ⟨m2_z, m3_z, m4_z, m5_z, m6_z, fun k hk_z => m7_z k hk_z, fun k hk_z => m8_z k hk_z⟩, R3, R4, R5, R6, R7, R8, R9, R10⟩
                  have A' : rp 2 (am_up h1121_z 22 2 (.int v28_z)) (am_up h1131_z 170 50 (.int v28_z)) := ⟨⟨a1_z, a2_z, a3_z, a4_z, a5_z, a6_z⟩, ⟨nb1_z, nb2_z, nb3_z⟩, ⟨nt1_z, nt2_z, nt3_z⟩, ⟨nl1_z, nl2_z, nl3_z⟩, ⟨nr1_z, nr2_z, nr3_z⟩, ⟨nk1_z, nk2_z, nk3_z⟩, ⟨(fun hb_z k hk_z => by match k, hk_z with | 0, _ => exact AC0 hb_z 0 (by decide) | 1, _ => exact AC0 hb_z 1 (by decide) | 2, _ => exact AC0 hb_z 2 (by decide) | 3, _ => exact AC0 hb_z 3 (by decide) | 4, _ => exact AC0 hb_z 4 (by decide) | 5, _ => exact AC0 hb_z 5 (by decide) | 6, _ => exact AC0 hb_z 6 (by decide) | 7, _ => exact AC0 hb_z 7 (by decide)), (fun hb_z k hk_z => by match k, hk_z with | 0, _ => exact AC1 hb_z 0 (by decide) | 1, _ => exact AC1 hb_z 1 (by decide) | 2, _ => exact AC1 hb_z 2 (by decide) | 3, _ => exact AC1 hb_z 3 (by decide) | 4, _ => exact AC1 hb_z 4 (by decide) | 5, _ => exact AC1 hb_z 5 (by decide) | 6, _ => exact AC1 hb_z 6 (by decide) | 7, _ => exact AC1 hb_z 7 (by decide)), (fun hb_z k hk_z => by match k, hk_z with | 0, _ => exact AC2 hb_z 0 (by decide) | 1, _ => exact AC2 hb_z 1 (by decide) | 2, _ => exact AC2 hb_z 2 (by decide) | 3, _ => exact AC2 hb_z 3 (by decide) | 4, _ => exact AC2 hb_z 4 (by decide) | 5, _ => exact AC2 hb_z 5 (by decide) | 6, _ => exact AC2 hb_z 6 (by decide) | 7, _ => exact AC2 hb_z 7 (by decide)), fun hb_z => absurd hb_z (by rw [show rg_v (am_up h1121_z 22 2 (.int v28_z)) 2 2 = 3 from ecb]; decide)⟩, fun t ht => AD t ht, fun t ht => AE t ht, fun t ht => AG t ht⟩
                  have B' : rp_t (am_up h1121_z 22 2 (.int v28_z)) (am_up h1131_z 170 50 (.int v28_z)) := by
                    obtain ⟨b0_z, b1_z, b2_z, b3_z, b4_z, b5_z, b6_z, t, o0_z, o1_z, o2_z, o3_z, o4_z, o5_z, o6_z⟩ := B
                    exact ⟨b0_z, b1_z, b2_z, b3_z, b4_z, b5_z, b6_z, t, o0_z, o1_z, o2_z, o3_z, o4_z, o5_z, o6_z⟩
                  rcases pr_num R' (by decide) (by decide) q1135_z q1145_z with ⟨v29_z, x29_z, p29_z, rfl, rfl, lo29_z, hi29_z, R, le29_z, got, X, Y, t7_z, t167_z⟩ | ⟨rfl, F⟩
                  · replace A := rp_x (by decide) A' X Y
                    replace B := rp_tk B' t7_z t167_z Y
                    clear A' B' R'
                    replace le29_z : x.toInt ≤ p29_z.toInt := Int.le_trans (Int.le_trans le28_z R8) le29_z
                    replace ecb : rg_v h1134_z 2 2 = 3 := (rx_v X (o := 2) (k := 2) (by decide)).trans ecb
                    replace ect : rg_v h1134_z 2 4 = ct := (rx_v X (o := 2) (k := 4) (by decide)).trans ect
                    replace ecl : rg_v h1134_z 2 9 = cl := (rx_v X (o := 2) (k := 9) (by decide)).trans ecl
                    replace ecr : rg_v h1134_z 2 12 = cr := (rx_v X (o := 2) (k := 12) (by decide)).trans ecr
                    replace E0 : rg_v h1134_z 22 0 = rg_v h1144_z 169 7 := (rx_v X (o := 22) (k := 0) (by decide)).trans (E0.trans (rx_w Y (o := 169) (k := 7) (by omega) (by decide)).symm)
                    replace E1 : rg_v h1134_z 22 1 = rg_v h1144_z 170 49 := (rx_v X (o := 22) (k := 1) (by decide)).trans (E1.trans (rx_w Y (o := 170) (k := 49) (by omega) (by decide)).symm)
                    have E2 : rg_v h1134_z 22 2 = rg_v h1144_z 170 50 := (rx_v X (o := 22) (k := 2) (by decide)).trans (Eq.trans (rfl) (rx_w Y (o := 170) (k := 50) (by omega) (by decide)).symm)
                    replace hm_z : rn _ _ _ _ [.int 1] _ _ _ := hm_z
                    replace hc_z : rn _ _ _ _ [.int v29_z, .ref 22] _ _ _ := hc_z
                    clear a1_z a2_z a3_z a4_z a5_z a6_z nb1_z nb2_z nb3_z nt1_z nt2_z nt3_z nl1_z nl2_z nl3_z nr1_z nr2_z nr3_z nk1_z nk2_z nk3_z AC0 AC1 AC2 AC3 AD AE AG c1_z c2_z c3_z c4_z c5_z c6_z c7_z c8_z m2_z m3_z m4_z m5_z m6_z m7_z m8_z R3 R4 R5 R6 R7 R8 R9 R10
                    obtain ⟨⟨⟨a1_z, a2_z, a3_z, a4_z, a5_z, a6_z⟩, ⟨nb1_z, nb2_z, nb3_z⟩, ⟨nt1_z, nt2_z, nt3_z⟩, ⟨nl1_z, nl2_z, nl3_z⟩, ⟨nr1_z, nr2_z, nr3_z⟩, ⟨nk1_z, nk2_z, nk3_z⟩, ⟨AC0, AC1, AC2, AC3⟩, AD, AE, AG⟩, ⟨⟨c1_z, c2_z, c3_z, c4_z, c5_z, c6_z, c7_z, c8_z⟩, ⟨m2_z, m3_z, m4_z, m5_z, m6_z, m7_z, m8_z⟩, R3, R4, R5, R6, R7, R8, R9, R10⟩⟩ := (⟨A, R⟩ : rp 2 h1134_z h1144_z ∧ rq T S x29_z p29_z 2 h1134_z h1144_z)
                    replace hc_z := rn_put (am_cur_of (i := (102, 3, .putfield 181, (3, 3, 211), 0)) (by decide +kernel)) (by decide +kernel) hc_z
                    replace hc_z := rn_aload_n (am_cur_of (i := (105, 1, .aload_n 1, (0, 0, 0), 0)) (by decide +kernel)) g1_z hc_z
                    replace hc_z := rn_aload_n (am_cur_of (i := (106, 1, .aload_n 0, (0, 0, 0), 0)) (by decide +kernel)) g0_z hc_z
                    replace hc_z := rn_iconst (w := 1) (am_cur_of (i := (107, 1, .iconst 1, (0, 0, 0), 0)) (by decide +kernel)) (by decide) hc_z
                    replace hc_z := rn_bipush (w := 9) (am_cur_of (i := (108, 2, .bipush 9, (0, 0, 0), 0)) (by decide +kernel)) (by decide) hc_z
                    replace hc_z := rn_callV (M' := am_m30) (o := 44) (ar := [.int 9, .int 1]) (rest := [.ref 22]) (L := lv_args 0 [.ref 44, .int 1, .int 9]) (am_cur_of (i := (110, 3, .invokevirtual 142, (30, 773, 3), 0)) (by decide +kernel)) rfl rfl rfl rfl hc_z
                    obtain ⟨r1146_z, h1147_z, q1148_z, hc_z⟩ := hc_z
                    replace hm_z := rn_ifT (am_cur_of (i := (116, 3, .ifCond .ne 5, (69, 0, 0), 0)) (by decide +kernel)) (by decide) hm_z
                    replace hm_z := rn_aload_n (am_cur_of (i := (121, 1, .aload_n 0, (0, 0, 0), 0)) (by decide +kernel)) g0m hm_z
                    replace hm_z := rn_getR (x := 170) (am_cur_of (i := (122, 3, .getfield 30, (12, 25, 1409), 0)) (by decide +kernel)) (by decide +kernel) hm_z
                    replace hm_z := rn_iload_n (am_cur_of (i := (125, 1, .iload_n 1, (0, 0, 0), 0)) (by decide +kernel)) g1m hm_z
                    replace hm_z := rn_iload_n (am_cur_of (i := (126, 1, .iload_n 2, (0, 0, 0), 0)) (by decide +kernel)) g2m hm_z
                    replace hm_z := rn_iadd (w := 51) (am_cur_of (i := (127, 1, .iadd, (0, 0, 0), 0)) (by decide +kernel)) (by decide) hm_z
                    replace hm_z := rn_aload_n (am_cur_of (i := (128, 1, .aload_n 0, (0, 0, 0), 0)) (by decide +kernel)) g0m hm_z
                    replace hm_z := rn_getI (v := v29_z) (am_cur_of (i := (129, 3, .getfield 188, (12, 11, 1395), 0)) (by decide +kernel)) (by decide +kernel) got hm_z
                    replace hm_z := rn_iastore (N := 56) (q := 51) (am_cur_of (i := (132, 1, .iastore, (0, 0, 0), 0)) (by decide +kernel)) (by decide +kernel) rfl hm_z
                    obtain ⟨p1149_z, hm_z⟩ := hm_z
                    replace hm_z := rn_iinc (w := 3) (am_cur_of (i := (133, 3, .iinc 2 1, (0, 0, 0), 0)) (by decide +kernel)) g2m (by decide) hm_z
                    obtain ⟨_, s1150_z, s1151_z, g2m, hm_z⟩ := hm_z
                    replace g0m := s1150_z 0 _ (by decide) rfl g0m
                    replace g1m := s1150_z 1 _ (by decide) rfl g1m
                    replace g3m := s1150_z 3 _ (by decide) rfl g3m
                    replace g4m := s1150_z 4 _ (by decide) rfl g4m
                    clear s1150_z s1151_z
                    replace hm_z := rn_goto (am_cur_of (i := (136, 3, .goto (-87), (29, 0, 0), 0)) (by decide +kernel)) hm_z
                    replace hm_z := rn_iload_n (am_cur_of (i := (49, 1, .iload_n 2, (0, 0, 0), 0)) (by decide +kernel)) g2m hm_z
                    replace hm_z := rn_bipush (w := 7) (am_cur_of (i := (50, 2, .bipush 7, (0, 0, 0), 0)) (by decide +kernel)) (by decide) hm_z
                    replace hm_z := rn_cmpF (am_cur_of (i := (52, 3, .if_icmp .ge 87, (79, 0, 0), 0)) (by decide +kernel)) (by decide) hm_z
                    replace hm_z := rn_iload_n (am_cur_of (i := (55, 1, .iload_n 2, (0, 0, 0), 0)) (by decide +kernel)) g2m hm_z
                    replace hm_z := rn_ifF (am_cur_of (i := (56, 3, .ifCond .eq 13, (40, 0, 0), 0)) (by decide +kernel)) (by decide) hm_z
                    replace hm_z := rn_iload_n (am_cur_of (i := (59, 1, .iload_n 2, (0, 0, 0), 0)) (by decide +kernel)) g2m hm_z
                    replace hm_z := rn_iconst (w := 2) (am_cur_of (i := (60, 1, .iconst 2, (0, 0, 0), 0)) (by decide +kernel)) (by decide) hm_z
                    replace hm_z := rn_cmpF (am_cur_of (i := (61, 3, .if_icmp .eq 8, (40, 0, 0), 0)) (by decide +kernel)) (by decide) hm_z
                    replace hm_z := rn_iload_n (am_cur_of (i := (64, 1, .iload_n 2, (0, 0, 0), 0)) (by decide +kernel)) g2m hm_z
                    replace hm_z := rn_iconst (w := 3) (am_cur_of (i := (65, 1, .iconst 3, (0, 0, 0), 0)) (by decide +kernel)) (by decide) hm_z
                    replace hm_z := rn_cmpF (am_cur_of (i := (66, 3, .if_icmp .ne 7, (42, 0, 0), 0)) (by decide +kernel)) (by decide) hm_z
                    replace hm_z := rn_iconst (w := 1) (am_cur_of (i := (69, 1, .iconst 1, (0, 0, 0), 0)) (by decide +kernel)) (by decide) hm_z
                    replace hm_z := rn_goto (am_cur_of (i := (70, 3, .goto 4, (43, 0, 0), 0)) (by decide +kernel)) hm_z
                    replace hm_z := rn_istore_n (am_cur_of (i := (74, 1, .istore_n 3, (0, 0, 0), 0)) (by decide +kernel)) hm_z
                    obtain ⟨_, s1152_z, s1153_z, g3m, hm_z⟩ := hm_z
                    replace g0m := s1152_z 0 _ (by decide) rfl g0m
                    replace g1m := s1152_z 1 _ (by decide) rfl g1m
                    replace g2m := s1152_z 2 _ (by decide) rfl g2m
                    replace g4m := s1152_z 4 _ (by decide) rfl g4m
                    clear s1152_z s1153_z
                    replace hm_z := rn_iload_n (am_cur_of (i := (75, 1, .iload_n 2, (0, 0, 0), 0)) (by decide +kernel)) g2m hm_z
                    replace hm_z := rn_iconst (w := 1) (am_cur_of (i := (76, 1, .iconst 1, (0, 0, 0), 0)) (by decide +kernel)) (by decide) hm_z
                    replace hm_z := rn_cmpF (am_cur_of (i := (77, 3, .if_icmp .eq 8, (50, 0, 0), 0)) (by decide +kernel)) (by decide) hm_z
                    replace hm_z := rn_iload_n (am_cur_of (i := (80, 1, .iload_n 2, (0, 0, 0), 0)) (by decide +kernel)) g2m hm_z
                    replace hm_z := rn_iconst (w := 2) (am_cur_of (i := (81, 1, .iconst 2, (0, 0, 0), 0)) (by decide +kernel)) (by decide) hm_z
                    replace hm_z := rn_cmpT (am_cur_of (i := (82, 3, .if_icmp .ne 8, (52, 0, 0), 0)) (by decide +kernel)) (by decide) hm_z
                    replace hm_z := rn_iload_n (am_cur_of (i := (90, 1, .iload_n 2, (0, 0, 0), 0)) (by decide +kernel)) g2m hm_z
                    replace hm_z := rn_iconst (w := 3) (am_cur_of (i := (91, 1, .iconst 3, (0, 0, 0), 0)) (by decide +kernel)) (by decide) hm_z
                    replace hm_z := rn_cmpT (am_cur_of (i := (92, 3, .if_icmp .eq 8, (58, 0, 0), 0)) (by decide +kernel)) (by decide) hm_z
                    replace hm_z := rn_bipush (w := 9) (am_cur_of (i := (100, 2, .bipush 9, (0, 0, 0), 0)) (by decide +kernel)) (by decide) hm_z
                    replace hm_z := rn_goto (am_cur_of (i := (102, 3, .goto 5, (61, 0, 0), 0)) (by decide +kernel)) hm_z
                    replace hm_z := rn_istore (am_cur_of (i := (107, 2, .istore 4, (0, 0, 0), 0)) (by decide +kernel)) hm_z
                    obtain ⟨_, s1154_z, s1155_z, g4m, hm_z⟩ := hm_z
                    replace g0m := s1154_z 0 _ (by decide) rfl g0m
                    replace g1m := s1154_z 1 _ (by decide) rfl g1m
                    replace g2m := s1154_z 2 _ (by decide) rfl g2m
                    replace g3m := s1154_z 3 _ (by decide) rfl g3m
                    clear s1154_z s1155_z
                    replace hm_z := rn_aload_n (am_cur_of (i := (109, 1, .aload_n 0, (0, 0, 0), 0)) (by decide +kernel)) g0m hm_z
                    replace hm_z := rn_iload_n (am_cur_of (i := (110, 1, .iload_n 3, (0, 0, 0), 0)) (by decide +kernel)) g3m hm_z
                    replace hm_z := rn_iload (am_cur_of (i := (111, 2, .iload 4, (0, 0, 0), 0)) (by decide +kernel)) g4m hm_z
                    replace hm_z := rn_callV (M' := am_m161) (o := 164) (ar := [.int 9, .int 1]) (rest := []) (L := lv_args 0 [.ref 164, .int 1, .int 9]) (am_cur_of (i := (113, 3, .invokevirtual 197, (161, 1677, 3), 0)) (by decide +kernel)) rfl rfl rfl rfl hm_z
                    obtain ⟨r1156_z, h1157_z, q1158_z, hm_z⟩ := hm_z
                    have R' : rq T S x29_z p29_z 2 (am_up h1134_z 22 3 (.int v29_z)) (am_up h1144_z 170 51 (.int v29_z)) := ⟨⟨c1_z, c2_z, c3_z, c4_z, c5_z, c6_z, fun k hk_z => c7_z k hk_z, fun k hk_z => c8_z k hk_z⟩, ⟨m2_z, m3_z, m4_z, m5_z, m6_z, fun k hk_z => m7_z k hk_z, fun k hk_z => m8_z k hk_z⟩, R3, R4, R5, R6, R7, R8, R9, R10⟩
                    have A' : rp 2 (am_up h1134_z 22 3 (.int v29_z)) (am_up h1144_z 170 51 (.int v29_z)) := ⟨⟨a1_z, a2_z, a3_z, a4_z, a5_z, a6_z⟩, ⟨nb1_z, nb2_z, nb3_z⟩, ⟨nt1_z, nt2_z, nt3_z⟩, ⟨nl1_z, nl2_z, nl3_z⟩, ⟨nr1_z, nr2_z, nr3_z⟩, ⟨nk1_z, nk2_z, nk3_z⟩, ⟨(fun hb_z k hk_z => by match k, hk_z with | 0, _ => exact AC0 hb_z 0 (by decide) | 1, _ => exact AC0 hb_z 1 (by decide) | 2, _ => exact AC0 hb_z 2 (by decide) | 3, _ => exact AC0 hb_z 3 (by decide) | 4, _ => exact AC0 hb_z 4 (by decide) | 5, _ => exact AC0 hb_z 5 (by decide) | 6, _ => exact AC0 hb_z 6 (by decide) | 7, _ => exact AC0 hb_z 7 (by decide)), (fun hb_z k hk_z => by match k, hk_z with | 0, _ => exact AC1 hb_z 0 (by decide) | 1, _ => exact AC1 hb_z 1 (by decide) | 2, _ => exact AC1 hb_z 2 (by decide) | 3, _ => exact AC1 hb_z 3 (by decide) | 4, _ => exact AC1 hb_z 4 (by decide) | 5, _ => exact AC1 hb_z 5 (by decide) | 6, _ => exact AC1 hb_z 6 (by decide) | 7, _ => exact AC1 hb_z 7 (by decide)), (fun hb_z k hk_z => by match k, hk_z with | 0, _ => exact AC2 hb_z 0 (by decide) | 1, _ => exact AC2 hb_z 1 (by decide) | 2, _ => exact AC2 hb_z 2 (by decide) | 3, _ => exact AC2 hb_z 3 (by decide) | 4, _ => exact AC2 hb_z 4 (by decide) | 5, _ => exact AC2 hb_z 5 (by decide) | 6, _ => exact AC2 hb_z 6 (by decide) | 7, _ => exact AC2 hb_z 7 (by decide)), fun hb_z => absurd hb_z (by rw [show rg_v (am_up h1134_z 22 3 (.int v29_z)) 2 2 = 3 from ecb]; decide)⟩, fun t ht => AD t ht, fun t ht => AE t ht, fun t ht => AG t ht⟩
                    have B' : rp_t (am_up h1134_z 22 3 (.int v29_z)) (am_up h1144_z 170 51 (.int v29_z)) := by
                      obtain ⟨b0_z, b1_z, b2_z, b3_z, b4_z, b5_z, b6_z, t, o0_z, o1_z, o2_z, o3_z, o4_z, o5_z, o6_z⟩ := B
                      exact ⟨b0_z, b1_z, b2_z, b3_z, b4_z, b5_z, b6_z, t, o0_z, o1_z, o2_z, o3_z, o4_z, o5_z, o6_z⟩
                    rcases pr_num R' (by decide) (by decide) q1148_z q1158_z with ⟨v30_z, x30_z, p30_z, rfl, rfl, lo30_z, hi30_z, R, le30_z, got, X, Y, t7_z, t167_z⟩ | ⟨rfl, F⟩
                    · replace A := rp_x (by decide) A' X Y
                      replace B := rp_tk B' t7_z t167_z Y
                      clear A' B' R'
                      replace le30_z : x.toInt ≤ p30_z.toInt := Int.le_trans (Int.le_trans le29_z R8) le30_z
                      replace ecb : rg_v h1147_z 2 2 = 3 := (rx_v X (o := 2) (k := 2) (by decide)).trans ecb
                      replace ect : rg_v h1147_z 2 4 = ct := (rx_v X (o := 2) (k := 4) (by decide)).trans ect
                      replace ecl : rg_v h1147_z 2 9 = cl := (rx_v X (o := 2) (k := 9) (by decide)).trans ecl
                      replace ecr : rg_v h1147_z 2 12 = cr := (rx_v X (o := 2) (k := 12) (by decide)).trans ecr
                      replace E0 : rg_v h1147_z 22 0 = rg_v h1157_z 169 7 := (rx_v X (o := 22) (k := 0) (by decide)).trans (E0.trans (rx_w Y (o := 169) (k := 7) (by omega) (by decide)).symm)
                      replace E1 : rg_v h1147_z 22 1 = rg_v h1157_z 170 49 := (rx_v X (o := 22) (k := 1) (by decide)).trans (E1.trans (rx_w Y (o := 170) (k := 49) (by omega) (by decide)).symm)
                      replace E2 : rg_v h1147_z 22 2 = rg_v h1157_z 170 50 := (rx_v X (o := 22) (k := 2) (by decide)).trans (E2.trans (rx_w Y (o := 170) (k := 50) (by omega) (by decide)).symm)
                      have E3 : rg_v h1147_z 22 3 = rg_v h1157_z 170 51 := (rx_v X (o := 22) (k := 3) (by decide)).trans (Eq.trans (rfl) (rx_w Y (o := 170) (k := 51) (by omega) (by decide)).symm)
                      replace hm_z : rn _ _ _ _ [.int 1] _ _ _ := hm_z
                      replace hc_z : rn _ _ _ _ [.int v30_z, .ref 22] _ _ _ := hc_z
                      clear a1_z a2_z a3_z a4_z a5_z a6_z nb1_z nb2_z nb3_z nt1_z nt2_z nt3_z nl1_z nl2_z nl3_z nr1_z nr2_z nr3_z nk1_z nk2_z nk3_z AC0 AC1 AC2 AC3 AD AE AG c1_z c2_z c3_z c4_z c5_z c6_z c7_z c8_z m2_z m3_z m4_z m5_z m6_z m7_z m8_z R3 R4 R5 R6 R7 R8 R9 R10
                      obtain ⟨⟨⟨a1_z, a2_z, a3_z, a4_z, a5_z, a6_z⟩, ⟨nb1_z, nb2_z, nb3_z⟩, ⟨nt1_z, nt2_z, nt3_z⟩, ⟨nl1_z, nl2_z, nl3_z⟩, ⟨nr1_z, nr2_z, nr3_z⟩, ⟨nk1_z, nk2_z, nk3_z⟩, ⟨AC0, AC1, AC2, AC3⟩, AD, AE, AG⟩, ⟨⟨c1_z, c2_z, c3_z, c4_z, c5_z, c6_z, c7_z, c8_z⟩, ⟨m2_z, m3_z, m4_z, m5_z, m6_z, m7_z, m8_z⟩, R3, R4, R5, R6, R7, R8, R9, R10⟩⟩ := (⟨A, R⟩ : rp 2 h1147_z h1157_z ∧ rq T S x30_z p30_z 2 h1147_z h1157_z)
                      replace hc_z := rn_put (am_cur_of (i := (113, 3, .putfield 184, (3, 4, 216), 0)) (by decide +kernel)) (by decide +kernel) hc_z
                      replace hc_z := rn_aload_n (am_cur_of (i := (116, 1, .aload_n 1, (0, 0, 0), 0)) (by decide +kernel)) g1_z hc_z
                      replace hc_z := rn_aload_n (am_cur_of (i := (117, 1, .aload_n 0, (0, 0, 0), 0)) (by decide +kernel)) g0_z hc_z
                      replace hc_z := rn_iconst (w := 0) (am_cur_of (i := (118, 1, .iconst 0, (0, 0, 0), 0)) (by decide +kernel)) (by decide) hc_z
                      replace hc_z := rn_bipush (w := 99) (am_cur_of (i := (119, 2, .bipush 99, (0, 0, 0), 0)) (by decide +kernel)) (by decide) hc_z
                      replace hc_z := rn_callV (M' := am_m30) (o := 44) (ar := [.int 99, .int 0]) (rest := [.ref 22]) (L := lv_args 0 [.ref 44, .int 0, .int 99]) (am_cur_of (i := (121, 3, .invokevirtual 142, (30, 773, 3), 0)) (by decide +kernel)) rfl rfl rfl rfl hc_z
                      obtain ⟨r1159_z, h1160_z, q1161_z, hc_z⟩ := hc_z
                      replace hm_z := rn_ifT (am_cur_of (i := (116, 3, .ifCond .ne 5, (69, 0, 0), 0)) (by decide +kernel)) (by decide) hm_z
                      replace hm_z := rn_aload_n (am_cur_of (i := (121, 1, .aload_n 0, (0, 0, 0), 0)) (by decide +kernel)) g0m hm_z
                      replace hm_z := rn_getR (x := 170) (am_cur_of (i := (122, 3, .getfield 30, (12, 25, 1409), 0)) (by decide +kernel)) (by decide +kernel) hm_z
                      replace hm_z := rn_iload_n (am_cur_of (i := (125, 1, .iload_n 1, (0, 0, 0), 0)) (by decide +kernel)) g1m hm_z
                      replace hm_z := rn_iload_n (am_cur_of (i := (126, 1, .iload_n 2, (0, 0, 0), 0)) (by decide +kernel)) g2m hm_z
                      replace hm_z := rn_iadd (w := 52) (am_cur_of (i := (127, 1, .iadd, (0, 0, 0), 0)) (by decide +kernel)) (by decide) hm_z
                      replace hm_z := rn_aload_n (am_cur_of (i := (128, 1, .aload_n 0, (0, 0, 0), 0)) (by decide +kernel)) g0m hm_z
                      replace hm_z := rn_getI (v := v30_z) (am_cur_of (i := (129, 3, .getfield 188, (12, 11, 1395), 0)) (by decide +kernel)) (by decide +kernel) got hm_z
                      replace hm_z := rn_iastore (N := 56) (q := 52) (am_cur_of (i := (132, 1, .iastore, (0, 0, 0), 0)) (by decide +kernel)) (by decide +kernel) rfl hm_z
                      obtain ⟨p1162_z, hm_z⟩ := hm_z
                      replace hm_z := rn_iinc (w := 4) (am_cur_of (i := (133, 3, .iinc 2 1, (0, 0, 0), 0)) (by decide +kernel)) g2m (by decide) hm_z
                      obtain ⟨_, s1163_z, s1164_z, g2m, hm_z⟩ := hm_z
                      replace g0m := s1163_z 0 _ (by decide) rfl g0m
                      replace g1m := s1163_z 1 _ (by decide) rfl g1m
                      replace g3m := s1163_z 3 _ (by decide) rfl g3m
                      replace g4m := s1163_z 4 _ (by decide) rfl g4m
                      clear s1163_z s1164_z
                      replace hm_z := rn_goto (am_cur_of (i := (136, 3, .goto (-87), (29, 0, 0), 0)) (by decide +kernel)) hm_z
                      replace hm_z := rn_iload_n (am_cur_of (i := (49, 1, .iload_n 2, (0, 0, 0), 0)) (by decide +kernel)) g2m hm_z
                      replace hm_z := rn_bipush (w := 7) (am_cur_of (i := (50, 2, .bipush 7, (0, 0, 0), 0)) (by decide +kernel)) (by decide) hm_z
                      replace hm_z := rn_cmpF (am_cur_of (i := (52, 3, .if_icmp .ge 87, (79, 0, 0), 0)) (by decide +kernel)) (by decide) hm_z
                      replace hm_z := rn_iload_n (am_cur_of (i := (55, 1, .iload_n 2, (0, 0, 0), 0)) (by decide +kernel)) g2m hm_z
                      replace hm_z := rn_ifF (am_cur_of (i := (56, 3, .ifCond .eq 13, (40, 0, 0), 0)) (by decide +kernel)) (by decide) hm_z
                      replace hm_z := rn_iload_n (am_cur_of (i := (59, 1, .iload_n 2, (0, 0, 0), 0)) (by decide +kernel)) g2m hm_z
                      replace hm_z := rn_iconst (w := 2) (am_cur_of (i := (60, 1, .iconst 2, (0, 0, 0), 0)) (by decide +kernel)) (by decide) hm_z
                      replace hm_z := rn_cmpF (am_cur_of (i := (61, 3, .if_icmp .eq 8, (40, 0, 0), 0)) (by decide +kernel)) (by decide) hm_z
                      replace hm_z := rn_iload_n (am_cur_of (i := (64, 1, .iload_n 2, (0, 0, 0), 0)) (by decide +kernel)) g2m hm_z
                      replace hm_z := rn_iconst (w := 3) (am_cur_of (i := (65, 1, .iconst 3, (0, 0, 0), 0)) (by decide +kernel)) (by decide) hm_z
                      replace hm_z := rn_cmpT (am_cur_of (i := (66, 3, .if_icmp .ne 7, (42, 0, 0), 0)) (by decide +kernel)) (by decide) hm_z
                      replace hm_z := rn_iconst (w := 0) (am_cur_of (i := (73, 1, .iconst 0, (0, 0, 0), 0)) (by decide +kernel)) (by decide) hm_z
                      replace hm_z := rn_istore_n (am_cur_of (i := (74, 1, .istore_n 3, (0, 0, 0), 0)) (by decide +kernel)) hm_z
                      obtain ⟨_, s1165_z, s1166_z, g3m, hm_z⟩ := hm_z
                      replace g0m := s1165_z 0 _ (by decide) rfl g0m
                      replace g1m := s1165_z 1 _ (by decide) rfl g1m
                      replace g2m := s1165_z 2 _ (by decide) rfl g2m
                      replace g4m := s1165_z 4 _ (by decide) rfl g4m
                      clear s1165_z s1166_z
                      replace hm_z := rn_iload_n (am_cur_of (i := (75, 1, .iload_n 2, (0, 0, 0), 0)) (by decide +kernel)) g2m hm_z
                      replace hm_z := rn_iconst (w := 1) (am_cur_of (i := (76, 1, .iconst 1, (0, 0, 0), 0)) (by decide +kernel)) (by decide) hm_z
                      replace hm_z := rn_cmpF (am_cur_of (i := (77, 3, .if_icmp .eq 8, (50, 0, 0), 0)) (by decide +kernel)) (by decide) hm_z
                      replace hm_z := rn_iload_n (am_cur_of (i := (80, 1, .iload_n 2, (0, 0, 0), 0)) (by decide +kernel)) g2m hm_z
                      replace hm_z := rn_iconst (w := 2) (am_cur_of (i := (81, 1, .iconst 2, (0, 0, 0), 0)) (by decide +kernel)) (by decide) hm_z
                      replace hm_z := rn_cmpT (am_cur_of (i := (82, 3, .if_icmp .ne 8, (52, 0, 0), 0)) (by decide +kernel)) (by decide) hm_z
                      replace hm_z := rn_iload_n (am_cur_of (i := (90, 1, .iload_n 2, (0, 0, 0), 0)) (by decide +kernel)) g2m hm_z
                      replace hm_z := rn_iconst (w := 3) (am_cur_of (i := (91, 1, .iconst 3, (0, 0, 0), 0)) (by decide +kernel)) (by decide) hm_z
                      replace hm_z := rn_cmpF (am_cur_of (i := (92, 3, .if_icmp .eq 8, (58, 0, 0), 0)) (by decide +kernel)) (by decide) hm_z
                      replace hm_z := rn_iload_n (am_cur_of (i := (95, 1, .iload_n 2, (0, 0, 0), 0)) (by decide +kernel)) g2m hm_z
                      replace hm_z := rn_iconst (w := 5) (am_cur_of (i := (96, 1, .iconst 5, (0, 0, 0), 0)) (by decide +kernel)) (by decide) hm_z
                      replace hm_z := rn_cmpT (am_cur_of (i := (97, 3, .if_icmp .ne 8, (60, 0, 0), 0)) (by decide +kernel)) (by decide) hm_z
                      replace hm_z := rn_bipush (w := 99) (am_cur_of (i := (105, 2, .bipush 99, (0, 0, 0), 0)) (by decide +kernel)) (by decide) hm_z
                      replace hm_z := rn_istore (am_cur_of (i := (107, 2, .istore 4, (0, 0, 0), 0)) (by decide +kernel)) hm_z
                      obtain ⟨_, s1167_z, s1168_z, g4m, hm_z⟩ := hm_z
                      replace g0m := s1167_z 0 _ (by decide) rfl g0m
                      replace g1m := s1167_z 1 _ (by decide) rfl g1m
                      replace g2m := s1167_z 2 _ (by decide) rfl g2m
                      replace g3m := s1167_z 3 _ (by decide) rfl g3m
                      clear s1167_z s1168_z
                      replace hm_z := rn_aload_n (am_cur_of (i := (109, 1, .aload_n 0, (0, 0, 0), 0)) (by decide +kernel)) g0m hm_z
                      replace hm_z := rn_iload_n (am_cur_of (i := (110, 1, .iload_n 3, (0, 0, 0), 0)) (by decide +kernel)) g3m hm_z
                      replace hm_z := rn_iload (am_cur_of (i := (111, 2, .iload 4, (0, 0, 0), 0)) (by decide +kernel)) g4m hm_z
                      replace hm_z := rn_callV (M' := am_m161) (o := 164) (ar := [.int 99, .int 0]) (rest := []) (L := lv_args 0 [.ref 164, .int 0, .int 99]) (am_cur_of (i := (113, 3, .invokevirtual 197, (161, 1677, 3), 0)) (by decide +kernel)) rfl rfl rfl rfl hm_z
                      obtain ⟨r1169_z, h1170_z, q1171_z, hm_z⟩ := hm_z
                      have R' : rq T S x30_z p30_z 2 (am_up h1147_z 22 4 (.int v30_z)) (am_up h1157_z 170 52 (.int v30_z)) := ⟨⟨c1_z, c2_z, c3_z, c4_z, c5_z, c6_z, fun k hk_z => c7_z k hk_z, fun k hk_z => c8_z k hk_z⟩, ⟨m2_z, m3_z, m4_z, m5_z, m6_z, fun k hk_z => m7_z k hk_z, fun k hk_z => m8_z k hk_z⟩, R3, R4, R5, R6, R7, R8, R9, R10⟩
                      have A' : rp 2 (am_up h1147_z 22 4 (.int v30_z)) (am_up h1157_z 170 52 (.int v30_z)) := ⟨⟨a1_z, a2_z, a3_z, a4_z, a5_z, a6_z⟩, ⟨nb1_z, nb2_z, nb3_z⟩, ⟨nt1_z, nt2_z, nt3_z⟩, ⟨nl1_z, nl2_z, nl3_z⟩, ⟨nr1_z, nr2_z, nr3_z⟩, ⟨nk1_z, nk2_z, nk3_z⟩, ⟨(fun hb_z k hk_z => by match k, hk_z with | 0, _ => exact AC0 hb_z 0 (by decide) | 1, _ => exact AC0 hb_z 1 (by decide) | 2, _ => exact AC0 hb_z 2 (by decide) | 3, _ => exact AC0 hb_z 3 (by decide) | 4, _ => exact AC0 hb_z 4 (by decide) | 5, _ => exact AC0 hb_z 5 (by decide) | 6, _ => exact AC0 hb_z 6 (by decide) | 7, _ => exact AC0 hb_z 7 (by decide)), (fun hb_z k hk_z => by match k, hk_z with | 0, _ => exact AC1 hb_z 0 (by decide) | 1, _ => exact AC1 hb_z 1 (by decide) | 2, _ => exact AC1 hb_z 2 (by decide) | 3, _ => exact AC1 hb_z 3 (by decide) | 4, _ => exact AC1 hb_z 4 (by decide) | 5, _ => exact AC1 hb_z 5 (by decide) | 6, _ => exact AC1 hb_z 6 (by decide) | 7, _ => exact AC1 hb_z 7 (by decide)), (fun hb_z k hk_z => by match k, hk_z with | 0, _ => exact AC2 hb_z 0 (by decide) | 1, _ => exact AC2 hb_z 1 (by decide) | 2, _ => exact AC2 hb_z 2 (by decide) | 3, _ => exact AC2 hb_z 3 (by decide) | 4, _ => exact AC2 hb_z 4 (by decide) | 5, _ => exact AC2 hb_z 5 (by decide) | 6, _ => exact AC2 hb_z 6 (by decide) | 7, _ => exact AC2 hb_z 7 (by decide)), fun hb_z => absurd hb_z (by rw [show rg_v (am_up h1147_z 22 4 (.int v30_z)) 2 2 = 3 from ecb]; decide)⟩, fun t ht => AD t ht, fun t ht => AE t ht, fun t ht => AG t ht⟩
                      have B' : rp_t (am_up h1147_z 22 4 (.int v30_z)) (am_up h1157_z 170 52 (.int v30_z)) := by
                        obtain ⟨b0_z, b1_z, b2_z, b3_z, b4_z, b5_z, b6_z, t, o0_z, o1_z, o2_z, o3_z, o4_z, o5_z, o6_z⟩ := B
                        exact ⟨b0_z, b1_z, b2_z, b3_z, b4_z, b5_z, b6_z, t, o0_z, o1_z, o2_z, o3_z, o4_z, o5_z, o6_z⟩
                      rcases pr_num R' (by decide) (by decide) q1161_z q1171_z with ⟨v31_z, x31_z, p31_z, rfl, rfl, lo31_z, hi31_z, R, le31_z, got, X, Y, t7_z, t167_z⟩ | ⟨rfl, F⟩
                      · replace A := rp_x (by decide) A' X Y
                        replace B := rp_tk B' t7_z t167_z Y
                        clear A' B' R'
                        replace le31_z : x.toInt ≤ p31_z.toInt := Int.le_trans (Int.le_trans le30_z R8) le31_z
                        replace ecb : rg_v h1160_z 2 2 = 3 := (rx_v X (o := 2) (k := 2) (by decide)).trans ecb
                        replace ect : rg_v h1160_z 2 4 = ct := (rx_v X (o := 2) (k := 4) (by decide)).trans ect
                        replace ecl : rg_v h1160_z 2 9 = cl := (rx_v X (o := 2) (k := 9) (by decide)).trans ecl
                        replace ecr : rg_v h1160_z 2 12 = cr := (rx_v X (o := 2) (k := 12) (by decide)).trans ecr
                        replace E0 : rg_v h1160_z 22 0 = rg_v h1170_z 169 7 := (rx_v X (o := 22) (k := 0) (by decide)).trans (E0.trans (rx_w Y (o := 169) (k := 7) (by omega) (by decide)).symm)
                        replace E1 : rg_v h1160_z 22 1 = rg_v h1170_z 170 49 := (rx_v X (o := 22) (k := 1) (by decide)).trans (E1.trans (rx_w Y (o := 170) (k := 49) (by omega) (by decide)).symm)
                        replace E2 : rg_v h1160_z 22 2 = rg_v h1170_z 170 50 := (rx_v X (o := 22) (k := 2) (by decide)).trans (E2.trans (rx_w Y (o := 170) (k := 50) (by omega) (by decide)).symm)
                        replace E3 : rg_v h1160_z 22 3 = rg_v h1170_z 170 51 := (rx_v X (o := 22) (k := 3) (by decide)).trans (E3.trans (rx_w Y (o := 170) (k := 51) (by omega) (by decide)).symm)
                        have E4 : rg_v h1160_z 22 4 = rg_v h1170_z 170 52 := (rx_v X (o := 22) (k := 4) (by decide)).trans (Eq.trans (rfl) (rx_w Y (o := 170) (k := 52) (by omega) (by decide)).symm)
                        replace hm_z : rn _ _ _ _ [.int 1] _ _ _ := hm_z
                        replace hc_z : rn _ _ _ _ [.int v31_z, .ref 22] _ _ _ := hc_z
                        clear a1_z a2_z a3_z a4_z a5_z a6_z nb1_z nb2_z nb3_z nt1_z nt2_z nt3_z nl1_z nl2_z nl3_z nr1_z nr2_z nr3_z nk1_z nk2_z nk3_z AC0 AC1 AC2 AC3 AD AE AG c1_z c2_z c3_z c4_z c5_z c6_z c7_z c8_z m2_z m3_z m4_z m5_z m6_z m7_z m8_z R3 R4 R5 R6 R7 R8 R9 R10
                        obtain ⟨⟨⟨a1_z, a2_z, a3_z, a4_z, a5_z, a6_z⟩, ⟨nb1_z, nb2_z, nb3_z⟩, ⟨nt1_z, nt2_z, nt3_z⟩, ⟨nl1_z, nl2_z, nl3_z⟩, ⟨nr1_z, nr2_z, nr3_z⟩, ⟨nk1_z, nk2_z, nk3_z⟩, ⟨AC0, AC1, AC2, AC3⟩, AD, AE, AG⟩, ⟨⟨c1_z, c2_z, c3_z, c4_z, c5_z, c6_z, c7_z, c8_z⟩, ⟨m2_z, m3_z, m4_z, m5_z, m6_z, m7_z, m8_z⟩, R3, R4, R5, R6, R7, R8, R9, R10⟩⟩ := (⟨A, R⟩ : rp 2 h1160_z h1170_z ∧ rq T S x31_z p31_z 2 h1160_z h1170_z)
                        replace hc_z := rn_put (am_cur_of (i := (124, 3, .putfield 187, (3, 5, 218), 0)) (by decide +kernel)) (by decide +kernel) hc_z
                        replace hc_z := rn_aload_n (am_cur_of (i := (127, 1, .aload_n 1, (0, 0, 0), 0)) (by decide +kernel)) g1_z hc_z
                        replace hc_z := rn_aload_n (am_cur_of (i := (128, 1, .aload_n 0, (0, 0, 0), 0)) (by decide +kernel)) g0_z hc_z
                        replace hc_z := rn_iconst (w := 0) (am_cur_of (i := (129, 1, .iconst 0, (0, 0, 0), 0)) (by decide +kernel)) (by decide) hc_z
                        replace hc_z := rn_bipush (w := 9) (am_cur_of (i := (130, 2, .bipush 9, (0, 0, 0), 0)) (by decide +kernel)) (by decide) hc_z
                        replace hc_z := rn_callV (M' := am_m30) (o := 44) (ar := [.int 9, .int 0]) (rest := [.ref 22]) (L := lv_args 0 [.ref 44, .int 0, .int 9]) (am_cur_of (i := (132, 3, .invokevirtual 142, (30, 773, 3), 0)) (by decide +kernel)) rfl rfl rfl rfl hc_z
                        obtain ⟨r1172_z, h1173_z, q1174_z, hc_z⟩ := hc_z
                        replace hm_z := rn_ifT (am_cur_of (i := (116, 3, .ifCond .ne 5, (69, 0, 0), 0)) (by decide +kernel)) (by decide) hm_z
                        replace hm_z := rn_aload_n (am_cur_of (i := (121, 1, .aload_n 0, (0, 0, 0), 0)) (by decide +kernel)) g0m hm_z
                        replace hm_z := rn_getR (x := 170) (am_cur_of (i := (122, 3, .getfield 30, (12, 25, 1409), 0)) (by decide +kernel)) (by decide +kernel) hm_z
                        replace hm_z := rn_iload_n (am_cur_of (i := (125, 1, .iload_n 1, (0, 0, 0), 0)) (by decide +kernel)) g1m hm_z
                        replace hm_z := rn_iload_n (am_cur_of (i := (126, 1, .iload_n 2, (0, 0, 0), 0)) (by decide +kernel)) g2m hm_z
                        replace hm_z := rn_iadd (w := 53) (am_cur_of (i := (127, 1, .iadd, (0, 0, 0), 0)) (by decide +kernel)) (by decide) hm_z
                        replace hm_z := rn_aload_n (am_cur_of (i := (128, 1, .aload_n 0, (0, 0, 0), 0)) (by decide +kernel)) g0m hm_z
                        replace hm_z := rn_getI (v := v31_z) (am_cur_of (i := (129, 3, .getfield 188, (12, 11, 1395), 0)) (by decide +kernel)) (by decide +kernel) got hm_z
                        replace hm_z := rn_iastore (N := 56) (q := 53) (am_cur_of (i := (132, 1, .iastore, (0, 0, 0), 0)) (by decide +kernel)) (by decide +kernel) rfl hm_z
                        obtain ⟨p1175_z, hm_z⟩ := hm_z
                        replace hm_z := rn_iinc (w := 5) (am_cur_of (i := (133, 3, .iinc 2 1, (0, 0, 0), 0)) (by decide +kernel)) g2m (by decide) hm_z
                        obtain ⟨_, s1176_z, s1177_z, g2m, hm_z⟩ := hm_z
                        replace g0m := s1176_z 0 _ (by decide) rfl g0m
                        replace g1m := s1176_z 1 _ (by decide) rfl g1m
                        replace g3m := s1176_z 3 _ (by decide) rfl g3m
                        replace g4m := s1176_z 4 _ (by decide) rfl g4m
                        clear s1176_z s1177_z
                        replace hm_z := rn_goto (am_cur_of (i := (136, 3, .goto (-87), (29, 0, 0), 0)) (by decide +kernel)) hm_z
                        replace hm_z := rn_iload_n (am_cur_of (i := (49, 1, .iload_n 2, (0, 0, 0), 0)) (by decide +kernel)) g2m hm_z
                        replace hm_z := rn_bipush (w := 7) (am_cur_of (i := (50, 2, .bipush 7, (0, 0, 0), 0)) (by decide +kernel)) (by decide) hm_z
                        replace hm_z := rn_cmpF (am_cur_of (i := (52, 3, .if_icmp .ge 87, (79, 0, 0), 0)) (by decide +kernel)) (by decide) hm_z
                        replace hm_z := rn_iload_n (am_cur_of (i := (55, 1, .iload_n 2, (0, 0, 0), 0)) (by decide +kernel)) g2m hm_z
                        replace hm_z := rn_ifF (am_cur_of (i := (56, 3, .ifCond .eq 13, (40, 0, 0), 0)) (by decide +kernel)) (by decide) hm_z
                        replace hm_z := rn_iload_n (am_cur_of (i := (59, 1, .iload_n 2, (0, 0, 0), 0)) (by decide +kernel)) g2m hm_z
                        replace hm_z := rn_iconst (w := 2) (am_cur_of (i := (60, 1, .iconst 2, (0, 0, 0), 0)) (by decide +kernel)) (by decide) hm_z
                        replace hm_z := rn_cmpF (am_cur_of (i := (61, 3, .if_icmp .eq 8, (40, 0, 0), 0)) (by decide +kernel)) (by decide) hm_z
                        replace hm_z := rn_iload_n (am_cur_of (i := (64, 1, .iload_n 2, (0, 0, 0), 0)) (by decide +kernel)) g2m hm_z
                        replace hm_z := rn_iconst (w := 3) (am_cur_of (i := (65, 1, .iconst 3, (0, 0, 0), 0)) (by decide +kernel)) (by decide) hm_z
                        replace hm_z := rn_cmpT (am_cur_of (i := (66, 3, .if_icmp .ne 7, (42, 0, 0), 0)) (by decide +kernel)) (by decide) hm_z
                        replace hm_z := rn_iconst (w := 0) (am_cur_of (i := (73, 1, .iconst 0, (0, 0, 0), 0)) (by decide +kernel)) (by decide) hm_z
                        replace hm_z := rn_istore_n (am_cur_of (i := (74, 1, .istore_n 3, (0, 0, 0), 0)) (by decide +kernel)) hm_z
                        obtain ⟨_, s1178_z, s1179_z, g3m, hm_z⟩ := hm_z
                        replace g0m := s1178_z 0 _ (by decide) rfl g0m
                        replace g1m := s1178_z 1 _ (by decide) rfl g1m
                        replace g2m := s1178_z 2 _ (by decide) rfl g2m
                        replace g4m := s1178_z 4 _ (by decide) rfl g4m
                        clear s1178_z s1179_z
                        replace hm_z := rn_iload_n (am_cur_of (i := (75, 1, .iload_n 2, (0, 0, 0), 0)) (by decide +kernel)) g2m hm_z
                        replace hm_z := rn_iconst (w := 1) (am_cur_of (i := (76, 1, .iconst 1, (0, 0, 0), 0)) (by decide +kernel)) (by decide) hm_z
                        replace hm_z := rn_cmpF (am_cur_of (i := (77, 3, .if_icmp .eq 8, (50, 0, 0), 0)) (by decide +kernel)) (by decide) hm_z
                        replace hm_z := rn_iload_n (am_cur_of (i := (80, 1, .iload_n 2, (0, 0, 0), 0)) (by decide +kernel)) g2m hm_z
                        replace hm_z := rn_iconst (w := 2) (am_cur_of (i := (81, 1, .iconst 2, (0, 0, 0), 0)) (by decide +kernel)) (by decide) hm_z
                        replace hm_z := rn_cmpT (am_cur_of (i := (82, 3, .if_icmp .ne 8, (52, 0, 0), 0)) (by decide +kernel)) (by decide) hm_z
                        replace hm_z := rn_iload_n (am_cur_of (i := (90, 1, .iload_n 2, (0, 0, 0), 0)) (by decide +kernel)) g2m hm_z
                        replace hm_z := rn_iconst (w := 3) (am_cur_of (i := (91, 1, .iconst 3, (0, 0, 0), 0)) (by decide +kernel)) (by decide) hm_z
                        replace hm_z := rn_cmpF (am_cur_of (i := (92, 3, .if_icmp .eq 8, (58, 0, 0), 0)) (by decide +kernel)) (by decide) hm_z
                        replace hm_z := rn_iload_n (am_cur_of (i := (95, 1, .iload_n 2, (0, 0, 0), 0)) (by decide +kernel)) g2m hm_z
                        replace hm_z := rn_iconst (w := 5) (am_cur_of (i := (96, 1, .iconst 5, (0, 0, 0), 0)) (by decide +kernel)) (by decide) hm_z
                        replace hm_z := rn_cmpF (am_cur_of (i := (97, 3, .if_icmp .ne 8, (60, 0, 0), 0)) (by decide +kernel)) (by decide) hm_z
                        replace hm_z := rn_bipush (w := 9) (am_cur_of (i := (100, 2, .bipush 9, (0, 0, 0), 0)) (by decide +kernel)) (by decide) hm_z
                        replace hm_z := rn_goto (am_cur_of (i := (102, 3, .goto 5, (61, 0, 0), 0)) (by decide +kernel)) hm_z
                        replace hm_z := rn_istore (am_cur_of (i := (107, 2, .istore 4, (0, 0, 0), 0)) (by decide +kernel)) hm_z
                        obtain ⟨_, s1180_z, s1181_z, g4m, hm_z⟩ := hm_z
                        replace g0m := s1180_z 0 _ (by decide) rfl g0m
                        replace g1m := s1180_z 1 _ (by decide) rfl g1m
                        replace g2m := s1180_z 2 _ (by decide) rfl g2m
                        replace g3m := s1180_z 3 _ (by decide) rfl g3m
                        clear s1180_z s1181_z
                        replace hm_z := rn_aload_n (am_cur_of (i := (109, 1, .aload_n 0, (0, 0, 0), 0)) (by decide +kernel)) g0m hm_z
                        replace hm_z := rn_iload_n (am_cur_of (i := (110, 1, .iload_n 3, (0, 0, 0), 0)) (by decide +kernel)) g3m hm_z
                        replace hm_z := rn_iload (am_cur_of (i := (111, 2, .iload 4, (0, 0, 0), 0)) (by decide +kernel)) g4m hm_z
                        replace hm_z := rn_callV (M' := am_m161) (o := 164) (ar := [.int 9, .int 0]) (rest := []) (L := lv_args 0 [.ref 164, .int 0, .int 9]) (am_cur_of (i := (113, 3, .invokevirtual 197, (161, 1677, 3), 0)) (by decide +kernel)) rfl rfl rfl rfl hm_z
                        obtain ⟨r1182_z, h1183_z, q1184_z, hm_z⟩ := hm_z
                        have R' : rq T S x31_z p31_z 2 (am_up h1160_z 22 5 (.int v31_z)) (am_up h1170_z 170 53 (.int v31_z)) := ⟨⟨c1_z, c2_z, c3_z, c4_z, c5_z, c6_z, fun k hk_z => c7_z k hk_z, fun k hk_z => c8_z k hk_z⟩, ⟨m2_z, m3_z, m4_z, m5_z, m6_z, fun k hk_z => m7_z k hk_z, fun k hk_z => m8_z k hk_z⟩, R3, R4, R5, R6, R7, R8, R9, R10⟩
                        have A' : rp 2 (am_up h1160_z 22 5 (.int v31_z)) (am_up h1170_z 170 53 (.int v31_z)) := ⟨⟨a1_z, a2_z, a3_z, a4_z, a5_z, a6_z⟩, ⟨nb1_z, nb2_z, nb3_z⟩, ⟨nt1_z, nt2_z, nt3_z⟩, ⟨nl1_z, nl2_z, nl3_z⟩, ⟨nr1_z, nr2_z, nr3_z⟩, ⟨nk1_z, nk2_z, nk3_z⟩, ⟨(fun hb_z k hk_z => by match k, hk_z with | 0, _ => exact AC0 hb_z 0 (by decide) | 1, _ => exact AC0 hb_z 1 (by decide) | 2, _ => exact AC0 hb_z 2 (by decide) | 3, _ => exact AC0 hb_z 3 (by decide) | 4, _ => exact AC0 hb_z 4 (by decide) | 5, _ => exact AC0 hb_z 5 (by decide) | 6, _ => exact AC0 hb_z 6 (by decide) | 7, _ => exact AC0 hb_z 7 (by decide)), (fun hb_z k hk_z => by match k, hk_z with | 0, _ => exact AC1 hb_z 0 (by decide) | 1, _ => exact AC1 hb_z 1 (by decide) | 2, _ => exact AC1 hb_z 2 (by decide) | 3, _ => exact AC1 hb_z 3 (by decide) | 4, _ => exact AC1 hb_z 4 (by decide) | 5, _ => exact AC1 hb_z 5 (by decide) | 6, _ => exact AC1 hb_z 6 (by decide) | 7, _ => exact AC1 hb_z 7 (by decide)), (fun hb_z k hk_z => by match k, hk_z with | 0, _ => exact AC2 hb_z 0 (by decide) | 1, _ => exact AC2 hb_z 1 (by decide) | 2, _ => exact AC2 hb_z 2 (by decide) | 3, _ => exact AC2 hb_z 3 (by decide) | 4, _ => exact AC2 hb_z 4 (by decide) | 5, _ => exact AC2 hb_z 5 (by decide) | 6, _ => exact AC2 hb_z 6 (by decide) | 7, _ => exact AC2 hb_z 7 (by decide)), fun hb_z => absurd hb_z (by rw [show rg_v (am_up h1160_z 22 5 (.int v31_z)) 2 2 = 3 from ecb]; decide)⟩, fun t ht => AD t ht, fun t ht => AE t ht, fun t ht => AG t ht⟩
                        have B' : rp_t (am_up h1160_z 22 5 (.int v31_z)) (am_up h1170_z 170 53 (.int v31_z)) := by
                          obtain ⟨b0_z, b1_z, b2_z, b3_z, b4_z, b5_z, b6_z, t, o0_z, o1_z, o2_z, o3_z, o4_z, o5_z, o6_z⟩ := B
                          exact ⟨b0_z, b1_z, b2_z, b3_z, b4_z, b5_z, b6_z, t, o0_z, o1_z, o2_z, o3_z, o4_z, o5_z, o6_z⟩
                        rcases pr_num R' (by decide) (by decide) q1174_z q1184_z with ⟨v32_z, x32_z, p32_z, rfl, rfl, lo32_z, hi32_z, R, le32_z, got, X, Y, t7_z, t167_z⟩ | ⟨rfl, F⟩
                        · replace A := rp_x (by decide) A' X Y
                          replace B := rp_tk B' t7_z t167_z Y
                          clear A' B' R'
                          replace le32_z : x.toInt ≤ p32_z.toInt := Int.le_trans (Int.le_trans le31_z R8) le32_z
                          replace ecb : rg_v h1173_z 2 2 = 3 := (rx_v X (o := 2) (k := 2) (by decide)).trans ecb
                          replace ect : rg_v h1173_z 2 4 = ct := (rx_v X (o := 2) (k := 4) (by decide)).trans ect
                          replace ecl : rg_v h1173_z 2 9 = cl := (rx_v X (o := 2) (k := 9) (by decide)).trans ecl
                          replace ecr : rg_v h1173_z 2 12 = cr := (rx_v X (o := 2) (k := 12) (by decide)).trans ecr
                          replace E0 : rg_v h1173_z 22 0 = rg_v h1183_z 169 7 := (rx_v X (o := 22) (k := 0) (by decide)).trans (E0.trans (rx_w Y (o := 169) (k := 7) (by omega) (by decide)).symm)
                          replace E1 : rg_v h1173_z 22 1 = rg_v h1183_z 170 49 := (rx_v X (o := 22) (k := 1) (by decide)).trans (E1.trans (rx_w Y (o := 170) (k := 49) (by omega) (by decide)).symm)
                          replace E2 : rg_v h1173_z 22 2 = rg_v h1183_z 170 50 := (rx_v X (o := 22) (k := 2) (by decide)).trans (E2.trans (rx_w Y (o := 170) (k := 50) (by omega) (by decide)).symm)
                          replace E3 : rg_v h1173_z 22 3 = rg_v h1183_z 170 51 := (rx_v X (o := 22) (k := 3) (by decide)).trans (E3.trans (rx_w Y (o := 170) (k := 51) (by omega) (by decide)).symm)
                          replace E4 : rg_v h1173_z 22 4 = rg_v h1183_z 170 52 := (rx_v X (o := 22) (k := 4) (by decide)).trans (E4.trans (rx_w Y (o := 170) (k := 52) (by omega) (by decide)).symm)
                          have E5 : rg_v h1173_z 22 5 = rg_v h1183_z 170 53 := (rx_v X (o := 22) (k := 5) (by decide)).trans (Eq.trans (rfl) (rx_w Y (o := 170) (k := 53) (by omega) (by decide)).symm)
                          replace hm_z : rn _ _ _ _ [.int 1] _ _ _ := hm_z
                          replace hc_z : rn _ _ _ _ [.int v32_z, .ref 22] _ _ _ := hc_z
                          clear a1_z a2_z a3_z a4_z a5_z a6_z nb1_z nb2_z nb3_z nt1_z nt2_z nt3_z nl1_z nl2_z nl3_z nr1_z nr2_z nr3_z nk1_z nk2_z nk3_z AC0 AC1 AC2 AC3 AD AE AG c1_z c2_z c3_z c4_z c5_z c6_z c7_z c8_z m2_z m3_z m4_z m5_z m6_z m7_z m8_z R3 R4 R5 R6 R7 R8 R9 R10
                          obtain ⟨⟨⟨a1_z, a2_z, a3_z, a4_z, a5_z, a6_z⟩, ⟨nb1_z, nb2_z, nb3_z⟩, ⟨nt1_z, nt2_z, nt3_z⟩, ⟨nl1_z, nl2_z, nl3_z⟩, ⟨nr1_z, nr2_z, nr3_z⟩, ⟨nk1_z, nk2_z, nk3_z⟩, ⟨AC0, AC1, AC2, AC3⟩, AD, AE, AG⟩, ⟨⟨c1_z, c2_z, c3_z, c4_z, c5_z, c6_z, c7_z, c8_z⟩, ⟨m2_z, m3_z, m4_z, m5_z, m6_z, m7_z, m8_z⟩, R3, R4, R5, R6, R7, R8, R9, R10⟩⟩ := (⟨A, R⟩ : rp 2 h1173_z h1183_z ∧ rq T S x32_z p32_z 2 h1173_z h1183_z)
                          replace hc_z := rn_put (am_cur_of (i := (135, 3, .putfield 190, (3, 6, 220), 0)) (by decide +kernel)) (by decide +kernel) hc_z
                          replace hc_z := rn_aload_n (am_cur_of (i := (138, 1, .aload_n 1, (0, 0, 0), 0)) (by decide +kernel)) g1_z hc_z
                          replace hc_z := rn_aload_n (am_cur_of (i := (139, 1, .aload_n 0, (0, 0, 0), 0)) (by decide +kernel)) g0_z hc_z
                          replace hc_z := rn_iconst (w := 0) (am_cur_of (i := (140, 1, .iconst 0, (0, 0, 0), 0)) (by decide +kernel)) (by decide) hc_z
                          replace hc_z := rn_bipush (w := 99) (am_cur_of (i := (141, 2, .bipush 99, (0, 0, 0), 0)) (by decide +kernel)) (by decide) hc_z
                          replace hc_z := rn_callV (M' := am_m30) (o := 44) (ar := [.int 99, .int 0]) (rest := [.ref 22]) (L := lv_args 0 [.ref 44, .int 0, .int 99]) (am_cur_of (i := (143, 3, .invokevirtual 142, (30, 773, 3), 0)) (by decide +kernel)) rfl rfl rfl rfl hc_z
                          obtain ⟨r1185_z, h1186_z, q1187_z, hc_z⟩ := hc_z
                          replace hm_z := rn_ifT (am_cur_of (i := (116, 3, .ifCond .ne 5, (69, 0, 0), 0)) (by decide +kernel)) (by decide) hm_z
                          replace hm_z := rn_aload_n (am_cur_of (i := (121, 1, .aload_n 0, (0, 0, 0), 0)) (by decide +kernel)) g0m hm_z
                          replace hm_z := rn_getR (x := 170) (am_cur_of (i := (122, 3, .getfield 30, (12, 25, 1409), 0)) (by decide +kernel)) (by decide +kernel) hm_z
                          replace hm_z := rn_iload_n (am_cur_of (i := (125, 1, .iload_n 1, (0, 0, 0), 0)) (by decide +kernel)) g1m hm_z
                          replace hm_z := rn_iload_n (am_cur_of (i := (126, 1, .iload_n 2, (0, 0, 0), 0)) (by decide +kernel)) g2m hm_z
                          replace hm_z := rn_iadd (w := 54) (am_cur_of (i := (127, 1, .iadd, (0, 0, 0), 0)) (by decide +kernel)) (by decide) hm_z
                          replace hm_z := rn_aload_n (am_cur_of (i := (128, 1, .aload_n 0, (0, 0, 0), 0)) (by decide +kernel)) g0m hm_z
                          replace hm_z := rn_getI (v := v32_z) (am_cur_of (i := (129, 3, .getfield 188, (12, 11, 1395), 0)) (by decide +kernel)) (by decide +kernel) got hm_z
                          replace hm_z := rn_iastore (N := 56) (q := 54) (am_cur_of (i := (132, 1, .iastore, (0, 0, 0), 0)) (by decide +kernel)) (by decide +kernel) rfl hm_z
                          obtain ⟨p1188_z, hm_z⟩ := hm_z
                          replace hm_z := rn_iinc (w := 6) (am_cur_of (i := (133, 3, .iinc 2 1, (0, 0, 0), 0)) (by decide +kernel)) g2m (by decide) hm_z
                          obtain ⟨_, s1189_z, s1190_z, g2m, hm_z⟩ := hm_z
                          replace g0m := s1189_z 0 _ (by decide) rfl g0m
                          replace g1m := s1189_z 1 _ (by decide) rfl g1m
                          replace g3m := s1189_z 3 _ (by decide) rfl g3m
                          replace g4m := s1189_z 4 _ (by decide) rfl g4m
                          clear s1189_z s1190_z
                          replace hm_z := rn_goto (am_cur_of (i := (136, 3, .goto (-87), (29, 0, 0), 0)) (by decide +kernel)) hm_z
                          replace hm_z := rn_iload_n (am_cur_of (i := (49, 1, .iload_n 2, (0, 0, 0), 0)) (by decide +kernel)) g2m hm_z
                          replace hm_z := rn_bipush (w := 7) (am_cur_of (i := (50, 2, .bipush 7, (0, 0, 0), 0)) (by decide +kernel)) (by decide) hm_z
                          replace hm_z := rn_cmpF (am_cur_of (i := (52, 3, .if_icmp .ge 87, (79, 0, 0), 0)) (by decide +kernel)) (by decide) hm_z
                          replace hm_z := rn_iload_n (am_cur_of (i := (55, 1, .iload_n 2, (0, 0, 0), 0)) (by decide +kernel)) g2m hm_z
                          replace hm_z := rn_ifF (am_cur_of (i := (56, 3, .ifCond .eq 13, (40, 0, 0), 0)) (by decide +kernel)) (by decide) hm_z
                          replace hm_z := rn_iload_n (am_cur_of (i := (59, 1, .iload_n 2, (0, 0, 0), 0)) (by decide +kernel)) g2m hm_z
                          replace hm_z := rn_iconst (w := 2) (am_cur_of (i := (60, 1, .iconst 2, (0, 0, 0), 0)) (by decide +kernel)) (by decide) hm_z
                          replace hm_z := rn_cmpF (am_cur_of (i := (61, 3, .if_icmp .eq 8, (40, 0, 0), 0)) (by decide +kernel)) (by decide) hm_z
                          replace hm_z := rn_iload_n (am_cur_of (i := (64, 1, .iload_n 2, (0, 0, 0), 0)) (by decide +kernel)) g2m hm_z
                          replace hm_z := rn_iconst (w := 3) (am_cur_of (i := (65, 1, .iconst 3, (0, 0, 0), 0)) (by decide +kernel)) (by decide) hm_z
                          replace hm_z := rn_cmpT (am_cur_of (i := (66, 3, .if_icmp .ne 7, (42, 0, 0), 0)) (by decide +kernel)) (by decide) hm_z
                          replace hm_z := rn_iconst (w := 0) (am_cur_of (i := (73, 1, .iconst 0, (0, 0, 0), 0)) (by decide +kernel)) (by decide) hm_z
                          replace hm_z := rn_istore_n (am_cur_of (i := (74, 1, .istore_n 3, (0, 0, 0), 0)) (by decide +kernel)) hm_z
                          obtain ⟨_, s1191_z, s1192_z, g3m, hm_z⟩ := hm_z
                          replace g0m := s1191_z 0 _ (by decide) rfl g0m
                          replace g1m := s1191_z 1 _ (by decide) rfl g1m
                          replace g2m := s1191_z 2 _ (by decide) rfl g2m
                          replace g4m := s1191_z 4 _ (by decide) rfl g4m
                          clear s1191_z s1192_z
                          replace hm_z := rn_iload_n (am_cur_of (i := (75, 1, .iload_n 2, (0, 0, 0), 0)) (by decide +kernel)) g2m hm_z
                          replace hm_z := rn_iconst (w := 1) (am_cur_of (i := (76, 1, .iconst 1, (0, 0, 0), 0)) (by decide +kernel)) (by decide) hm_z
                          replace hm_z := rn_cmpF (am_cur_of (i := (77, 3, .if_icmp .eq 8, (50, 0, 0), 0)) (by decide +kernel)) (by decide) hm_z
                          replace hm_z := rn_iload_n (am_cur_of (i := (80, 1, .iload_n 2, (0, 0, 0), 0)) (by decide +kernel)) g2m hm_z
                          replace hm_z := rn_iconst (w := 2) (am_cur_of (i := (81, 1, .iconst 2, (0, 0, 0), 0)) (by decide +kernel)) (by decide) hm_z
                          replace hm_z := rn_cmpT (am_cur_of (i := (82, 3, .if_icmp .ne 8, (52, 0, 0), 0)) (by decide +kernel)) (by decide) hm_z
                          replace hm_z := rn_iload_n (am_cur_of (i := (90, 1, .iload_n 2, (0, 0, 0), 0)) (by decide +kernel)) g2m hm_z
                          replace hm_z := rn_iconst (w := 3) (am_cur_of (i := (91, 1, .iconst 3, (0, 0, 0), 0)) (by decide +kernel)) (by decide) hm_z
                          replace hm_z := rn_cmpF (am_cur_of (i := (92, 3, .if_icmp .eq 8, (58, 0, 0), 0)) (by decide +kernel)) (by decide) hm_z
                          replace hm_z := rn_iload_n (am_cur_of (i := (95, 1, .iload_n 2, (0, 0, 0), 0)) (by decide +kernel)) g2m hm_z
                          replace hm_z := rn_iconst (w := 5) (am_cur_of (i := (96, 1, .iconst 5, (0, 0, 0), 0)) (by decide +kernel)) (by decide) hm_z
                          replace hm_z := rn_cmpT (am_cur_of (i := (97, 3, .if_icmp .ne 8, (60, 0, 0), 0)) (by decide +kernel)) (by decide) hm_z
                          replace hm_z := rn_bipush (w := 99) (am_cur_of (i := (105, 2, .bipush 99, (0, 0, 0), 0)) (by decide +kernel)) (by decide) hm_z
                          replace hm_z := rn_istore (am_cur_of (i := (107, 2, .istore 4, (0, 0, 0), 0)) (by decide +kernel)) hm_z
                          obtain ⟨_, s1193_z, s1194_z, g4m, hm_z⟩ := hm_z
                          replace g0m := s1193_z 0 _ (by decide) rfl g0m
                          replace g1m := s1193_z 1 _ (by decide) rfl g1m
                          replace g2m := s1193_z 2 _ (by decide) rfl g2m
                          replace g3m := s1193_z 3 _ (by decide) rfl g3m
                          clear s1193_z s1194_z
                          replace hm_z := rn_aload_n (am_cur_of (i := (109, 1, .aload_n 0, (0, 0, 0), 0)) (by decide +kernel)) g0m hm_z
                          replace hm_z := rn_iload_n (am_cur_of (i := (110, 1, .iload_n 3, (0, 0, 0), 0)) (by decide +kernel)) g3m hm_z
                          replace hm_z := rn_iload (am_cur_of (i := (111, 2, .iload 4, (0, 0, 0), 0)) (by decide +kernel)) g4m hm_z
                          replace hm_z := rn_callV (M' := am_m161) (o := 164) (ar := [.int 99, .int 0]) (rest := []) (L := lv_args 0 [.ref 164, .int 0, .int 99]) (am_cur_of (i := (113, 3, .invokevirtual 197, (161, 1677, 3), 0)) (by decide +kernel)) rfl rfl rfl rfl hm_z
                          obtain ⟨r1195_z, h1196_z, q1197_z, hm_z⟩ := hm_z
                          have R' : rq T S x32_z p32_z 2 (am_up h1173_z 22 6 (.int v32_z)) (am_up h1183_z 170 54 (.int v32_z)) := ⟨⟨c1_z, c2_z, c3_z, c4_z, c5_z, c6_z, fun k hk_z => c7_z k hk_z, fun k hk_z => c8_z k hk_z⟩, ⟨m2_z, m3_z, m4_z, m5_z, m6_z, fun k hk_z => m7_z k hk_z, fun k hk_z => m8_z k hk_z⟩, R3, R4, R5, R6, R7, R8, R9, R10⟩
                          have A' : rp 2 (am_up h1173_z 22 6 (.int v32_z)) (am_up h1183_z 170 54 (.int v32_z)) := ⟨⟨a1_z, a2_z, a3_z, a4_z, a5_z, a6_z⟩, ⟨nb1_z, nb2_z, nb3_z⟩, ⟨nt1_z, nt2_z, nt3_z⟩, ⟨nl1_z, nl2_z, nl3_z⟩, ⟨nr1_z, nr2_z, nr3_z⟩, ⟨nk1_z, nk2_z, nk3_z⟩, ⟨(fun hb_z k hk_z => by match k, hk_z with | 0, _ => exact AC0 hb_z 0 (by decide) | 1, _ => exact AC0 hb_z 1 (by decide) | 2, _ => exact AC0 hb_z 2 (by decide) | 3, _ => exact AC0 hb_z 3 (by decide) | 4, _ => exact AC0 hb_z 4 (by decide) | 5, _ => exact AC0 hb_z 5 (by decide) | 6, _ => exact AC0 hb_z 6 (by decide) | 7, _ => exact AC0 hb_z 7 (by decide)), (fun hb_z k hk_z => by match k, hk_z with | 0, _ => exact AC1 hb_z 0 (by decide) | 1, _ => exact AC1 hb_z 1 (by decide) | 2, _ => exact AC1 hb_z 2 (by decide) | 3, _ => exact AC1 hb_z 3 (by decide) | 4, _ => exact AC1 hb_z 4 (by decide) | 5, _ => exact AC1 hb_z 5 (by decide) | 6, _ => exact AC1 hb_z 6 (by decide) | 7, _ => exact AC1 hb_z 7 (by decide)), (fun hb_z k hk_z => by match k, hk_z with | 0, _ => exact AC2 hb_z 0 (by decide) | 1, _ => exact AC2 hb_z 1 (by decide) | 2, _ => exact AC2 hb_z 2 (by decide) | 3, _ => exact AC2 hb_z 3 (by decide) | 4, _ => exact AC2 hb_z 4 (by decide) | 5, _ => exact AC2 hb_z 5 (by decide) | 6, _ => exact AC2 hb_z 6 (by decide) | 7, _ => exact AC2 hb_z 7 (by decide)), fun hb_z => absurd hb_z (by rw [show rg_v (am_up h1173_z 22 6 (.int v32_z)) 2 2 = 3 from ecb]; decide)⟩, fun t ht => AD t ht, fun t ht => AE t ht, fun t ht => AG t ht⟩
                          have B' : rp_t (am_up h1173_z 22 6 (.int v32_z)) (am_up h1183_z 170 54 (.int v32_z)) := by
                            obtain ⟨b0_z, b1_z, b2_z, b3_z, b4_z, b5_z, b6_z, t, o0_z, o1_z, o2_z, o3_z, o4_z, o5_z, o6_z⟩ := B
                            exact ⟨b0_z, b1_z, b2_z, b3_z, b4_z, b5_z, b6_z, t, o0_z, o1_z, o2_z, o3_z, o4_z, o5_z, o6_z⟩
                          rcases pr_num R' (by decide) (by decide) q1187_z q1197_z with ⟨v33_z, x33_z, p33_z, rfl, rfl, lo33_z, hi33_z, R, le33_z, got, X, Y, t7_z, t167_z⟩ | ⟨rfl, F⟩
                          · replace A := rp_x (by decide) A' X Y
                            replace B := rp_tk B' t7_z t167_z Y
                            clear A' B' R'
                            replace le33_z : x.toInt ≤ p33_z.toInt := Int.le_trans (Int.le_trans le32_z R8) le33_z
                            replace ecb : rg_v h1186_z 2 2 = 3 := (rx_v X (o := 2) (k := 2) (by decide)).trans ecb
                            replace ect : rg_v h1186_z 2 4 = ct := (rx_v X (o := 2) (k := 4) (by decide)).trans ect
                            replace ecl : rg_v h1186_z 2 9 = cl := (rx_v X (o := 2) (k := 9) (by decide)).trans ecl
                            replace ecr : rg_v h1186_z 2 12 = cr := (rx_v X (o := 2) (k := 12) (by decide)).trans ecr
                            replace E0 : rg_v h1186_z 22 0 = rg_v h1196_z 169 7 := (rx_v X (o := 22) (k := 0) (by decide)).trans (E0.trans (rx_w Y (o := 169) (k := 7) (by omega) (by decide)).symm)
                            replace E1 : rg_v h1186_z 22 1 = rg_v h1196_z 170 49 := (rx_v X (o := 22) (k := 1) (by decide)).trans (E1.trans (rx_w Y (o := 170) (k := 49) (by omega) (by decide)).symm)
                            replace E2 : rg_v h1186_z 22 2 = rg_v h1196_z 170 50 := (rx_v X (o := 22) (k := 2) (by decide)).trans (E2.trans (rx_w Y (o := 170) (k := 50) (by omega) (by decide)).symm)
                            replace E3 : rg_v h1186_z 22 3 = rg_v h1196_z 170 51 := (rx_v X (o := 22) (k := 3) (by decide)).trans (E3.trans (rx_w Y (o := 170) (k := 51) (by omega) (by decide)).symm)
                            replace E4 : rg_v h1186_z 22 4 = rg_v h1196_z 170 52 := (rx_v X (o := 22) (k := 4) (by decide)).trans (E4.trans (rx_w Y (o := 170) (k := 52) (by omega) (by decide)).symm)
                            replace E5 : rg_v h1186_z 22 5 = rg_v h1196_z 170 53 := (rx_v X (o := 22) (k := 5) (by decide)).trans (E5.trans (rx_w Y (o := 170) (k := 53) (by omega) (by decide)).symm)
                            have E6 : rg_v h1186_z 22 6 = rg_v h1196_z 170 54 := (rx_v X (o := 22) (k := 6) (by decide)).trans (Eq.trans (rfl) (rx_w Y (o := 170) (k := 54) (by omega) (by decide)).symm)
                            replace hm_z : rn _ _ _ _ [.int 1] _ _ _ := hm_z
                            replace hc_z : rn _ _ _ _ [.int v33_z, .ref 22] _ _ _ := hc_z
                            clear a1_z a2_z a3_z a4_z a5_z a6_z nb1_z nb2_z nb3_z nt1_z nt2_z nt3_z nl1_z nl2_z nl3_z nr1_z nr2_z nr3_z nk1_z nk2_z nk3_z AC0 AC1 AC2 AC3 AD AE AG c1_z c2_z c3_z c4_z c5_z c6_z c7_z c8_z m2_z m3_z m4_z m5_z m6_z m7_z m8_z R3 R4 R5 R6 R7 R8 R9 R10
                            obtain ⟨⟨⟨a1_z, a2_z, a3_z, a4_z, a5_z, a6_z⟩, ⟨nb1_z, nb2_z, nb3_z⟩, ⟨nt1_z, nt2_z, nt3_z⟩, ⟨nl1_z, nl2_z, nl3_z⟩, ⟨nr1_z, nr2_z, nr3_z⟩, ⟨nk1_z, nk2_z, nk3_z⟩, ⟨AC0, AC1, AC2, AC3⟩, AD, AE, AG⟩, ⟨⟨c1_z, c2_z, c3_z, c4_z, c5_z, c6_z, c7_z, c8_z⟩, ⟨m2_z, m3_z, m4_z, m5_z, m6_z, m7_z, m8_z⟩, R3, R4, R5, R6, R7, R8, R9, R10⟩⟩ := (⟨A, R⟩ : rp 2 h1186_z h1196_z ∧ rq T S x33_z p33_z 2 h1186_z h1196_z)
                            replace hc_z := rn_put (am_cur_of (i := (146, 3, .putfield 193, (3, 7, 221), 0)) (by decide +kernel)) (by decide +kernel) hc_z
                            replace hc_z := rn_aload_n (am_cur_of (i := (149, 1, .aload_n 0, (0, 0, 0), 0)) (by decide +kernel)) g0_z hc_z
                            replace hc_z := rn_getM (x := 2) (am_cur_of (i := (150, 3, .getfield 25, (4, 6, 415), 0)) (by decide +kernel)) (show (am_up h1186_z 22 7 (.int v33_z)) 44 6 = .ref 2 from R3) hc_z
                            replace hc_z := rn_dup (am_cur_of (i := (153, 1, .dup, (0, 0, 0), 0)) (by decide +kernel)) hc_z
                            replace hc_z := rn_getI (v := 3) (am_cur_of (i := (154, 3, .getfield 151, (1, 2, 259), 0)) (by decide +kernel)) (by decide +kernel) (show rg_v (am_up h1186_z 22 7 (.int v33_z)) 2 2 = 3 from ecb) hc_z
                            replace hc_z := rn_iconst (w := 1) (am_cur_of (i := (157, 1, .iconst 1, (0, 0, 0), 0)) (by decide +kernel)) (by decide) hc_z
                            replace hc_z := rn_iadd (w := 4) (am_cur_of (i := (158, 1, .iadd, (0, 0, 0), 0)) (by decide +kernel)) (by decide) hc_z
                            replace hc_z := rn_put (am_cur_of (i := (159, 3, .putfield 151, (1, 2, 259), 0)) (by decide +kernel)) (by decide +kernel) hc_z
                            replace hc_z := rn_vret (am_cur_of (i := (162, 1, .return_, (0, 0, 0), 0)) (by decide +kernel)) hc_z
                            obtain ⟨e1198_z, e1199_z⟩ := hc_z
                            subst e1198_z e1199_z
                            replace hm_z := rn_ifT (am_cur_of (i := (116, 3, .ifCond .ne 5, (69, 0, 0), 0)) (by decide +kernel)) (by decide) hm_z
                            replace hm_z := rn_aload_n (am_cur_of (i := (121, 1, .aload_n 0, (0, 0, 0), 0)) (by decide +kernel)) g0m hm_z
                            replace hm_z := rn_getR (x := 170) (am_cur_of (i := (122, 3, .getfield 30, (12, 25, 1409), 0)) (by decide +kernel)) (by decide +kernel) hm_z
                            replace hm_z := rn_iload_n (am_cur_of (i := (125, 1, .iload_n 1, (0, 0, 0), 0)) (by decide +kernel)) g1m hm_z
                            replace hm_z := rn_iload_n (am_cur_of (i := (126, 1, .iload_n 2, (0, 0, 0), 0)) (by decide +kernel)) g2m hm_z
                            replace hm_z := rn_iadd (w := 55) (am_cur_of (i := (127, 1, .iadd, (0, 0, 0), 0)) (by decide +kernel)) (by decide) hm_z
                            replace hm_z := rn_aload_n (am_cur_of (i := (128, 1, .aload_n 0, (0, 0, 0), 0)) (by decide +kernel)) g0m hm_z
                            replace hm_z := rn_getI (v := v33_z) (am_cur_of (i := (129, 3, .getfield 188, (12, 11, 1395), 0)) (by decide +kernel)) (by decide +kernel) got hm_z
                            replace hm_z := rn_iastore (N := 56) (q := 55) (am_cur_of (i := (132, 1, .iastore, (0, 0, 0), 0)) (by decide +kernel)) (by decide +kernel) rfl hm_z
                            obtain ⟨p1200_z, hm_z⟩ := hm_z
                            replace hm_z := rn_iinc (w := 7) (am_cur_of (i := (133, 3, .iinc 2 1, (0, 0, 0), 0)) (by decide +kernel)) g2m (by decide) hm_z
                            obtain ⟨_, s1201_z, s1202_z, g2m, hm_z⟩ := hm_z
                            replace g0m := s1201_z 0 _ (by decide) rfl g0m
                            replace g1m := s1201_z 1 _ (by decide) rfl g1m
                            replace g3m := s1201_z 3 _ (by decide) rfl g3m
                            replace g4m := s1201_z 4 _ (by decide) rfl g4m
                            clear s1201_z s1202_z
                            replace hm_z := rn_goto (am_cur_of (i := (136, 3, .goto (-87), (29, 0, 0), 0)) (by decide +kernel)) hm_z
                            replace hm_z := rn_iload_n (am_cur_of (i := (49, 1, .iload_n 2, (0, 0, 0), 0)) (by decide +kernel)) g2m hm_z
                            replace hm_z := rn_bipush (w := 7) (am_cur_of (i := (50, 2, .bipush 7, (0, 0, 0), 0)) (by decide +kernel)) (by decide) hm_z
                            replace hm_z := rn_cmpT (am_cur_of (i := (52, 3, .if_icmp .ge 87, (79, 0, 0), 0)) (by decide +kernel)) (by decide) hm_z
                            replace hm_z := rn_aload_n (am_cur_of (i := (139, 1, .aload_n 0, (0, 0, 0), 0)) (by decide +kernel)) g0m hm_z
                            replace hm_z := rn_dup (am_cur_of (i := (140, 1, .dup, (0, 0, 0), 0)) (by decide +kernel)) hm_z
                            replace hm_z := rn_getI (v := 3) (am_cur_of (i := (141, 3, .getfield 201, (12, 17, 1401), 0)) (by decide +kernel)) (by decide +kernel) (show rg_v (am_up h1196_z 170 55 (.int v33_z)) 164 17 = 3 from (nb1_z.symm.trans ecb)) hm_z
                            replace hm_z := rn_iconst (w := 1) (am_cur_of (i := (144, 1, .iconst 1, (0, 0, 0), 0)) (by decide +kernel)) (by decide) hm_z
                            replace hm_z := rn_iadd (w := 4) (am_cur_of (i := (145, 1, .iadd, (0, 0, 0), 0)) (by decide +kernel)) (by decide) hm_z
                            replace hm_z := rn_put (am_cur_of (i := (146, 3, .putfield 201, (12, 17, 1401), 0)) (by decide +kernel)) (by decide +kernel) hm_z
                            replace hm_z := rn_iconst (w := 1) (am_cur_of (i := (149, 1, .iconst 1, (0, 0, 0), 0)) (by decide +kernel)) (by decide) hm_z
                            replace hm_z := rn_iret (am_cur_of (i := (150, 1, .ireturn, (0, 0, 0), 0)) (by decide +kernel)) hm_z
                            obtain ⟨e1203_z, e1204_z⟩ := hm_z
                            subst e1203_z e1204_z
                            have R' : rq T S x33_z p33_z 2 (am_up (am_up h1186_z 22 7 (.int v33_z)) 2 2 (.int 4)) (am_up (am_up h1196_z 170 55 (.int v33_z)) 164 17 (.int 4)) := ⟨⟨c1_z, c2_z, c3_z, c4_z, c5_z, c6_z, fun k hk_z => c7_z k hk_z, fun k hk_z => c8_z k hk_z⟩, ⟨m2_z, m3_z, m4_z, m5_z, m6_z, fun k hk_z => m7_z k hk_z, fun k hk_z => m8_z k hk_z⟩, R3, R4, R5, R6, R7, R8, R9, R10⟩
                            have pq0_z : rp_C 2 (am_up (am_up h1186_z 22 7 (.int v33_z)) 2 2 (.int 4)) (am_up (am_up h1196_z 170 55 (.int v33_z)) 164 17 (.int 4)) 0 := by
                              intro hb_z k hk_z
                              have hb2_z : ((0 : Nat) : Int) < (rg_v h1186_z 2 2).toInt := by rw [ecb]; decide
                              match k, hk_z with
                              | 0, _ => exact AC0 hb2_z 0 (by decide)
                              | 1, _ => exact AC0 hb2_z 1 (by decide)
                              | 2, _ => exact AC0 hb2_z 2 (by decide)
                              | 3, _ => exact AC0 hb2_z 3 (by decide)
                              | 4, _ => exact AC0 hb2_z 4 (by decide)
                              | 5, _ => exact AC0 hb2_z 5 (by decide)
                              | 6, _ => exact AC0 hb2_z 6 (by decide)
                              | 7, _ => exact AC0 hb2_z 7 (by decide)
                            have pq1_z : rp_C 2 (am_up (am_up h1186_z 22 7 (.int v33_z)) 2 2 (.int 4)) (am_up (am_up h1196_z 170 55 (.int v33_z)) 164 17 (.int 4)) 1 := by
                              intro hb_z k hk_z
                              have hb2_z : ((1 : Nat) : Int) < (rg_v h1186_z 2 2).toInt := by rw [ecb]; decide
                              match k, hk_z with
                              | 0, _ => exact AC1 hb2_z 0 (by decide)
                              | 1, _ => exact AC1 hb2_z 1 (by decide)
                              | 2, _ => exact AC1 hb2_z 2 (by decide)
                              | 3, _ => exact AC1 hb2_z 3 (by decide)
                              | 4, _ => exact AC1 hb2_z 4 (by decide)
                              | 5, _ => exact AC1 hb2_z 5 (by decide)
                              | 6, _ => exact AC1 hb2_z 6 (by decide)
                              | 7, _ => exact AC1 hb2_z 7 (by decide)
                            have pq2_z : rp_C 2 (am_up (am_up h1186_z 22 7 (.int v33_z)) 2 2 (.int 4)) (am_up (am_up h1196_z 170 55 (.int v33_z)) 164 17 (.int 4)) 2 := by
                              intro hb_z k hk_z
                              have hb2_z : ((2 : Nat) : Int) < (rg_v h1186_z 2 2).toInt := by rw [ecb]; decide
                              match k, hk_z with
                              | 0, _ => exact AC2 hb2_z 0 (by decide)
                              | 1, _ => exact AC2 hb2_z 1 (by decide)
                              | 2, _ => exact AC2 hb2_z 2 (by decide)
                              | 3, _ => exact AC2 hb2_z 3 (by decide)
                              | 4, _ => exact AC2 hb2_z 4 (by decide)
                              | 5, _ => exact AC2 hb2_z 5 (by decide)
                              | 6, _ => exact AC2 hb2_z 6 (by decide)
                              | 7, _ => exact AC2 hb2_z 7 (by decide)
                            have pq3_z : rp_C 2 (am_up (am_up h1186_z 22 7 (.int v33_z)) 2 2 (.int 4)) (am_up (am_up h1196_z 170 55 (.int v33_z)) 164 17 (.int 4)) 3 := by
                              intro hb_z k hk_z
                              match k, hk_z with
                              | 0, _ => exact E0
                              | 1, _ => exact E1
                              | 2, _ => exact E2
                              | 3, _ => exact E3
                              | 4, _ => exact E4
                              | 5, _ => exact E5
                              | 6, _ => exact E6
                              | 7, _ => exact rfl
                            have A' : rp 2 (am_up (am_up h1186_z 22 7 (.int v33_z)) 2 2 (.int 4)) (am_up (am_up h1196_z 170 55 (.int v33_z)) 164 17 (.int 4)) := ⟨⟨a1_z, a2_z, a3_z, a4_z, a5_z, a6_z⟩, ⟨rfl, (show 0 ≤ ((3 : Int32) + 1).toInt by decide), (show ((3 : Int32) + 1).toInt ≤ 4 by decide)⟩, ⟨nt1_z, nt2_z, nt3_z⟩, ⟨nl1_z, nl2_z, nl3_z⟩, ⟨nr1_z, nr2_z, nr3_z⟩, ⟨nk1_z, nk2_z, nk3_z⟩, ⟨(pq0_z), (pq1_z), (pq2_z), (pq3_z)⟩, fun t ht => AD t ht, fun t ht => AE t ht, fun t ht => AG t ht⟩
                            have B' : rp_t (am_up (am_up h1186_z 22 7 (.int v33_z)) 2 2 (.int 4)) (am_up (am_up h1196_z 170 55 (.int v33_z)) 164 17 (.int 4)) := by
                              obtain ⟨b0_z, b1_z, b2_z, b3_z, b4_z, b5_z, b6_z, t, o0_z, o1_z, o2_z, o3_z, o4_z, o5_z, o6_z⟩ := B
                              exact ⟨b0_z, b1_z, b2_z, b3_z, b4_z, b5_z, b6_z, t, o0_z, o1_z, o2_z, o3_z, o4_z, o5_z, o6_z⟩
                            exact Or.inl ⟨rfl, _, _, R', le33_z, A', B'⟩
                          · obtain ⟨wv, w0_z, f1_z, f2_z, f3_z, f4_z⟩ := F
                            have K := rs_stick (a := 31) (by decide) (by decide) rfl w0_z f1_z f2_z hc_z
                            replace hm_z : rn _ _ _ _ [.int 0] _ _ _ := hm_z
                            replace hm_z := rn_ifF (am_cur_of (i := (116, 3, .ifCond .ne 5, (69, 0, 0), 0)) (by decide +kernel)) (by decide) hm_z
                            replace hm_z := rn_iconst (w := 0) (am_cur_of (i := (119, 1, .iconst 0, (0, 0, 0), 0)) (by decide +kernel)) (by decide) hm_z
                            replace hm_z := rn_iret (am_cur_of (i := (120, 1, .ireturn, (0, 0, 0), 0)) (by decide +kernel)) hm_z
                            obtain ⟨e1205_z, e1206_z⟩ := hm_z
                            subst e1205_z e1206_z
                            exact Or.inr ⟨rfl, _, wv, w0_z, K.1, K.2, f3_z, f4_z⟩
                        · obtain ⟨wv, w0_z, f1_z, f2_z, f3_z, f4_z⟩ := F
                          have K := rs_stick (a := 31) (by decide) (by decide) rfl w0_z f1_z f2_z hc_z
                          replace hm_z : rn _ _ _ _ [.int 0] _ _ _ := hm_z
                          replace hm_z := rn_ifF (am_cur_of (i := (116, 3, .ifCond .ne 5, (69, 0, 0), 0)) (by decide +kernel)) (by decide) hm_z
                          replace hm_z := rn_iconst (w := 0) (am_cur_of (i := (119, 1, .iconst 0, (0, 0, 0), 0)) (by decide +kernel)) (by decide) hm_z
                          replace hm_z := rn_iret (am_cur_of (i := (120, 1, .ireturn, (0, 0, 0), 0)) (by decide +kernel)) hm_z
                          obtain ⟨e1207_z, e1208_z⟩ := hm_z
                          subst e1207_z e1208_z
                          exact Or.inr ⟨rfl, _, wv, w0_z, K.1, K.2, f3_z, f4_z⟩
                      · obtain ⟨wv, w0_z, f1_z, f2_z, f3_z, f4_z⟩ := F
                        have K := rs_stick (a := 31) (by decide) (by decide) rfl w0_z f1_z f2_z hc_z
                        replace hm_z : rn _ _ _ _ [.int 0] _ _ _ := hm_z
                        replace hm_z := rn_ifF (am_cur_of (i := (116, 3, .ifCond .ne 5, (69, 0, 0), 0)) (by decide +kernel)) (by decide) hm_z
                        replace hm_z := rn_iconst (w := 0) (am_cur_of (i := (119, 1, .iconst 0, (0, 0, 0), 0)) (by decide +kernel)) (by decide) hm_z
                        replace hm_z := rn_iret (am_cur_of (i := (120, 1, .ireturn, (0, 0, 0), 0)) (by decide +kernel)) hm_z
                        obtain ⟨e1209_z, e1210_z⟩ := hm_z
                        subst e1209_z e1210_z
                        exact Or.inr ⟨rfl, _, wv, w0_z, K.1, K.2, f3_z, f4_z⟩
                    · obtain ⟨wv, w0_z, f1_z, f2_z, f3_z, f4_z⟩ := F
                      have K := rs_stick (a := 31) (by decide) (by decide) rfl w0_z f1_z f2_z hc_z
                      replace hm_z : rn _ _ _ _ [.int 0] _ _ _ := hm_z
                      replace hm_z := rn_ifF (am_cur_of (i := (116, 3, .ifCond .ne 5, (69, 0, 0), 0)) (by decide +kernel)) (by decide) hm_z
                      replace hm_z := rn_iconst (w := 0) (am_cur_of (i := (119, 1, .iconst 0, (0, 0, 0), 0)) (by decide +kernel)) (by decide) hm_z
                      replace hm_z := rn_iret (am_cur_of (i := (120, 1, .ireturn, (0, 0, 0), 0)) (by decide +kernel)) hm_z
                      obtain ⟨e1211_z, e1212_z⟩ := hm_z
                      subst e1211_z e1212_z
                      exact Or.inr ⟨rfl, _, wv, w0_z, K.1, K.2, f3_z, f4_z⟩
                  · obtain ⟨wv, w0_z, f1_z, f2_z, f3_z, f4_z⟩ := F
                    have K := rs_stick (a := 31) (by decide) (by decide) rfl w0_z f1_z f2_z hc_z
                    replace hm_z : rn _ _ _ _ [.int 0] _ _ _ := hm_z
                    replace hm_z := rn_ifF (am_cur_of (i := (116, 3, .ifCond .ne 5, (69, 0, 0), 0)) (by decide +kernel)) (by decide) hm_z
                    replace hm_z := rn_iconst (w := 0) (am_cur_of (i := (119, 1, .iconst 0, (0, 0, 0), 0)) (by decide +kernel)) (by decide) hm_z
                    replace hm_z := rn_iret (am_cur_of (i := (120, 1, .ireturn, (0, 0, 0), 0)) (by decide +kernel)) hm_z
                    obtain ⟨e1213_z, e1214_z⟩ := hm_z
                    subst e1213_z e1214_z
                    exact Or.inr ⟨rfl, _, wv, w0_z, K.1, K.2, f3_z, f4_z⟩
                · obtain ⟨wv, w0_z, f1_z, f2_z, f3_z, f4_z⟩ := F
                  have K := rs_stick (a := 31) (by decide) (by decide) rfl w0_z f1_z f2_z hc_z
                  replace hm_z : rn _ _ _ _ [.int 0] _ _ _ := hm_z
                  replace hm_z := rn_ifF (am_cur_of (i := (116, 3, .ifCond .ne 5, (69, 0, 0), 0)) (by decide +kernel)) (by decide) hm_z
                  replace hm_z := rn_iconst (w := 0) (am_cur_of (i := (119, 1, .iconst 0, (0, 0, 0), 0)) (by decide +kernel)) (by decide) hm_z
                  replace hm_z := rn_iret (am_cur_of (i := (120, 1, .ireturn, (0, 0, 0), 0)) (by decide +kernel)) hm_z
                  obtain ⟨e1215_z, e1216_z⟩ := hm_z
                  subst e1215_z e1216_z
                  exact Or.inr ⟨rfl, _, wv, w0_z, K.1, K.2, f3_z, f4_z⟩
              · obtain ⟨wv, w0_z, f1_z, f2_z, f3_z, f4_z⟩ := F
                have K := rs_stick (a := 31) (by decide) (by decide) rfl w0_z f1_z f2_z hc_z
                replace hm_z : rn _ _ _ _ [.int 0] _ _ _ := hm_z
                replace hm_z := rn_ifF (am_cur_of (i := (116, 3, .ifCond .ne 5, (69, 0, 0), 0)) (by decide +kernel)) (by decide) hm_z
                replace hm_z := rn_iconst (w := 0) (am_cur_of (i := (119, 1, .iconst 0, (0, 0, 0), 0)) (by decide +kernel)) (by decide) hm_z
                replace hm_z := rn_iret (am_cur_of (i := (120, 1, .ireturn, (0, 0, 0), 0)) (by decide +kernel)) hm_z
                obtain ⟨e1217_z, e1218_z⟩ := hm_z
                subst e1217_z e1218_z
                exact Or.inr ⟨rfl, _, wv, w0_z, K.1, K.2, f3_z, f4_z⟩
          · replace b1096_z : ¬ i2_z = ((-1) : Int32) ∧ ¬ i2_z.toInt = ((-1) : Int32).toInt := b1096_z
            replace hc_z := rn_aload_n (am_cur_of (i := (38, 1, .aload_n 0, (0, 0, 0), 0)) (by decide +kernel)) g0_z hc_z
            replace hc_z := rn_iconst (w := 3) (am_cur_of (i := (39, 1, .iconst 3, (0, 0, 0), 0)) (by decide +kernel)) (by decide) hc_z
            replace hc_z := rn_callV (M' := am_m29) (o := 44) (ar := [.int 3]) (rest := []) (L := lv_args 0 [.ref 44, .int 3]) (am_cur_of (i := (40, 3, .invokevirtual 108, (29, 769, 3), 0)) (by decide +kernel)) rfl rfl rfl rfl hc_z
            obtain ⟨r1219_z, h1220_z, q1221_z, hc_z⟩ := hc_z
            obtain ⟨rfl, yq1221_z⟩ := rp_fail R4 q1221_z
            subst yq1221_z
            replace hc_z : rn _ _ _ _ [] _ _ _ := hc_z
            have K := rs_stick (w := 3) (a := 31) (by decide) (by decide) rfl (by decide) rfl rfl hc_z
            replace hm_z := rn_aload_n (am_cur_of (i := (18, 1, .aload_n 0, (0, 0, 0), 0)) (by decide +kernel)) g0m hm_z
            replace hm_z := rn_aload_n (am_cur_of (i := (19, 1, .aload_n 0, (0, 0, 0), 0)) (by decide +kernel)) g0m hm_z
            replace hm_z := rn_getR (x := 169) (am_cur_of (i := (20, 3, .getfield 27, (12, 24, 1408), 0)) (by decide +kernel)) (by decide +kernel) hm_z
            replace hm_z := rn_iconst (w := 4) (am_cur_of (i := (23, 1, .iconst 4, (0, 0, 0), 0)) (by decide +kernel)) (by decide) hm_z
            replace hm_z := rn_aload_n (am_cur_of (i := (24, 1, .aload_n 0, (0, 0, 0), 0)) (by decide +kernel)) g0m hm_z
            replace hm_z := rn_getI (v := 3) (am_cur_of (i := (25, 3, .getfield 201, (12, 17, 1401), 0)) (by decide +kernel)) (by decide +kernel) (nb1_z.symm.trans ecb) hm_z
            replace hm_z := rn_callV (M' := am_m164) (o := 164) (ar := [.int 3, .int 4, .ref 169]) (rest := []) (L := lv_args 0 [.ref 164, .ref 169, .int 4, .int 3]) (am_cur_of (i := (28, 3, .invokevirtual 248, (164, 1688, 3), 0)) (by decide +kernel)) rfl rfl rfl rfl hm_z
            obtain ⟨r1222_z, h1223_z, q1224_z, hm_z⟩ := hm_z
            rcases rp_newB (nb := 3) (by omega) (by omega) q1224_z with ⟨y1_z, rfl, y3_z⟩ | ⟨y1_z, rfl, y3_z, y4_z, y5_z, y6_z⟩ | ⟨y1_z, rfl, y5_z, y4_z, y6_z, y7_z⟩
            · exact absurd k2_z.1 y1_z
            · subst y3_z
              replace hm_z : rn _ _ _ _ [.int 0] _ _ _ := hm_z
              replace hm_z := rn_ifF (am_cur_of (i := (31, 3, .ifCond .ne 5, (20, 0, 0), 0)) (by decide +kernel)) (by decide) hm_z
              replace hm_z := rn_iconst (w := 0) (am_cur_of (i := (34, 1, .iconst 0, (0, 0, 0), 0)) (by decide +kernel)) (by decide) hm_z
              replace hm_z := rn_iret (am_cur_of (i := (35, 1, .ireturn, (0, 0, 0), 0)) (by decide +kernel)) hm_z
              obtain ⟨e1225_z, e1226_z⟩ := hm_z
              subst e1225_z e1226_z
              exact Or.inr ⟨rfl, _, 3, by decide, K.1, K.2.trans R5, rfl, R6⟩
            · exact absurd (rp_fm_u hi2_z (k2_z.2 ▸ y5_z) names) b1096_z.1
        · have K := rs_stick (a := 31) (by decide) (by decide) rfl (by decide) f1_z f2_z hc_z
          have k2_z := tk_n3 R10 k3_z
          replace hm_z := rn_aload_n (am_cur_of (i := (18, 1, .aload_n 0, (0, 0, 0), 0)) (by decide +kernel)) g0m hm_z
          replace hm_z := rn_aload_n (am_cur_of (i := (19, 1, .aload_n 0, (0, 0, 0), 0)) (by decide +kernel)) g0m hm_z
          replace hm_z := rn_getR (x := 169) (am_cur_of (i := (20, 3, .getfield 27, (12, 24, 1408), 0)) (by decide +kernel)) (by decide +kernel) hm_z
          replace hm_z := rn_iconst (w := 4) (am_cur_of (i := (23, 1, .iconst 4, (0, 0, 0), 0)) (by decide +kernel)) (by decide) hm_z
          replace hm_z := rn_aload_n (am_cur_of (i := (24, 1, .aload_n 0, (0, 0, 0), 0)) (by decide +kernel)) g0m hm_z
          replace hm_z := rn_getI (v := 3) (am_cur_of (i := (25, 3, .getfield 201, (12, 17, 1401), 0)) (by decide +kernel)) (by decide +kernel) (nb1_z.symm.trans ecb) hm_z
          replace hm_z := rn_callV (M' := am_m164) (o := 164) (ar := [.int 3, .int 4, .ref 169]) (rest := []) (L := lv_args 0 [.ref 164, .ref 169, .int 4, .int 3]) (am_cur_of (i := (28, 3, .invokevirtual 248, (164, 1688, 3), 0)) (by decide +kernel)) rfl rfl rfl rfl hm_z
          obtain ⟨r1227_z, h1228_z, q1229_z, hm_z⟩ := hm_z
          rcases rp_newB (nb := 3) (by omega) (by omega) q1229_z with ⟨y1_z, rfl, y3_z⟩ | ⟨y1_z, rfl, y3_z, y4_z, y5_z, y6_z⟩ | ⟨y1_z, rfl, y5_z, y4_z, y6_z, y7_z⟩
          · subst y3_z
            replace hm_z : rn _ _ _ _ [.int 0] _ _ _ := hm_z
            replace hm_z := rn_ifF (am_cur_of (i := (31, 3, .ifCond .ne 5, (20, 0, 0), 0)) (by decide +kernel)) (by decide) hm_z
            replace hm_z := rn_iconst (w := 0) (am_cur_of (i := (34, 1, .iconst 0, (0, 0, 0), 0)) (by decide +kernel)) (by decide) hm_z
            replace hm_z := rn_iret (am_cur_of (i := (35, 1, .ireturn, (0, 0, 0), 0)) (by decide +kernel)) hm_z
            obtain ⟨e1230_z, e1231_z⟩ := hm_z
            subst e1230_z e1231_z
            exact Or.inr ⟨rfl, _, 1, by decide, K.1, K.2.trans R5, rfl, R6⟩
          · exact absurd y1_z k2_z
          · exact absurd y1_z k2_z
    · replace b660_z : cb = (4 : Int32) ∧ cb.toInt = (4 : Int32).toInt := b660_z
      omega
