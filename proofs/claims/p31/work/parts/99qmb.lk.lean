/-! ===== LEAKS OF BOTH READERS, 23 (wip/r/gen99qm.py) ===== -/
theorem pl_leak23 {T : Nat → Int32} {S x p : Int32} {n n' : Nat} {h h' g g' : am_H} {r r' : Option Value} (R : rq T S x p 23 h g) (A : rp 23 h g) (B : rp_t h g) (hc_z : rn n am_m37 0 (lv_args 0 [.ref 44]) [] h r h') (hm_z : rn n' am_m168 0 (lv_args 0 [.ref 164]) [] g r' g') : pl_Q T S x 23 h' g' r' := by
  have z0_z : (0 : Int32).toInt = 0 := by decide
  have z1_z : (1 : Int32).toInt = 1 := by decide
  have z6_z : (6 : Int32).toInt = 6 := by decide
  have z99_z : (99 : Int32).toInt = 99 := by decide
  have g0_z : am_get (lv_args 0 [.ref 44]) 0 = some (.ref 44) := rfl
  have g0m : am_get (lv_args 0 [.ref 164]) 0 = some (.ref 164) := rfl
  obtain ⟨⟨⟨a1_z, a2_z, a3_z, a4_z, a5_z, a6_z⟩, ⟨nb1_z, nb2_z, nb3_z⟩, ⟨nt1_z, nt2_z, nt3_z⟩, ⟨nl1_z, nl2_z, nl3_z⟩, ⟨nr1_z, nr2_z, nr3_z⟩, ⟨nk1_z, nk2_z, nk3_z⟩, ⟨AC0, AC1, AC2, AC3⟩, AD, AE, AG⟩, ⟨⟨c1_z, c2_z, c3_z, c4_z, c5_z, c6_z, c7_z, c8_z⟩, ⟨m2_z, m3_z, m4_z, m5_z, m6_z, m7_z, m8_z⟩, R3, R4, R5, R6, R7, R8, R9, R10⟩⟩ := (⟨A, R⟩ : rp 23 h g ∧ rq T S x p 23 h g)
  obtain ⟨cb, ecb⟩ : ∃ v, rg_v h 23 2 = v := ⟨_, rfl⟩
  have cb0_z : 0 ≤ cb.toInt := by rw [← ecb]; exact nb2_z
  have cb9_z : cb.toInt ≤ 4 := by rw [← ecb]; exact nb3_z
  have cbn := rt_cl cb0_z
  obtain ⟨ct, ect⟩ : ∃ v, rg_v h 23 4 = v := ⟨_, rfl⟩
  have ct0_z : 0 ≤ ct.toInt := by rw [← ect]; exact nt2_z
  have ct9_z : ct.toInt ≤ 8 := by rw [← ect]; exact nt3_z
  have ctn := rt_cl ct0_z
  obtain ⟨cl, ecl⟩ : ∃ v, rg_v h 23 9 = v := ⟨_, rfl⟩
  have cl0_z : 0 ≤ cl.toInt := by rw [← ecl]; exact nl2_z
  have cl9_z : cl.toInt ≤ 6 := by rw [← ecl]; exact nl3_z
  have cln := rt_cl cl0_z
  obtain ⟨cr, ecr⟩ : ∃ v, rg_v h 23 12 = v := ⟨_, rfl⟩
  have cr0_z : 0 ≤ cr.toInt := by rw [← ecr]; exact nr2_z
  have cr9_z : cr.toInt ≤ 3 := by rw [← ecr]; exact nr3_z
  have crn := rt_cl cr0_z
  have z6_z : (6 : Int32).toInt = 6 := by decide
  have y6cl := ab_iadd (x := 6) (y := cl) (by omega) (by omega)
  have n6cl : ((6 : Int32) + cl).toNatClampNeg = 6 + cl.toNatClampNeg := by have := rt_cl (x := 6 + cl) (by omega); omega
  replace hc_z := rn_aload_n (am_cur_of (i := (0, 1, .aload_n 0, (0, 0, 0), 0)) (by decide +kernel)) g0_z hc_z
  replace hc_z := rn_aload_n (am_cur_of (i := (1, 1, .aload_n 0, (0, 0, 0), 0)) (by decide +kernel)) g0_z hc_z
  replace hc_z := rn_getM (x := 23) (am_cur_of (i := (2, 3, .getfield 25, (4, 6, 415), 0)) (by decide +kernel)) R3 hc_z
  replace hc_z := rn_getI (v := cl) (am_cur_of (i := (5, 3, .getfield 211, (1, 9, 286), 0)) (by decide +kernel)) (by decide +kernel) ecl hc_z
  replace hc_z := rn_bipush (w := 6) (am_cur_of (i := (8, 2, .bipush 6, (0, 0, 0), 0)) (by decide +kernel)) (by decide) hc_z
  replace hc_z := rn_callV (M' := am_m32) (o := 44) (ar := [.int 6, .int cl]) (rest := []) (L := lv_args 0 [.ref 44, .int cl, .int 6]) (am_cur_of (i := (10, 3, .invokevirtual 154, (32, 781, 3), 0)) (by decide +kernel)) rfl rfl rfl rfl hc_z
  obtain ⟨r478_z, h479_z, q480_z, hc_z⟩ := hc_z
  rcases rp_more R4 q480_z with ⟨ge, f1_z, f2_z⟩ | ⟨lt, n2_z, r2_z, hq2_z, e2_z⟩
  · have K := rs_stick (a := 37) (by decide) (by decide) rfl (by decide) f1_z f2_z hc_z
    replace hm_z := rn_aload_n (am_cur_of (i := (0, 1, .aload_n 0, (0, 0, 0), 0)) (by decide +kernel)) g0m hm_z
    replace hm_z := rn_getI (v := cl) (am_cur_of (i := (1, 3, .getfield 207, (12, 19, 1403), 0)) (by decide +kernel)) (by decide +kernel) (nl1_z.symm.trans ecl) hm_z
    replace hm_z := rn_bipush (w := 6) (am_cur_of (i := (4, 2, .bipush 6, (0, 0, 0), 0)) (by decide +kernel)) (by decide) hm_z
    replace hm_z := rn_cmp (am_cur_of (i := (6, 3, .if_icmp .ne 9, (8, 0, 0), 0)) (by decide +kernel)) hm_z
    rcases hm_z with ⟨b481_z, hm_z⟩ | ⟨b481_z, hm_z⟩
    · replace b481_z : ¬ cl = (6 : Int32) ∧ ¬ cl.toInt = (6 : Int32).toInt := b481_z
      omega
    · replace b481_z : cl = (6 : Int32) ∧ cl.toInt = (6 : Int32).toInt := b481_z
      replace hm_z := rn_aload_n (am_cur_of (i := (9, 1, .aload_n 0, (0, 0, 0), 0)) (by decide +kernel)) g0m hm_z
      replace hm_z := rn_iconst (w := 2) (am_cur_of (i := (10, 1, .iconst 2, (0, 0, 0), 0)) (by decide +kernel)) (by decide) hm_z
      replace hm_z := rn_callV (M' := am_m158) (o := 164) (ar := [.int 2]) (rest := []) (L := lv_args 0 [.ref 164, .int 2]) (am_cur_of (i := (11, 3, .invokevirtual 181, (158, 1665, 3), 0)) (by decide +kernel)) rfl rfl rfl rfl hm_z
      obtain ⟨r482_z, h483_z, q484_z, hm_z⟩ := hm_z
      obtain ⟨rfl, yq484_z⟩ := rp_wrong q484_z
      subst yq484_z
      replace hm_z : rn _ _ _ _ [.int 0] _ _ _ := hm_z
      replace hm_z := rn_iret (am_cur_of (i := (14, 1, .ireturn, (0, 0, 0), 0)) (by decide +kernel)) hm_z
      obtain ⟨e485_z, e486_z⟩ := hm_z
      subst e485_z e486_z
      exact Or.inr ⟨rfl, _, 2, by decide, K.1, K.2.trans R5, rfl, R6⟩
  · replace hm_z := rn_aload_n (am_cur_of (i := (0, 1, .aload_n 0, (0, 0, 0), 0)) (by decide +kernel)) g0m hm_z
    replace hm_z := rn_getI (v := cl) (am_cur_of (i := (1, 3, .getfield 207, (12, 19, 1403), 0)) (by decide +kernel)) (by decide +kernel) (nl1_z.symm.trans ecl) hm_z
    replace hm_z := rn_bipush (w := 6) (am_cur_of (i := (4, 2, .bipush 6, (0, 0, 0), 0)) (by decide +kernel)) (by decide) hm_z
    replace hm_z := rn_cmp (am_cur_of (i := (6, 3, .if_icmp .ne 9, (8, 0, 0), 0)) (by decide +kernel)) hm_z
    rcases hm_z with ⟨b487_z, hm_z⟩ | ⟨b487_z, hm_z⟩
    · replace b487_z : ¬ cl = (6 : Int32) ∧ ¬ cl.toInt = (6 : Int32).toInt := b487_z
      replace hm_z := rn_aload_n (am_cur_of (i := (15, 1, .aload_n 0, (0, 0, 0), 0)) (by decide +kernel)) g0m hm_z
      replace hm_z := rn_callV (M' := am_m151) (o := 164) (ar := []) (rest := []) (L := lv_args 0 [.ref 164]) (am_cur_of (i := (16, 3, .invokevirtual 191, (151, 1636, 3), 0)) (by decide +kernel)) rfl rfl rfl rfl hm_z
      obtain ⟨r488_z, h489_z, q490_z, hm_z⟩ := hm_z
      have vo := rn_void rfl q490_z
      subst vo
      have R' : rq T S x p 23 h g := ⟨⟨c1_z, c2_z, c3_z, c4_z, c5_z, c6_z, fun k hk_z => c7_z k hk_z, fun k hk_z => c8_z k hk_z⟩, ⟨m2_z, m3_z, m4_z, m5_z, m6_z, fun k hk_z => m7_z k hk_z, fun k hk_z => m8_z k hk_z⟩, R3, R4, R5, R6, R7, R8, R9, R10⟩
      have A' : rp 23 h g := ⟨⟨a1_z, a2_z, a3_z, a4_z, a5_z, a6_z⟩, ⟨nb1_z, nb2_z, nb3_z⟩, ⟨nt1_z, nt2_z, nt3_z⟩, ⟨nl1_z, nl2_z, nl3_z⟩, ⟨nr1_z, nr2_z, nr3_z⟩, ⟨nk1_z, nk2_z, nk3_z⟩, ⟨fun hb_z k hk_z => AC0 hb_z k hk_z, fun hb_z k hk_z => AC1 hb_z k hk_z, fun hb_z k hk_z => AC2 hb_z k hk_z, fun hb_z k hk_z => AC3 hb_z k hk_z⟩, fun t ht => AD t ht, fun t ht => AE t ht, fun t ht => AG t ht⟩
      have B' : rp_t h g := by
        obtain ⟨b0_z, b1_z, b2_z, b3_z, b4_z, b5_z, b6_z, t, o0_z, o1_z, o2_z, o3_z, o4_z, o5_z, o6_z⟩ := B
        exact ⟨b0_z, b1_z, b2_z, b3_z, b4_z, b5_z, b6_z, t, o0_z, o1_z, o2_z, o3_z, o4_z, o5_z, o6_z⟩
      obtain ⟨-, -, x1_z, p1_z, R, le1_z, t5_z, t6_z⟩ := pr_tok (rq_0 R') hq2_z q490_z
      replace A := rp_x (by decide) A' (rx_C_f t5_z) (rx_M_f t6_z)
      replace B := rp_tk B' (rg_v_fr t5_z (by decide)) (fun k => rg_v_fr t6_z (rg_v_in (by decide) k)) (rx_M_f t6_z)
      clear A' B' R'
      replace ecb : rg_v h479_z 23 2 = cb := (rx_v (rx_C_f t5_z) (o := 23) (k := 2) (by decide)).trans ecb
      replace ect : rg_v h479_z 23 4 = ct := (rx_v (rx_C_f t5_z) (o := 23) (k := 4) (by decide)).trans ect
      replace ecl : rg_v h479_z 23 9 = cl := (rx_v (rx_C_f t5_z) (o := 23) (k := 9) (by decide)).trans ecl
      replace ecr : rg_v h479_z 23 12 = cr := (rx_v (rx_C_f t5_z) (o := 23) (k := 12) (by decide)).trans ecr
      rcases e2_z with ⟨-, rfl⟩ | ⟨e2_z, -⟩
      rotate_left
      · exact absurd R.2.2.2.1 e2_z
      replace hm_z : rn _ _ _ _ [] _ _ _ := hm_z
      replace hc_z : rn _ _ _ _ [.int 1] _ _ _ := hc_z
      clear a1_z a2_z a3_z a4_z a5_z a6_z nb1_z nb2_z nb3_z nt1_z nt2_z nt3_z nl1_z nl2_z nl3_z nr1_z nr2_z nr3_z nk1_z nk2_z nk3_z AC0 AC1 AC2 AC3 AD AE AG c1_z c2_z c3_z c4_z c5_z c6_z c7_z c8_z m2_z m3_z m4_z m5_z m6_z m7_z m8_z R3 R4 R5 R6 R7 R8 R9 R10
      obtain ⟨⟨⟨a1_z, a2_z, a3_z, a4_z, a5_z, a6_z⟩, ⟨nb1_z, nb2_z, nb3_z⟩, ⟨nt1_z, nt2_z, nt3_z⟩, ⟨nl1_z, nl2_z, nl3_z⟩, ⟨nr1_z, nr2_z, nr3_z⟩, ⟨nk1_z, nk2_z, nk3_z⟩, ⟨AC0, AC1, AC2, AC3⟩, AD, AE, AG⟩, ⟨⟨c1_z, c2_z, c3_z, c4_z, c5_z, c6_z, c7_z, c8_z⟩, ⟨m2_z, m3_z, m4_z, m5_z, m6_z, m7_z, m8_z⟩, R3, R4, R5, R6, R7, R8, R9, R10⟩⟩ := (⟨A, R⟩ : rp 23 h479_z h489_z ∧ rq T S x1_z p1_z 23 h479_z h489_z)
      replace hc_z := rn_ifT (am_cur_of (i := (13, 3, .ifCond .ne 4, (8, 0, 0), 0)) (by decide +kernel)) (by decide) hc_z
      replace hc_z := rn_aload_n (am_cur_of (i := (17, 1, .aload_n 0, (0, 0, 0), 0)) (by decide +kernel)) g0_z hc_z
      replace hc_z := rn_getM (x := 23) (am_cur_of (i := (18, 3, .getfield 25, (4, 6, 415), 0)) (by decide +kernel)) R3 hc_z
      replace hc_z := rn_getR (x := 27) (am_cur_of (i := (21, 3, .getfield 214, (1, 10, 289), 0)) (by decide +kernel)) (by decide +kernel) hc_z
      replace hc_z := rn_aload_n (am_cur_of (i := (24, 1, .aload_n 0, (0, 0, 0), 0)) (by decide +kernel)) g0_z hc_z
      replace hc_z := rn_getM (x := 23) (am_cur_of (i := (25, 3, .getfield 25, (4, 6, 415), 0)) (by decide +kernel)) R3 hc_z
      replace hc_z := rn_getI (v := cl) (am_cur_of (i := (28, 3, .getfield 211, (1, 9, 286), 0)) (by decide +kernel)) (by decide +kernel) ecl hc_z
      replace hc_z := rn_aload_n (am_cur_of (i := (31, 1, .aload_n 0, (0, 0, 0), 0)) (by decide +kernel)) g0_z hc_z
      replace hc_z := rn_iconst (w := 1) (am_cur_of (i := (32, 1, .iconst 1, (0, 0, 0), 0)) (by decide +kernel)) (by decide) hc_z
      replace hc_z := rn_bipush (w := 99) (am_cur_of (i := (33, 2, .bipush 99, (0, 0, 0), 0)) (by decide +kernel)) (by decide) hc_z
      replace hc_z := rn_callV (M' := am_m30) (o := 44) (ar := [.int 99, .int 1]) (rest := [.int cl, .ref 27]) (L := lv_args 0 [.ref 44, .int 1, .int 99]) (am_cur_of (i := (35, 3, .invokevirtual 142, (30, 773, 3), 0)) (by decide +kernel)) rfl rfl rfl rfl hc_z
      obtain ⟨r491_z, h492_z, q493_z, hc_z⟩ := hc_z
      replace hm_z := rn_aload_n (am_cur_of (i := (19, 1, .aload_n 0, (0, 0, 0), 0)) (by decide +kernel)) g0m hm_z
      replace hm_z := rn_iconst (w := 1) (am_cur_of (i := (20, 1, .iconst 1, (0, 0, 0), 0)) (by decide +kernel)) (by decide) hm_z
      replace hm_z := rn_bipush (w := 99) (am_cur_of (i := (21, 2, .bipush 99, (0, 0, 0), 0)) (by decide +kernel)) (by decide) hm_z
      replace hm_z := rn_callV (M' := am_m161) (o := 164) (ar := [.int 99, .int 1]) (rest := []) (L := lv_args 0 [.ref 164, .int 1, .int 99]) (am_cur_of (i := (23, 3, .invokevirtual 197, (161, 1677, 3), 0)) (by decide +kernel)) rfl rfl rfl rfl hm_z
      obtain ⟨r494_z, h495_z, q496_z, hm_z⟩ := hm_z
      have R' : rq T S x1_z p1_z 23 h479_z h489_z := ⟨⟨c1_z, c2_z, c3_z, c4_z, c5_z, c6_z, fun k hk_z => c7_z k hk_z, fun k hk_z => c8_z k hk_z⟩, ⟨m2_z, m3_z, m4_z, m5_z, m6_z, fun k hk_z => m7_z k hk_z, fun k hk_z => m8_z k hk_z⟩, R3, R4, R5, R6, R7, R8, R9, R10⟩
      have A' : rp 23 h479_z h489_z := ⟨⟨a1_z, a2_z, a3_z, a4_z, a5_z, a6_z⟩, ⟨nb1_z, nb2_z, nb3_z⟩, ⟨nt1_z, nt2_z, nt3_z⟩, ⟨nl1_z, nl2_z, nl3_z⟩, ⟨nr1_z, nr2_z, nr3_z⟩, ⟨nk1_z, nk2_z, nk3_z⟩, ⟨fun hb_z k hk_z => AC0 hb_z k hk_z, fun hb_z k hk_z => AC1 hb_z k hk_z, fun hb_z k hk_z => AC2 hb_z k hk_z, fun hb_z k hk_z => AC3 hb_z k hk_z⟩, fun t ht => AD t ht, fun t ht => AE t ht, fun t ht => AG t ht⟩
      have B' : rp_t h479_z h489_z := by
        obtain ⟨b0_z, b1_z, b2_z, b3_z, b4_z, b5_z, b6_z, t, o0_z, o1_z, o2_z, o3_z, o4_z, o5_z, o6_z⟩ := B
        exact ⟨b0_z, b1_z, b2_z, b3_z, b4_z, b5_z, b6_z, t, o0_z, o1_z, o2_z, o3_z, o4_z, o5_z, o6_z⟩
      rcases pr_num R' (by decide) (by decide) q493_z q496_z with ⟨v2_z, x2_z, p2_z, rfl, rfl, lo2_z, hi2_z, R, le2_z, got, X, Y, t7_z, t167_z⟩ | ⟨rfl, F⟩
      · replace A := rp_x (by decide) A' X Y
        replace B := rp_tk B' t7_z t167_z Y
        clear A' B' R'
        replace le2_z : x.toInt ≤ p2_z.toInt := Int.le_trans (Int.le_trans le1_z R8) le2_z
        replace ecb : rg_v h492_z 23 2 = cb := (rx_v X (o := 23) (k := 2) (by decide)).trans ecb
        replace ect : rg_v h492_z 23 4 = ct := (rx_v X (o := 23) (k := 4) (by decide)).trans ect
        replace ecl : rg_v h492_z 23 9 = cl := (rx_v X (o := 23) (k := 9) (by decide)).trans ecl
        replace ecr : rg_v h492_z 23 12 = cr := (rx_v X (o := 23) (k := 12) (by decide)).trans ecr
        replace hm_z : rn _ _ _ _ [.int 1] _ _ _ := hm_z
        replace hc_z : rn _ _ _ _ [.int v2_z, .int cl, .ref 27] _ _ _ := hc_z
        clear a1_z a2_z a3_z a4_z a5_z a6_z nb1_z nb2_z nb3_z nt1_z nt2_z nt3_z nl1_z nl2_z nl3_z nr1_z nr2_z nr3_z nk1_z nk2_z nk3_z AC0 AC1 AC2 AC3 AD AE AG c1_z c2_z c3_z c4_z c5_z c6_z c7_z c8_z m2_z m3_z m4_z m5_z m6_z m7_z m8_z R3 R4 R5 R6 R7 R8 R9 R10
        obtain ⟨⟨⟨a1_z, a2_z, a3_z, a4_z, a5_z, a6_z⟩, ⟨nb1_z, nb2_z, nb3_z⟩, ⟨nt1_z, nt2_z, nt3_z⟩, ⟨nl1_z, nl2_z, nl3_z⟩, ⟨nr1_z, nr2_z, nr3_z⟩, ⟨nk1_z, nk2_z, nk3_z⟩, ⟨AC0, AC1, AC2, AC3⟩, AD, AE, AG⟩, ⟨⟨c1_z, c2_z, c3_z, c4_z, c5_z, c6_z, c7_z, c8_z⟩, ⟨m2_z, m3_z, m4_z, m5_z, m6_z, m7_z, m8_z⟩, R3, R4, R5, R6, R7, R8, R9, R10⟩⟩ := (⟨A, R⟩ : rp 23 h492_z h495_z ∧ rq T S x2_z p2_z 23 h492_z h495_z)
        replace hc_z := rn_iastore (N := 6) (q := cl.toNatClampNeg) (am_cur_of (i := (38, 1, .iastore, (0, 0, 0), 0)) (by decide +kernel)) (by decide +kernel) rfl hc_z
        obtain ⟨p497_z, hc_z⟩ := hc_z
        replace hc_z := rn_aload_n (am_cur_of (i := (39, 1, .aload_n 0, (0, 0, 0), 0)) (by decide +kernel)) g0_z hc_z
        replace hc_z := rn_getM (x := 23) (am_cur_of (i := (40, 3, .getfield 25, (4, 6, 415), 0)) (by decide +kernel)) (show (am_up h492_z 27 cl.toNatClampNeg (.int v2_z)) 44 6 = .ref 23 from R3) hc_z
        replace hc_z := rn_getR (x := 28) (am_cur_of (i := (43, 3, .getfield 217, (1, 11, 293), 0)) (by decide +kernel)) (by decide +kernel) hc_z
        replace hc_z := rn_aload_n (am_cur_of (i := (46, 1, .aload_n 0, (0, 0, 0), 0)) (by decide +kernel)) g0_z hc_z
        replace hc_z := rn_getM (x := 23) (am_cur_of (i := (47, 3, .getfield 25, (4, 6, 415), 0)) (by decide +kernel)) (show (am_up h492_z 27 cl.toNatClampNeg (.int v2_z)) 44 6 = .ref 23 from R3) hc_z
        replace hc_z := rn_getI (v := cl) (am_cur_of (i := (50, 3, .getfield 211, (1, 9, 286), 0)) (by decide +kernel)) (by decide +kernel) (show rg_v (am_up h492_z 27 cl.toNatClampNeg (.int v2_z)) 23 9 = cl from ecl) hc_z
        replace hc_z := rn_aload_n (am_cur_of (i := (53, 1, .aload_n 0, (0, 0, 0), 0)) (by decide +kernel)) g0_z hc_z
        replace hc_z := rn_iconst (w := 0) (am_cur_of (i := (54, 1, .iconst 0, (0, 0, 0), 0)) (by decide +kernel)) (by decide) hc_z
        replace hc_z := rn_bipush (w := 99) (am_cur_of (i := (55, 2, .bipush 99, (0, 0, 0), 0)) (by decide +kernel)) (by decide) hc_z
        replace hc_z := rn_callV (M' := am_m30) (o := 44) (ar := [.int 99, .int 0]) (rest := [.int cl, .ref 28]) (L := lv_args 0 [.ref 44, .int 0, .int 99]) (am_cur_of (i := (57, 3, .invokevirtual 142, (30, 773, 3), 0)) (by decide +kernel)) rfl rfl rfl rfl hc_z
        obtain ⟨r498_z, h499_z, q500_z, hc_z⟩ := hc_z
        replace hm_z := rn_ifT (am_cur_of (i := (26, 3, .ifCond .ne 5, (17, 0, 0), 0)) (by decide +kernel)) (by decide) hm_z
        replace hm_z := rn_aload_n (am_cur_of (i := (31, 1, .aload_n 0, (0, 0, 0), 0)) (by decide +kernel)) g0m hm_z
        replace hm_z := rn_getR (x := 173) (am_cur_of (i := (32, 3, .getfield 39, (12, 28, 1412), 0)) (by decide +kernel)) (by decide +kernel) hm_z
        replace hm_z := rn_bipush (w := 6) (am_cur_of (i := (35, 2, .bipush 6, (0, 0, 0), 0)) (by decide +kernel)) (by decide) hm_z
        replace hm_z := rn_aload_n (am_cur_of (i := (37, 1, .aload_n 0, (0, 0, 0), 0)) (by decide +kernel)) g0m hm_z
        replace hm_z := rn_getI (v := cl) (am_cur_of (i := (38, 3, .getfield 207, (12, 19, 1403), 0)) (by decide +kernel)) (by decide +kernel) (nl1_z.symm.trans ecl) hm_z
        replace hm_z := rn_iadd (w := (6 : Int32) + cl) (am_cur_of (i := (41, 1, .iadd, (0, 0, 0), 0)) (by decide +kernel)) rfl hm_z
        replace hm_z := rn_aload_n (am_cur_of (i := (42, 1, .aload_n 0, (0, 0, 0), 0)) (by decide +kernel)) g0m hm_z
        replace hm_z := rn_getI (v := v2_z) (am_cur_of (i := (43, 3, .getfield 188, (12, 11, 1395), 0)) (by decide +kernel)) (by decide +kernel) got hm_z
        replace hm_z := rn_iastore (N := 12) (q := ((6 : Int32) + cl).toNatClampNeg) (am_cur_of (i := (46, 1, .iastore, (0, 0, 0), 0)) (by decide +kernel)) (by decide +kernel) rfl hm_z
        obtain ⟨p501_z, hm_z⟩ := hm_z
        replace hm_z := rn_aload_n (am_cur_of (i := (47, 1, .aload_n 0, (0, 0, 0), 0)) (by decide +kernel)) g0m hm_z
        replace hm_z := rn_iconst (w := 0) (am_cur_of (i := (48, 1, .iconst 0, (0, 0, 0), 0)) (by decide +kernel)) (by decide) hm_z
        replace hm_z := rn_bipush (w := 99) (am_cur_of (i := (49, 2, .bipush 99, (0, 0, 0), 0)) (by decide +kernel)) (by decide) hm_z
        replace hm_z := rn_callV (M' := am_m161) (o := 164) (ar := [.int 99, .int 0]) (rest := []) (L := lv_args 0 [.ref 164, .int 0, .int 99]) (am_cur_of (i := (51, 3, .invokevirtual 197, (161, 1677, 3), 0)) (by decide +kernel)) rfl rfl rfl rfl hm_z
        obtain ⟨r502_z, h503_z, q504_z, hm_z⟩ := hm_z
        have R' : rq T S x2_z p2_z 23 (am_up h492_z 27 cl.toNatClampNeg (.int v2_z)) (am_up h495_z 173 (((6 : Int32) + cl).toNatClampNeg) (.int v2_z)) := ⟨⟨c1_z, c2_z, c3_z, c4_z, c5_z, c6_z, fun k hk_z => c7_z k hk_z, fun k hk_z => c8_z k hk_z⟩, ⟨m2_z, m3_z, m4_z, m5_z, m6_z, fun k hk_z => m7_z k hk_z, fun k hk_z => m8_z k hk_z⟩, R3, R4, R5, R6, R7, R8, R9, R10⟩
        have AE' : ∀ t : Nat, (t : Int) < (rg_v (am_up h492_z 27 cl.toNatClampNeg (.int v2_z)) 23 9).toInt → rg_v (am_up h492_z 27 cl.toNatClampNeg (.int v2_z)) (23 + 4) t = rg_v (am_up h495_z 173 (((6 : Int32) + cl).toNatClampNeg) (.int v2_z)) 173 (6 + t) ∧ rg_v (am_up h492_z 27 cl.toNatClampNeg (.int v2_z)) (23 + 5) t = rg_v (am_up h495_z 173 (((6 : Int32) + cl).toNatClampNeg) (.int v2_z)) 174 (6 + t) := by
          intro t ht
          have ht' : (t : Int) < cl.toInt := by rw [← ecl]; exact ht
          have o := AE t (by rw [ecl]; omega)
          exact ⟨(show rg_v (am_up h492_z 27 cl.toNatClampNeg (.int v2_z)) 27 t = rg_v h492_z 27 t from rg_v_other (h := h492_z) (o := 27) (k := cl.toNatClampNeg) (v := .int v2_z) (by omega)).trans (o.1.trans (show rg_v (am_up h495_z 173 (((6 : Int32) + cl).toNatClampNeg) (.int v2_z)) 173 (6 + t) = rg_v h495_z 173 (6 + t) from rg_v_other (h := h495_z) (o := 173) (k := ((6 : Int32) + cl).toNatClampNeg) (v := .int v2_z) (by omega)).symm), (show rg_v (am_up h492_z 27 cl.toNatClampNeg (.int v2_z)) 28 t = rg_v h492_z 28 t from rfl).trans (o.2.trans (show rg_v (am_up h495_z 173 (((6 : Int32) + cl).toNatClampNeg) (.int v2_z)) 174 (6 + t) = rg_v h495_z 174 (6 + t) from rfl).symm)⟩
        have A' : rp 23 (am_up h492_z 27 cl.toNatClampNeg (.int v2_z)) (am_up h495_z 173 (((6 : Int32) + cl).toNatClampNeg) (.int v2_z)) := ⟨⟨a1_z, a2_z, a3_z, a4_z, a5_z, a6_z⟩, ⟨nb1_z, nb2_z, nb3_z⟩, ⟨nt1_z, nt2_z, nt3_z⟩, ⟨nl1_z, nl2_z, nl3_z⟩, ⟨nr1_z, nr2_z, nr3_z⟩, ⟨nk1_z, nk2_z, nk3_z⟩, ⟨fun hb_z k hk_z => AC0 hb_z k hk_z, fun hb_z k hk_z => AC1 hb_z k hk_z, fun hb_z k hk_z => AC2 hb_z k hk_z, fun hb_z k hk_z => AC3 hb_z k hk_z⟩, fun t ht => AD t ht, AE', fun t ht => AG t ht⟩
        have B' : rp_t (am_up h492_z 27 cl.toNatClampNeg (.int v2_z)) (am_up h495_z 173 (((6 : Int32) + cl).toNatClampNeg) (.int v2_z)) := by
          obtain ⟨b0_z, b1_z, b2_z, b3_z, b4_z, b5_z, b6_z, t, o0_z, o1_z, o2_z, o3_z, o4_z, o5_z, o6_z⟩ := B
          exact ⟨b0_z, b1_z, b2_z, b3_z, b4_z, b5_z, b6_z, t, o0_z, o1_z, o2_z, o3_z, o4_z, o5_z, o6_z⟩
        rcases pr_num R' (by decide) (by decide) q500_z q504_z with ⟨v3_z, x3_z, p3_z, rfl, rfl, lo3_z, hi3_z, R, le3_z, got, X, Y, t7_z, t167_z⟩ | ⟨rfl, F⟩
        · replace A := rp_x (by decide) A' X Y
          replace B := rp_tk B' t7_z t167_z Y
          clear A' B' R'
          replace le3_z : x.toInt ≤ p3_z.toInt := Int.le_trans (Int.le_trans le2_z R8) le3_z
          replace ecb : rg_v h499_z 23 2 = cb := (rx_v X (o := 23) (k := 2) (by decide)).trans ecb
          replace ect : rg_v h499_z 23 4 = ct := (rx_v X (o := 23) (k := 4) (by decide)).trans ect
          replace ecl : rg_v h499_z 23 9 = cl := (rx_v X (o := 23) (k := 9) (by decide)).trans ecl
          replace ecr : rg_v h499_z 23 12 = cr := (rx_v X (o := 23) (k := 12) (by decide)).trans ecr
          have E1 : rg_v h499_z 27 cl.toNatClampNeg = rg_v h503_z 173 (6 + cl.toNatClampNeg) := (rx_v X (o := 27) (k := cl.toNatClampNeg) (by decide)).trans (Eq.trans ((show rg_v (am_up h492_z 27 cl.toNatClampNeg (.int v2_z)) 27 cl.toNatClampNeg = v2_z from rg_v_self (h := h492_z) (o := 27) (k := cl.toNatClampNeg)).trans (show rg_v (am_up h495_z 173 (((6 : Int32) + cl).toNatClampNeg) (.int v2_z)) 173 (6 + cl.toNatClampNeg) = v2_z from by rw [← n6cl]; exact rg_v_self (h := h495_z) (o := 173) (k := ((6 : Int32) + cl).toNatClampNeg)).symm) (rx_w Y (o := 173) (k := 6 + cl.toNatClampNeg) (by omega) (by decide)).symm)
          replace hm_z : rn _ _ _ _ [.int 1] _ _ _ := hm_z
          replace hc_z : rn _ _ _ _ [.int v3_z, .int cl, .ref 28] _ _ _ := hc_z
          clear a1_z a2_z a3_z a4_z a5_z a6_z nb1_z nb2_z nb3_z nt1_z nt2_z nt3_z nl1_z nl2_z nl3_z nr1_z nr2_z nr3_z nk1_z nk2_z nk3_z AC0 AC1 AC2 AC3 AD AE AG c1_z c2_z c3_z c4_z c5_z c6_z c7_z c8_z m2_z m3_z m4_z m5_z m6_z m7_z m8_z R3 R4 R5 R6 R7 R8 R9 R10
          obtain ⟨⟨⟨a1_z, a2_z, a3_z, a4_z, a5_z, a6_z⟩, ⟨nb1_z, nb2_z, nb3_z⟩, ⟨nt1_z, nt2_z, nt3_z⟩, ⟨nl1_z, nl2_z, nl3_z⟩, ⟨nr1_z, nr2_z, nr3_z⟩, ⟨nk1_z, nk2_z, nk3_z⟩, ⟨AC0, AC1, AC2, AC3⟩, AD, AE, AG⟩, ⟨⟨c1_z, c2_z, c3_z, c4_z, c5_z, c6_z, c7_z, c8_z⟩, ⟨m2_z, m3_z, m4_z, m5_z, m6_z, m7_z, m8_z⟩, R3, R4, R5, R6, R7, R8, R9, R10⟩⟩ := (⟨A, R⟩ : rp 23 h499_z h503_z ∧ rq T S x3_z p3_z 23 h499_z h503_z)
          replace hc_z := rn_iastore (N := 6) (q := cl.toNatClampNeg) (am_cur_of (i := (60, 1, .iastore, (0, 0, 0), 0)) (by decide +kernel)) (by decide +kernel) rfl hc_z
          obtain ⟨p505_z, hc_z⟩ := hc_z
          replace hc_z := rn_aload_n (am_cur_of (i := (61, 1, .aload_n 0, (0, 0, 0), 0)) (by decide +kernel)) g0_z hc_z
          replace hc_z := rn_getM (x := 23) (am_cur_of (i := (62, 3, .getfield 25, (4, 6, 415), 0)) (by decide +kernel)) (show (am_up h499_z 28 cl.toNatClampNeg (.int v3_z)) 44 6 = .ref 23 from R3) hc_z
          replace hc_z := rn_dup (am_cur_of (i := (65, 1, .dup, (0, 0, 0), 0)) (by decide +kernel)) hc_z
          replace hc_z := rn_getI (v := cl) (am_cur_of (i := (66, 3, .getfield 211, (1, 9, 286), 0)) (by decide +kernel)) (by decide +kernel) (show rg_v (am_up h499_z 28 cl.toNatClampNeg (.int v3_z)) 23 9 = cl from ecl) hc_z
          replace hc_z := rn_iconst (w := 1) (am_cur_of (i := (69, 1, .iconst 1, (0, 0, 0), 0)) (by decide +kernel)) (by decide) hc_z
          replace hc_z := rn_iadd (w := cl + 1) (am_cur_of (i := (70, 1, .iadd, (0, 0, 0), 0)) (by decide +kernel)) rfl hc_z
          replace hc_z := rn_put (am_cur_of (i := (71, 3, .putfield 211, (1, 9, 286), 0)) (by decide +kernel)) (by decide +kernel) hc_z
          replace hc_z := rn_vret (am_cur_of (i := (74, 1, .return_, (0, 0, 0), 0)) (by decide +kernel)) hc_z
          obtain ⟨e506_z, e507_z⟩ := hc_z
          subst e506_z e507_z
          replace hm_z := rn_ifT (am_cur_of (i := (54, 3, .ifCond .ne 5, (33, 0, 0), 0)) (by decide +kernel)) (by decide) hm_z
          replace hm_z := rn_aload_n (am_cur_of (i := (59, 1, .aload_n 0, (0, 0, 0), 0)) (by decide +kernel)) g0m hm_z
          replace hm_z := rn_getR (x := 174) (am_cur_of (i := (60, 3, .getfield 42, (12, 29, 1413), 0)) (by decide +kernel)) (by decide +kernel) hm_z
          replace hm_z := rn_bipush (w := 6) (am_cur_of (i := (63, 2, .bipush 6, (0, 0, 0), 0)) (by decide +kernel)) (by decide) hm_z
          replace hm_z := rn_aload_n (am_cur_of (i := (65, 1, .aload_n 0, (0, 0, 0), 0)) (by decide +kernel)) g0m hm_z
          replace hm_z := rn_getI (v := cl) (am_cur_of (i := (66, 3, .getfield 207, (12, 19, 1403), 0)) (by decide +kernel)) (by decide +kernel) (nl1_z.symm.trans ecl) hm_z
          replace hm_z := rn_iadd (w := (6 : Int32) + cl) (am_cur_of (i := (69, 1, .iadd, (0, 0, 0), 0)) (by decide +kernel)) rfl hm_z
          replace hm_z := rn_aload_n (am_cur_of (i := (70, 1, .aload_n 0, (0, 0, 0), 0)) (by decide +kernel)) g0m hm_z
          replace hm_z := rn_getI (v := v3_z) (am_cur_of (i := (71, 3, .getfield 188, (12, 11, 1395), 0)) (by decide +kernel)) (by decide +kernel) got hm_z
          replace hm_z := rn_iastore (N := 12) (q := ((6 : Int32) + cl).toNatClampNeg) (am_cur_of (i := (74, 1, .iastore, (0, 0, 0), 0)) (by decide +kernel)) (by decide +kernel) rfl hm_z
          obtain ⟨p508_z, hm_z⟩ := hm_z
          replace hm_z := rn_aload_n (am_cur_of (i := (75, 1, .aload_n 0, (0, 0, 0), 0)) (by decide +kernel)) g0m hm_z
          replace hm_z := rn_dup (am_cur_of (i := (76, 1, .dup, (0, 0, 0), 0)) (by decide +kernel)) hm_z
          replace hm_z := rn_getI (v := cl) (am_cur_of (i := (77, 3, .getfield 207, (12, 19, 1403), 0)) (by decide +kernel)) (by decide +kernel) (show rg_v (am_up h503_z 174 (((6 : Int32) + cl).toNatClampNeg) (.int v3_z)) 164 19 = cl from (nl1_z.symm.trans ecl)) hm_z
          replace hm_z := rn_iconst (w := 1) (am_cur_of (i := (80, 1, .iconst 1, (0, 0, 0), 0)) (by decide +kernel)) (by decide) hm_z
          replace hm_z := rn_iadd (w := cl + 1) (am_cur_of (i := (81, 1, .iadd, (0, 0, 0), 0)) (by decide +kernel)) rfl hm_z
          replace hm_z := rn_put (am_cur_of (i := (82, 3, .putfield 207, (12, 19, 1403), 0)) (by decide +kernel)) (by decide +kernel) hm_z
          replace hm_z := rn_iconst (w := 1) (am_cur_of (i := (85, 1, .iconst 1, (0, 0, 0), 0)) (by decide +kernel)) (by decide) hm_z
          replace hm_z := rn_iret (am_cur_of (i := (86, 1, .ireturn, (0, 0, 0), 0)) (by decide +kernel)) hm_z
          obtain ⟨e509_z, e510_z⟩ := hm_z
          subst e509_z e510_z
          have R' : rq T S x3_z p3_z 23 (am_up (am_up h499_z 28 cl.toNatClampNeg (.int v3_z)) 23 9 (.int (cl + 1))) (am_up (am_up h503_z 174 (((6 : Int32) + cl).toNatClampNeg) (.int v3_z)) 164 19 (.int (cl + 1))) := ⟨⟨c1_z, c2_z, c3_z, c4_z, c5_z, c6_z, fun k hk_z => c7_z k hk_z, fun k hk_z => c8_z k hk_z⟩, ⟨m2_z, m3_z, m4_z, m5_z, m6_z, fun k hk_z => m7_z k hk_z, fun k hk_z => m8_z k hk_z⟩, R3, R4, R5, R6, R7, R8, R9, R10⟩
          have e1_z := rt_c1 cl0_z (by omega)
          have AE' : ∀ t : Nat, (t : Int) < (rg_v (am_up (am_up h499_z 28 cl.toNatClampNeg (.int v3_z)) 23 9 (.int (cl + 1))) 23 9).toInt → rg_v (am_up (am_up h499_z 28 cl.toNatClampNeg (.int v3_z)) 23 9 (.int (cl + 1))) (23 + 4) t = rg_v (am_up (am_up h503_z 174 (((6 : Int32) + cl).toNatClampNeg) (.int v3_z)) 164 19 (.int (cl + 1))) 173 (6 + t) ∧ rg_v (am_up (am_up h499_z 28 cl.toNatClampNeg (.int v3_z)) 23 9 (.int (cl + 1))) (23 + 5) t = rg_v (am_up (am_up h503_z 174 (((6 : Int32) + cl).toNatClampNeg) (.int v3_z)) 164 19 (.int (cl + 1))) 174 (6 + t) := by
            intro t ht
            have ht' : (t : Int) < (cl + 1).toInt := ht
            by_cases q : t = cl.toNatClampNeg
            · subst q
              exact ⟨E1, (show rg_v (am_up (am_up h499_z 28 cl.toNatClampNeg (.int v3_z)) 23 9 (.int (cl + 1))) 28 cl.toNatClampNeg = v3_z from rg_v_self (h := h499_z) (o := 28) (k := cl.toNatClampNeg)).trans (show rg_v (am_up (am_up h503_z 174 (((6 : Int32) + cl).toNatClampNeg) (.int v3_z)) 164 19 (.int (cl + 1))) 174 (6 + cl.toNatClampNeg) = v3_z from by rw [← n6cl]; exact rg_v_self (h := h503_z) (o := 174) (k := ((6 : Int32) + cl).toNatClampNeg)).symm⟩
            · have o := AE t (by rw [ecl]; omega)
              exact ⟨(show rg_v (am_up (am_up h499_z 28 cl.toNatClampNeg (.int v3_z)) 23 9 (.int (cl + 1))) 27 t = rg_v h499_z 27 t from rfl).trans (o.1.trans (show rg_v (am_up (am_up h503_z 174 (((6 : Int32) + cl).toNatClampNeg) (.int v3_z)) 164 19 (.int (cl + 1))) 173 (6 + t) = rg_v h503_z 173 (6 + t) from rfl).symm), (show rg_v (am_up (am_up h499_z 28 cl.toNatClampNeg (.int v3_z)) 23 9 (.int (cl + 1))) 28 t = rg_v h499_z 28 t from rg_v_other (h := h499_z) (o := 28) (k := cl.toNatClampNeg) (v := .int v3_z) (by omega)).trans (o.2.trans (show rg_v (am_up (am_up h503_z 174 (((6 : Int32) + cl).toNatClampNeg) (.int v3_z)) 164 19 (.int (cl + 1))) 174 (6 + t) = rg_v h503_z 174 (6 + t) from rg_v_other (h := h503_z) (o := 174) (k := ((6 : Int32) + cl).toNatClampNeg) (v := .int v3_z) (by omega)).symm)⟩
          have A' : rp 23 (am_up (am_up h499_z 28 cl.toNatClampNeg (.int v3_z)) 23 9 (.int (cl + 1))) (am_up (am_up h503_z 174 (((6 : Int32) + cl).toNatClampNeg) (.int v3_z)) 164 19 (.int (cl + 1))) := ⟨⟨a1_z, a2_z, a3_z, a4_z, a5_z, a6_z⟩, ⟨nb1_z, nb2_z, nb3_z⟩, ⟨nt1_z, nt2_z, nt3_z⟩, ⟨rfl, (show 0 ≤ (cl + 1).toInt by omega), (show (cl + 1).toInt ≤ 6 by omega)⟩, ⟨nr1_z, nr2_z, nr3_z⟩, ⟨nk1_z, nk2_z, nk3_z⟩, ⟨fun hb_z k hk_z => AC0 hb_z k hk_z, fun hb_z k hk_z => AC1 hb_z k hk_z, fun hb_z k hk_z => AC2 hb_z k hk_z, fun hb_z k hk_z => AC3 hb_z k hk_z⟩, fun t ht => AD t ht, AE', fun t ht => AG t ht⟩
          have B' : rp_t (am_up (am_up h499_z 28 cl.toNatClampNeg (.int v3_z)) 23 9 (.int (cl + 1))) (am_up (am_up h503_z 174 (((6 : Int32) + cl).toNatClampNeg) (.int v3_z)) 164 19 (.int (cl + 1))) := by
            obtain ⟨b0_z, b1_z, b2_z, b3_z, b4_z, b5_z, b6_z, t, o0_z, o1_z, o2_z, o3_z, o4_z, o5_z, o6_z⟩ := B
            exact ⟨b0_z, b1_z, b2_z, b3_z, b4_z, b5_z, b6_z, t, o0_z, o1_z, o2_z, o3_z, o4_z, o5_z, o6_z⟩
          exact Or.inl ⟨rfl, _, _, R', le3_z, A', B'⟩
        · obtain ⟨wv, w0_z, f1_z, f2_z, f3_z, f4_z⟩ := F
          have K := rs_stick (a := 37) (by decide) (by decide) rfl w0_z f1_z f2_z hc_z
          replace hm_z : rn _ _ _ _ [.int 0] _ _ _ := hm_z
          replace hm_z := rn_ifF (am_cur_of (i := (54, 3, .ifCond .ne 5, (33, 0, 0), 0)) (by decide +kernel)) (by decide) hm_z
          replace hm_z := rn_iconst (w := 0) (am_cur_of (i := (57, 1, .iconst 0, (0, 0, 0), 0)) (by decide +kernel)) (by decide) hm_z
          replace hm_z := rn_iret (am_cur_of (i := (58, 1, .ireturn, (0, 0, 0), 0)) (by decide +kernel)) hm_z
          obtain ⟨e511_z, e512_z⟩ := hm_z
          subst e511_z e512_z
          exact Or.inr ⟨rfl, _, wv, w0_z, K.1, K.2, f3_z, f4_z⟩
      · obtain ⟨wv, w0_z, f1_z, f2_z, f3_z, f4_z⟩ := F
        have K := rs_stick (a := 37) (by decide) (by decide) rfl w0_z f1_z f2_z hc_z
        replace hm_z : rn _ _ _ _ [.int 0] _ _ _ := hm_z
        replace hm_z := rn_ifF (am_cur_of (i := (26, 3, .ifCond .ne 5, (17, 0, 0), 0)) (by decide +kernel)) (by decide) hm_z
        replace hm_z := rn_iconst (w := 0) (am_cur_of (i := (29, 1, .iconst 0, (0, 0, 0), 0)) (by decide +kernel)) (by decide) hm_z
        replace hm_z := rn_iret (am_cur_of (i := (30, 1, .ireturn, (0, 0, 0), 0)) (by decide +kernel)) hm_z
        obtain ⟨e513_z, e514_z⟩ := hm_z
        subst e513_z e514_z
        exact Or.inr ⟨rfl, _, wv, w0_z, K.1, K.2, f3_z, f4_z⟩
    · replace b487_z : cl = (6 : Int32) ∧ cl.toInt = (6 : Int32).toInt := b487_z
      omega
