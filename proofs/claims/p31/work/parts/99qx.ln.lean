/-! ===== A LINE of both readers (wip/r/gen99qx.py) ===== -/
theorem pl_slip2 {ls2_z : am_L} {T : Nat → Int32} {S x p : Int32} {n n' : Nat} {h h' g g' : am_H} {r r' : Option Value} (R : rq T S x p 2 h g) (A : rp 2 h g) (B : rp_t h g) (g0m : am_get ls2_z 0 = some (.ref 164)) (hc_z : rn n am_m40 0 (lv_args 0 [.ref 44]) [] h r h') (hm_z : rn n' am_m157 39 ls2_z [] g r' g') : pm_Q T S x 2 h' g' r' := by
  have z0_z : (0 : Int32).toInt = 0 := by decide
  have z999_z : (999 : Int32).toInt = 999 := by decide
  have g0_z : am_get (lv_args 0 [.ref 44]) 0 = some (.ref 44) := rfl
  obtain ⟨⟨⟨a1_z, a2_z, a3_z, a4_z, a5_z, a6_z⟩, ⟨nb1_z, nb2_z, nb3_z⟩, ⟨nt1_z, nt2_z, nt3_z⟩, ⟨nl1_z, nl2_z, nl3_z⟩, ⟨nr1_z, nr2_z, nr3_z⟩, ⟨nk1_z, nk2_z, nk3_z⟩, ⟨AC0, AC1, AC2, AC3⟩, AD, AE, AG⟩, ⟨⟨c1_z, c2_z, c3_z, c4_z, c5_z, c6_z, c7_z, c8_z⟩, ⟨m2_z, m3_z, m4_z, m5_z, m6_z, m7_z, m8_z⟩, R3, R4, R5, R6, R7, R8, R9, R10⟩⟩ := (⟨A, R⟩ : rp 2 h g ∧ rq T S x p 2 h g)
  replace hc_z := rn_aload_n (am_cur_of (i := (0, 1, .aload_n 0, (0, 0, 0), 0)) (by decide +kernel)) g0_z hc_z
  replace hc_z := rn_bipush (w := 6) (am_cur_of (i := (1, 2, .bipush 6, (0, 0, 0), 0)) (by decide +kernel)) (by decide) hc_z
  replace hc_z := rn_callV (M' := am_m28) (o := 44) (ar := [.int 6]) (rest := []) (L := lv_args 0 [.ref 44, .int 6]) (am_cur_of (i := (3, 3, .invokevirtual 139, (28, 765, 3), 0)) (by decide +kernel)) rfl rfl rfl rfl hc_z
  obtain ⟨r237_z, h238_z, q239_z, hc_z⟩ := hc_z
  have vo := rn_void rfl q239_z
  subst vo
  replace hm_z := rn_aload_n (am_cur_of (i := (120, 1, .aload_n 0, (0, 0, 0), 0)) (by decide +kernel)) g0m hm_z
  replace hm_z := rn_iconst (w := 2) (am_cur_of (i := (121, 1, .iconst 2, (0, 0, 0), 0)) (by decide +kernel)) (by decide) hm_z
  replace hm_z := rn_callV (M' := am_m160) (o := 164) (ar := [.int 2]) (rest := []) (L := lv_args 0 [.ref 164, .int 2]) (am_cur_of (i := (122, 3, .invokevirtual 245, (160, 1673, 3), 0)) (by decide +kernel)) rfl rfl rfl rfl hm_z
  obtain ⟨r240_z, h241_z, q242_z, hm_z⟩ := hm_z
  rcases pr_once2 R B q239_z q242_z with ⟨x1_z, p1_z, rfl, R', le1_z, B', X, Y⟩ | ⟨rfl, F⟩
  · replace A := rp_x (by decide) A X Y
    replace B := B'
    replace R := R'
    clear B' R'
    replace hm_z : rn _ _ _ _ [.int 1] _ _ _ := hm_z
    replace hc_z : rn _ _ _ _ [] _ _ _ := hc_z
    clear a1_z a2_z a3_z a4_z a5_z a6_z nb1_z nb2_z nb3_z nt1_z nt2_z nt3_z nl1_z nl2_z nl3_z nr1_z nr2_z nr3_z nk1_z nk2_z nk3_z AC0 AC1 AC2 AC3 AD AE AG c1_z c2_z c3_z c4_z c5_z c6_z c7_z c8_z m2_z m3_z m4_z m5_z m6_z m7_z m8_z R3 R4 R5 R6 R7 R8 R9 R10
    obtain ⟨⟨⟨a1_z, a2_z, a3_z, a4_z, a5_z, a6_z⟩, ⟨nb1_z, nb2_z, nb3_z⟩, ⟨nt1_z, nt2_z, nt3_z⟩, ⟨nl1_z, nl2_z, nl3_z⟩, ⟨nr1_z, nr2_z, nr3_z⟩, ⟨nk1_z, nk2_z, nk3_z⟩, ⟨AC0, AC1, AC2, AC3⟩, AD, AE, AG⟩, ⟨⟨c1_z, c2_z, c3_z, c4_z, c5_z, c6_z, c7_z, c8_z⟩, ⟨m2_z, m3_z, m4_z, m5_z, m6_z, m7_z, m8_z⟩, R3, R4, R5, R6, R7, R8, R9, R10⟩⟩ := (⟨A, R⟩ : rp 2 h238_z h241_z ∧ rq T S x1_z p1_z 2 h238_z h241_z)
    replace hc_z := rn_aload_n (am_cur_of (i := (6, 1, .aload_n 0, (0, 0, 0), 0)) (by decide +kernel)) g0_z hc_z
    replace hc_z := rn_getM (x := 2) (am_cur_of (i := (7, 3, .getfield 25, (4, 6, 415), 0)) (by decide +kernel)) R3 hc_z
    replace hc_z := rn_aload_n (am_cur_of (i := (10, 1, .aload_n 0, (0, 0, 0), 0)) (by decide +kernel)) g0_z hc_z
    replace hc_z := rn_iconst (w := 0) (am_cur_of (i := (11, 1, .iconst 0, (0, 0, 0), 0)) (by decide +kernel)) (by decide) hc_z
    replace hc_z := rn_sipush (w := 999) (am_cur_of (i := (12, 3, .sipush 999, (0, 0, 0), 0)) (by decide +kernel)) (by decide) hc_z
    replace hc_z := rn_callV (M' := am_m30) (o := 44) (ar := [.int 999, .int 0]) (rest := [.ref 2]) (L := lv_args 0 [.ref 44, .int 0, .int 999]) (am_cur_of (i := (15, 3, .invokevirtual 142, (30, 773, 3), 0)) (by decide +kernel)) rfl rfl rfl rfl hc_z
    obtain ⟨r243_z, h244_z, q245_z, hc_z⟩ := hc_z
    replace hm_z := rn_ifF (am_cur_of (i := (125, 3, .ifCond .eq 18, (50, 0, 0), 0)) (by decide +kernel)) (by decide) hm_z
    replace hm_z := rn_aload_n (am_cur_of (i := (128, 1, .aload_n 0, (0, 0, 0), 0)) (by decide +kernel)) g0m hm_z
    replace hm_z := rn_iconst (w := 0) (am_cur_of (i := (129, 1, .iconst 0, (0, 0, 0), 0)) (by decide +kernel)) (by decide) hm_z
    replace hm_z := rn_sipush (w := 999) (am_cur_of (i := (130, 3, .sipush 999, (0, 0, 0), 0)) (by decide +kernel)) (by decide) hm_z
    replace hm_z := rn_callV (M' := am_m161) (o := 164) (ar := [.int 999, .int 0]) (rest := []) (L := lv_args 0 [.ref 164, .int 0, .int 999]) (am_cur_of (i := (133, 3, .invokevirtual 197, (161, 1677, 3), 0)) (by decide +kernel)) rfl rfl rfl rfl hm_z
    obtain ⟨r246_z, h247_z, q248_z, hm_z⟩ := hm_z
    have R' : rq T S x1_z p1_z 2 h238_z h241_z := ⟨⟨c1_z, c2_z, c3_z, c4_z, c5_z, c6_z, fun k hk_z => c7_z k hk_z, fun k hk_z => c8_z k hk_z⟩, ⟨m2_z, m3_z, m4_z, m5_z, m6_z, fun k hk_z => m7_z k hk_z, fun k hk_z => m8_z k hk_z⟩, R3, R4, R5, R6, R7, R8, R9, R10⟩
    have A' : rp 2 h238_z h241_z := ⟨⟨a1_z, a2_z, a3_z, a4_z, a5_z, a6_z⟩, ⟨nb1_z, nb2_z, nb3_z⟩, ⟨nt1_z, nt2_z, nt3_z⟩, ⟨nl1_z, nl2_z, nl3_z⟩, ⟨nr1_z, nr2_z, nr3_z⟩, ⟨nk1_z, nk2_z, nk3_z⟩, ⟨fun hb_z k hk_z => AC0 hb_z k hk_z, fun hb_z k hk_z => AC1 hb_z k hk_z, fun hb_z k hk_z => AC2 hb_z k hk_z, fun hb_z k hk_z => AC3 hb_z k hk_z⟩, fun t ht => AD t ht, fun t ht => AE t ht, fun t ht => AG t ht⟩
    have B' : rp_t h238_z h241_z := by
      obtain ⟨b0_z, b1_z, b2_z, b3_z, b4_z, b5_z, b6_z, t, o0_z, o1_z, o2_z, o3_z, o4_z, o5_z, o6_z⟩ := B
      exact ⟨b0_z, b1_z, b2_z, b3_z, b4_z, b5_z, b6_z, t, o0_z, o1_z, o2_z, o3_z, o4_z, o5_z, o6_z⟩
    rcases pr_num R' (by decide) (by decide) q245_z q248_z with ⟨v2_z, x2_z, p2_z, rfl, rfl, lo2_z, hi2_z, R, le2_z, got, X, Y, t7_z, t167_z⟩ | ⟨rfl, F⟩
    · replace A := rp_x (by decide) A' X Y
      replace B := rp_tk B' t7_z t167_z Y
      clear A' B' R'
      replace le2_z : x.toInt ≤ p2_z.toInt := Int.le_trans (Int.le_trans le1_z R8) le2_z
      replace hm_z : rn _ _ _ _ [.int 1] _ _ _ := hm_z
      replace hc_z : rn _ _ _ _ [.int v2_z, .ref 2] _ _ _ := hc_z
      clear a1_z a2_z a3_z a4_z a5_z a6_z nb1_z nb2_z nb3_z nt1_z nt2_z nt3_z nl1_z nl2_z nl3_z nr1_z nr2_z nr3_z nk1_z nk2_z nk3_z AC0 AC1 AC2 AC3 AD AE AG c1_z c2_z c3_z c4_z c5_z c6_z c7_z c8_z m2_z m3_z m4_z m5_z m6_z m7_z m8_z R3 R4 R5 R6 R7 R8 R9 R10
      obtain ⟨⟨⟨a1_z, a2_z, a3_z, a4_z, a5_z, a6_z⟩, ⟨nb1_z, nb2_z, nb3_z⟩, ⟨nt1_z, nt2_z, nt3_z⟩, ⟨nl1_z, nl2_z, nl3_z⟩, ⟨nr1_z, nr2_z, nr3_z⟩, ⟨nk1_z, nk2_z, nk3_z⟩, ⟨AC0, AC1, AC2, AC3⟩, AD, AE, AG⟩, ⟨⟨c1_z, c2_z, c3_z, c4_z, c5_z, c6_z, c7_z, c8_z⟩, ⟨m2_z, m3_z, m4_z, m5_z, m6_z, m7_z, m8_z⟩, R3, R4, R5, R6, R7, R8, R9, R10⟩⟩ := (⟨A, R⟩ : rp 2 h244_z h247_z ∧ rq T S x2_z p2_z 2 h244_z h247_z)
      replace hc_z := rn_put (am_cur_of (i := (18, 3, .putfield 235, (1, 16, 307), 0)) (by decide +kernel)) (by decide +kernel) hc_z
      replace hc_z := rn_vret (am_cur_of (i := (21, 1, .return_, (0, 0, 0), 0)) (by decide +kernel)) hc_z
      obtain ⟨e249_z, e250_z⟩ := hc_z
      subst e249_z e250_z
      replace hm_z := rn_ifF (am_cur_of (i := (136, 3, .ifCond .eq 7, (50, 0, 0), 0)) (by decide +kernel)) (by decide) hm_z
      replace hm_z := rn_iconst (w := 1) (am_cur_of (i := (139, 1, .iconst 1, (0, 0, 0), 0)) (by decide +kernel)) (by decide) hm_z
      replace hm_z := rn_goto (am_cur_of (i := (140, 3, .goto 4, (51, 0, 0), 0)) (by decide +kernel)) hm_z
      replace hm_z := rn_istore_n (am_cur_of (i := (144, 1, .istore_n 1, (0, 0, 0), 0)) (by decide +kernel)) hm_z
      obtain ⟨_, s251_z, s252_z, g1m, hm_z⟩ := hm_z
      replace g0m := s251_z 0 _ (by decide) rfl g0m
      clear s251_z s252_z
      replace hm_z := rn_iload_n (am_cur_of (i := (145, 1, .iload_n 1, (0, 0, 0), 0)) (by decide +kernel)) g1m hm_z
      replace hm_z := rn_ifF (am_cur_of (i := (146, 3, .ifCond .eq 156, (139, 0, 0), 0)) (by decide +kernel)) (by decide) hm_z
      replace hm_z := rn_aload_n (am_cur_of (i := (149, 1, .aload_n 0, (0, 0, 0), 0)) (by decide +kernel)) g0m hm_z
      replace hm_z := rn_getR (x := 168) (am_cur_of (i := (150, 3, .getfield 24, (12, 23, 1407), 0)) (by decide +kernel)) (by decide +kernel) hm_z
      replace hm_z := rn_bipush (w := 10) (am_cur_of (i := (153, 2, .bipush 10, (0, 0, 0), 0)) (by decide +kernel)) (by decide) hm_z
      replace hm_z := rn_aload_n (am_cur_of (i := (155, 1, .aload_n 0, (0, 0, 0), 0)) (by decide +kernel)) g0m hm_z
      replace hm_z := rn_getI (v := v2_z) (am_cur_of (i := (156, 3, .getfield 188, (12, 11, 1395), 0)) (by decide +kernel)) (by decide +kernel) got hm_z
      replace hm_z := rn_iastore (N := 12) (q := 10) (am_cur_of (i := (159, 1, .iastore, (0, 0, 0), 0)) (by decide +kernel)) (by decide +kernel) rfl hm_z
      obtain ⟨p253_z, hm_z⟩ := hm_z
      replace hm_z := rn_goto (am_cur_of (i := (160, 3, .goto 142, (139, 0, 0), 0)) (by decide +kernel)) hm_z
      have R' : rq T S x2_z p2_z 2 (am_up h244_z 2 16 (.int v2_z)) (am_up h247_z 168 10 (.int v2_z)) := ⟨⟨c1_z, c2_z, c3_z, c4_z, c5_z, c6_z, fun k hk_z => c7_z k hk_z, fun k hk_z => c8_z k hk_z⟩, ⟨m2_z, m3_z, m4_z, m5_z, m6_z, fun k hk_z => m7_z k hk_z, fun k hk_z => m8_z k hk_z⟩, R3, R4, R5, R6, R7, R8, R9, R10⟩
      have A' : rp 2 (am_up h244_z 2 16 (.int v2_z)) (am_up h247_z 168 10 (.int v2_z)) := ⟨⟨a1_z, a2_z, a3_z, a4_z, rfl, a6_z⟩, ⟨nb1_z, nb2_z, nb3_z⟩, ⟨nt1_z, nt2_z, nt3_z⟩, ⟨nl1_z, nl2_z, nl3_z⟩, ⟨nr1_z, nr2_z, nr3_z⟩, ⟨nk1_z, nk2_z, nk3_z⟩, ⟨fun hb_z k hk_z => AC0 hb_z k hk_z, fun hb_z k hk_z => AC1 hb_z k hk_z, fun hb_z k hk_z => AC2 hb_z k hk_z, fun hb_z k hk_z => AC3 hb_z k hk_z⟩, fun t ht => AD t ht, fun t ht => AE t ht, fun t ht => AG t ht⟩
      have B' : rp_t (am_up h244_z 2 16 (.int v2_z)) (am_up h247_z 168 10 (.int v2_z)) := by
        obtain ⟨b0_z, b1_z, b2_z, b3_z, b4_z, b5_z, b6_z, t, o0_z, o1_z, o2_z, o3_z, o4_z, o5_z, o6_z⟩ := B
        exact ⟨b0_z, b1_z, b2_z, b3_z, b4_z, b5_z, b6_z, t, o0_z, o1_z, o2_z, o3_z, o4_z, o5_z, o6_z⟩
      exact Or.inl ⟨_, _, _, _, _, R', le2_z, A', B', g0m, g1m, hm_z⟩
    · obtain ⟨wv, w0_z, f1_z, f2_z, f3_z, f4_z⟩ := F
      have K := rs_stick (a := 40) (by decide) (by decide) rfl w0_z f1_z f2_z hc_z
      replace hm_z : rn _ _ _ _ [.int 0] _ _ _ := hm_z
      replace hm_z := rn_ifT (am_cur_of (i := (136, 3, .ifCond .eq 7, (50, 0, 0), 0)) (by decide +kernel)) (by decide) hm_z
      replace hm_z := rn_iconst (w := 0) (am_cur_of (i := (143, 1, .iconst 0, (0, 0, 0), 0)) (by decide +kernel)) (by decide) hm_z
      replace hm_z := rn_istore_n (am_cur_of (i := (144, 1, .istore_n 1, (0, 0, 0), 0)) (by decide +kernel)) hm_z
      obtain ⟨_, s254_z, s255_z, g1m, hm_z⟩ := hm_z
      replace g0m := s254_z 0 _ (by decide) rfl g0m
      clear s254_z s255_z
      replace hm_z := rn_iload_n (am_cur_of (i := (145, 1, .iload_n 1, (0, 0, 0), 0)) (by decide +kernel)) g1m hm_z
      replace hm_z := rn_ifT (am_cur_of (i := (146, 3, .ifCond .eq 156, (139, 0, 0), 0)) (by decide +kernel)) (by decide) hm_z
      replace hm_z := rn_iload_n (am_cur_of (i := (302, 1, .iload_n 1, (0, 0, 0), 0)) (by decide +kernel)) g1m hm_z
      replace hm_z := rn_ifF (am_cur_of (i := (303, 3, .ifCond .ne 5, (143, 0, 0), 0)) (by decide +kernel)) (by decide) hm_z
      replace hm_z := rn_iconst (w := 0) (am_cur_of (i := (306, 1, .iconst 0, (0, 0, 0), 0)) (by decide +kernel)) (by decide) hm_z
      replace hm_z := rn_iret (am_cur_of (i := (307, 1, .ireturn, (0, 0, 0), 0)) (by decide +kernel)) hm_z
      obtain ⟨e256_z, e257_z⟩ := hm_z
      subst e256_z e257_z
      exact Or.inr (Or.inl ⟨rfl, _, wv, w0_z, K.1, K.2, f3_z, f4_z⟩)
  · obtain ⟨wv, w0_z, f1_z, f2_z, f3_z, f4_z⟩ := F
    have K := rs_stick (a := 40) (by decide) (by decide) rfl w0_z f1_z f2_z hc_z
    replace hm_z : rn _ _ _ _ [.int 0] _ _ _ := hm_z
    replace hm_z := rn_ifT (am_cur_of (i := (125, 3, .ifCond .eq 18, (50, 0, 0), 0)) (by decide +kernel)) (by decide) hm_z
    replace hm_z := rn_iconst (w := 0) (am_cur_of (i := (143, 1, .iconst 0, (0, 0, 0), 0)) (by decide +kernel)) (by decide) hm_z
    replace hm_z := rn_istore_n (am_cur_of (i := (144, 1, .istore_n 1, (0, 0, 0), 0)) (by decide +kernel)) hm_z
    obtain ⟨_, s258_z, s259_z, g1m, hm_z⟩ := hm_z
    replace g0m := s258_z 0 _ (by decide) rfl g0m
    clear s258_z s259_z
    replace hm_z := rn_iload_n (am_cur_of (i := (145, 1, .iload_n 1, (0, 0, 0), 0)) (by decide +kernel)) g1m hm_z
    replace hm_z := rn_ifT (am_cur_of (i := (146, 3, .ifCond .eq 156, (139, 0, 0), 0)) (by decide +kernel)) (by decide) hm_z
    replace hm_z := rn_iload_n (am_cur_of (i := (302, 1, .iload_n 1, (0, 0, 0), 0)) (by decide +kernel)) g1m hm_z
    replace hm_z := rn_ifF (am_cur_of (i := (303, 3, .ifCond .ne 5, (143, 0, 0), 0)) (by decide +kernel)) (by decide) hm_z
    replace hm_z := rn_iconst (w := 0) (am_cur_of (i := (306, 1, .iconst 0, (0, 0, 0), 0)) (by decide +kernel)) (by decide) hm_z
    replace hm_z := rn_iret (am_cur_of (i := (307, 1, .ireturn, (0, 0, 0), 0)) (by decide +kernel)) hm_z
    obtain ⟨e260_z, e261_z⟩ := hm_z
    subst e260_z e261_z
    exact Or.inr (Or.inl ⟨rfl, _, wv, w0_z, K.1, K.2, f3_z, f4_z⟩)
theorem pl_seed2 {ls2_z : am_L} {T : Nat → Int32} {S x p : Int32} {n n' : Nat} {h h' g g' : am_H} {r r' : Option Value} (R : rq T S x p 2 h g) (A : rp 2 h g) (B : rp_t h g) (g0m : am_get ls2_z 0 = some (.ref 164)) (hc_z : rn n am_m41 0 (lv_args 0 [.ref 44]) [] h r h') (hm_z : rn n' am_m157 61 ls2_z [] g r' g') : pm_Q T S x 2 h' g' r' := by
  have z0_z : (0 : Int32).toInt = 0 := by decide
  have z99999_z : (99999 : Int32).toInt = 99999 := by decide
  have g0_z : am_get (lv_args 0 [.ref 44]) 0 = some (.ref 44) := rfl
  obtain ⟨⟨⟨a1_z, a2_z, a3_z, a4_z, a5_z, a6_z⟩, ⟨nb1_z, nb2_z, nb3_z⟩, ⟨nt1_z, nt2_z, nt3_z⟩, ⟨nl1_z, nl2_z, nl3_z⟩, ⟨nr1_z, nr2_z, nr3_z⟩, ⟨nk1_z, nk2_z, nk3_z⟩, ⟨AC0, AC1, AC2, AC3⟩, AD, AE, AG⟩, ⟨⟨c1_z, c2_z, c3_z, c4_z, c5_z, c6_z, c7_z, c8_z⟩, ⟨m2_z, m3_z, m4_z, m5_z, m6_z, m7_z, m8_z⟩, R3, R4, R5, R6, R7, R8, R9, R10⟩⟩ := (⟨A, R⟩ : rp 2 h g ∧ rq T S x p 2 h g)
  replace hc_z := rn_aload_n (am_cur_of (i := (0, 1, .aload_n 0, (0, 0, 0), 0)) (by decide +kernel)) g0_z hc_z
  replace hc_z := rn_bipush (w := 7) (am_cur_of (i := (1, 2, .bipush 7, (0, 0, 0), 0)) (by decide +kernel)) (by decide) hc_z
  replace hc_z := rn_callV (M' := am_m28) (o := 44) (ar := [.int 7]) (rest := []) (L := lv_args 0 [.ref 44, .int 7]) (am_cur_of (i := (3, 3, .invokevirtual 139, (28, 765, 3), 0)) (by decide +kernel)) rfl rfl rfl rfl hc_z
  obtain ⟨r262_z, h263_z, q264_z, hc_z⟩ := hc_z
  have vo := rn_void rfl q264_z
  subst vo
  replace hm_z := rn_aload_n (am_cur_of (i := (163, 1, .aload_n 0, (0, 0, 0), 0)) (by decide +kernel)) g0m hm_z
  replace hm_z := rn_iconst (w := 3) (am_cur_of (i := (164, 1, .iconst 3, (0, 0, 0), 0)) (by decide +kernel)) (by decide) hm_z
  replace hm_z := rn_callV (M' := am_m160) (o := 164) (ar := [.int 3]) (rest := []) (L := lv_args 0 [.ref 164, .int 3]) (am_cur_of (i := (165, 3, .invokevirtual 245, (160, 1673, 3), 0)) (by decide +kernel)) rfl rfl rfl rfl hm_z
  obtain ⟨r265_z, h266_z, q267_z, hm_z⟩ := hm_z
  rcases pr_once3 R B q264_z q267_z with ⟨x1_z, p1_z, rfl, R', le1_z, B', X, Y⟩ | ⟨rfl, F⟩
  · replace A := rp_x (by decide) A X Y
    replace B := B'
    replace R := R'
    clear B' R'
    replace hm_z : rn _ _ _ _ [.int 1] _ _ _ := hm_z
    replace hc_z : rn _ _ _ _ [] _ _ _ := hc_z
    clear a1_z a2_z a3_z a4_z a5_z a6_z nb1_z nb2_z nb3_z nt1_z nt2_z nt3_z nl1_z nl2_z nl3_z nr1_z nr2_z nr3_z nk1_z nk2_z nk3_z AC0 AC1 AC2 AC3 AD AE AG c1_z c2_z c3_z c4_z c5_z c6_z c7_z c8_z m2_z m3_z m4_z m5_z m6_z m7_z m8_z R3 R4 R5 R6 R7 R8 R9 R10
    obtain ⟨⟨⟨a1_z, a2_z, a3_z, a4_z, a5_z, a6_z⟩, ⟨nb1_z, nb2_z, nb3_z⟩, ⟨nt1_z, nt2_z, nt3_z⟩, ⟨nl1_z, nl2_z, nl3_z⟩, ⟨nr1_z, nr2_z, nr3_z⟩, ⟨nk1_z, nk2_z, nk3_z⟩, ⟨AC0, AC1, AC2, AC3⟩, AD, AE, AG⟩, ⟨⟨c1_z, c2_z, c3_z, c4_z, c5_z, c6_z, c7_z, c8_z⟩, ⟨m2_z, m3_z, m4_z, m5_z, m6_z, m7_z, m8_z⟩, R3, R4, R5, R6, R7, R8, R9, R10⟩⟩ := (⟨A, R⟩ : rp 2 h263_z h266_z ∧ rq T S x1_z p1_z 2 h263_z h266_z)
    replace hc_z := rn_aload_n (am_cur_of (i := (6, 1, .aload_n 0, (0, 0, 0), 0)) (by decide +kernel)) g0_z hc_z
    replace hc_z := rn_getM (x := 2) (am_cur_of (i := (7, 3, .getfield 25, (4, 6, 415), 0)) (by decide +kernel)) R3 hc_z
    replace hc_z := rn_aload_n (am_cur_of (i := (10, 1, .aload_n 0, (0, 0, 0), 0)) (by decide +kernel)) g0_z hc_z
    replace hc_z := rn_iconst (w := 0) (am_cur_of (i := (11, 1, .iconst 0, (0, 0, 0), 0)) (by decide +kernel)) (by decide) hc_z
    replace hc_z := rn_ldc (w := 99999) (am_cur_of (i := (12, 2, .ldc 238, (0, 0, 821), 99999)) (by decide +kernel)) (by decide) hc_z
    replace hc_z := rn_callV (M' := am_m30) (o := 44) (ar := [.int 99999, .int 0]) (rest := [.ref 2]) (L := lv_args 0 [.ref 44, .int 0, .int 99999]) (am_cur_of (i := (14, 3, .invokevirtual 142, (30, 773, 3), 0)) (by decide +kernel)) rfl rfl rfl rfl hc_z
    obtain ⟨r268_z, h269_z, q270_z, hc_z⟩ := hc_z
    replace hm_z := rn_ifF (am_cur_of (i := (168, 3, .ifCond .eq 17, (72, 0, 0), 0)) (by decide +kernel)) (by decide) hm_z
    replace hm_z := rn_aload_n (am_cur_of (i := (171, 1, .aload_n 0, (0, 0, 0), 0)) (by decide +kernel)) g0m hm_z
    replace hm_z := rn_iconst (w := 0) (am_cur_of (i := (172, 1, .iconst 0, (0, 0, 0), 0)) (by decide +kernel)) (by decide) hm_z
    replace hm_z := rn_ldc (w := 99999) (am_cur_of (i := (173, 2, .ldc 177, (0, 0, 1656), 99999)) (by decide +kernel)) (by decide) hm_z
    replace hm_z := rn_callV (M' := am_m161) (o := 164) (ar := [.int 99999, .int 0]) (rest := []) (L := lv_args 0 [.ref 164, .int 0, .int 99999]) (am_cur_of (i := (175, 3, .invokevirtual 197, (161, 1677, 3), 0)) (by decide +kernel)) rfl rfl rfl rfl hm_z
    obtain ⟨r271_z, h272_z, q273_z, hm_z⟩ := hm_z
    have R' : rq T S x1_z p1_z 2 h263_z h266_z := ⟨⟨c1_z, c2_z, c3_z, c4_z, c5_z, c6_z, fun k hk_z => c7_z k hk_z, fun k hk_z => c8_z k hk_z⟩, ⟨m2_z, m3_z, m4_z, m5_z, m6_z, fun k hk_z => m7_z k hk_z, fun k hk_z => m8_z k hk_z⟩, R3, R4, R5, R6, R7, R8, R9, R10⟩
    have A' : rp 2 h263_z h266_z := ⟨⟨a1_z, a2_z, a3_z, a4_z, a5_z, a6_z⟩, ⟨nb1_z, nb2_z, nb3_z⟩, ⟨nt1_z, nt2_z, nt3_z⟩, ⟨nl1_z, nl2_z, nl3_z⟩, ⟨nr1_z, nr2_z, nr3_z⟩, ⟨nk1_z, nk2_z, nk3_z⟩, ⟨fun hb_z k hk_z => AC0 hb_z k hk_z, fun hb_z k hk_z => AC1 hb_z k hk_z, fun hb_z k hk_z => AC2 hb_z k hk_z, fun hb_z k hk_z => AC3 hb_z k hk_z⟩, fun t ht => AD t ht, fun t ht => AE t ht, fun t ht => AG t ht⟩
    have B' : rp_t h263_z h266_z := by
      obtain ⟨b0_z, b1_z, b2_z, b3_z, b4_z, b5_z, b6_z, t, o0_z, o1_z, o2_z, o3_z, o4_z, o5_z, o6_z⟩ := B
      exact ⟨b0_z, b1_z, b2_z, b3_z, b4_z, b5_z, b6_z, t, o0_z, o1_z, o2_z, o3_z, o4_z, o5_z, o6_z⟩
    rcases pr_num R' (by decide) (by decide) q270_z q273_z with ⟨v2_z, x2_z, p2_z, rfl, rfl, lo2_z, hi2_z, R, le2_z, got, X, Y, t7_z, t167_z⟩ | ⟨rfl, F⟩
    · replace A := rp_x (by decide) A' X Y
      replace B := rp_tk B' t7_z t167_z Y
      clear A' B' R'
      replace le2_z : x.toInt ≤ p2_z.toInt := Int.le_trans (Int.le_trans le1_z R8) le2_z
      replace hm_z : rn _ _ _ _ [.int 1] _ _ _ := hm_z
      replace hc_z : rn _ _ _ _ [.int v2_z, .ref 2] _ _ _ := hc_z
      clear a1_z a2_z a3_z a4_z a5_z a6_z nb1_z nb2_z nb3_z nt1_z nt2_z nt3_z nl1_z nl2_z nl3_z nr1_z nr2_z nr3_z nk1_z nk2_z nk3_z AC0 AC1 AC2 AC3 AD AE AG c1_z c2_z c3_z c4_z c5_z c6_z c7_z c8_z m2_z m3_z m4_z m5_z m6_z m7_z m8_z R3 R4 R5 R6 R7 R8 R9 R10
      obtain ⟨⟨⟨a1_z, a2_z, a3_z, a4_z, a5_z, a6_z⟩, ⟨nb1_z, nb2_z, nb3_z⟩, ⟨nt1_z, nt2_z, nt3_z⟩, ⟨nl1_z, nl2_z, nl3_z⟩, ⟨nr1_z, nr2_z, nr3_z⟩, ⟨nk1_z, nk2_z, nk3_z⟩, ⟨AC0, AC1, AC2, AC3⟩, AD, AE, AG⟩, ⟨⟨c1_z, c2_z, c3_z, c4_z, c5_z, c6_z, c7_z, c8_z⟩, ⟨m2_z, m3_z, m4_z, m5_z, m6_z, m7_z, m8_z⟩, R3, R4, R5, R6, R7, R8, R9, R10⟩⟩ := (⟨A, R⟩ : rp 2 h269_z h272_z ∧ rq T S x2_z p2_z 2 h269_z h272_z)
      replace hc_z := rn_put (am_cur_of (i := (17, 3, .putfield 239, (1, 17, 310), 0)) (by decide +kernel)) (by decide +kernel) hc_z
      replace hc_z := rn_vret (am_cur_of (i := (20, 1, .return_, (0, 0, 0), 0)) (by decide +kernel)) hc_z
      obtain ⟨e274_z, e275_z⟩ := hc_z
      subst e274_z e275_z
      replace hm_z := rn_ifF (am_cur_of (i := (178, 3, .ifCond .eq 7, (72, 0, 0), 0)) (by decide +kernel)) (by decide) hm_z
      replace hm_z := rn_iconst (w := 1) (am_cur_of (i := (181, 1, .iconst 1, (0, 0, 0), 0)) (by decide +kernel)) (by decide) hm_z
      replace hm_z := rn_goto (am_cur_of (i := (182, 3, .goto 4, (73, 0, 0), 0)) (by decide +kernel)) hm_z
      replace hm_z := rn_istore_n (am_cur_of (i := (186, 1, .istore_n 1, (0, 0, 0), 0)) (by decide +kernel)) hm_z
      obtain ⟨_, s276_z, s277_z, g1m, hm_z⟩ := hm_z
      replace g0m := s276_z 0 _ (by decide) rfl g0m
      clear s276_z s277_z
      replace hm_z := rn_iload_n (am_cur_of (i := (187, 1, .iload_n 1, (0, 0, 0), 0)) (by decide +kernel)) g1m hm_z
      replace hm_z := rn_ifF (am_cur_of (i := (188, 3, .ifCond .eq 114, (139, 0, 0), 0)) (by decide +kernel)) (by decide) hm_z
      replace hm_z := rn_aload_n (am_cur_of (i := (191, 1, .aload_n 0, (0, 0, 0), 0)) (by decide +kernel)) g0m hm_z
      replace hm_z := rn_getR (x := 168) (am_cur_of (i := (192, 3, .getfield 24, (12, 23, 1407), 0)) (by decide +kernel)) (by decide +kernel) hm_z
      replace hm_z := rn_bipush (w := 11) (am_cur_of (i := (195, 2, .bipush 11, (0, 0, 0), 0)) (by decide +kernel)) (by decide) hm_z
      replace hm_z := rn_aload_n (am_cur_of (i := (197, 1, .aload_n 0, (0, 0, 0), 0)) (by decide +kernel)) g0m hm_z
      replace hm_z := rn_getI (v := v2_z) (am_cur_of (i := (198, 3, .getfield 188, (12, 11, 1395), 0)) (by decide +kernel)) (by decide +kernel) got hm_z
      replace hm_z := rn_iastore (N := 12) (q := 11) (am_cur_of (i := (201, 1, .iastore, (0, 0, 0), 0)) (by decide +kernel)) (by decide +kernel) rfl hm_z
      obtain ⟨p278_z, hm_z⟩ := hm_z
      replace hm_z := rn_goto (am_cur_of (i := (202, 3, .goto 100, (139, 0, 0), 0)) (by decide +kernel)) hm_z
      have R' : rq T S x2_z p2_z 2 (am_up h269_z 2 17 (.int v2_z)) (am_up h272_z 168 11 (.int v2_z)) := ⟨⟨c1_z, c2_z, c3_z, c4_z, c5_z, c6_z, fun k hk_z => c7_z k hk_z, fun k hk_z => c8_z k hk_z⟩, ⟨m2_z, m3_z, m4_z, m5_z, m6_z, fun k hk_z => m7_z k hk_z, fun k hk_z => m8_z k hk_z⟩, R3, R4, R5, R6, R7, R8, R9, R10⟩
      have A' : rp 2 (am_up h269_z 2 17 (.int v2_z)) (am_up h272_z 168 11 (.int v2_z)) := ⟨⟨a1_z, a2_z, a3_z, a4_z, a5_z, rfl, a6_z.2⟩, ⟨nb1_z, nb2_z, nb3_z⟩, ⟨nt1_z, nt2_z, nt3_z⟩, ⟨nl1_z, nl2_z, nl3_z⟩, ⟨nr1_z, nr2_z, nr3_z⟩, ⟨nk1_z, nk2_z, nk3_z⟩, ⟨fun hb_z k hk_z => AC0 hb_z k hk_z, fun hb_z k hk_z => AC1 hb_z k hk_z, fun hb_z k hk_z => AC2 hb_z k hk_z, fun hb_z k hk_z => AC3 hb_z k hk_z⟩, fun t ht => AD t ht, fun t ht => AE t ht, fun t ht => AG t ht⟩
      have B' : rp_t (am_up h269_z 2 17 (.int v2_z)) (am_up h272_z 168 11 (.int v2_z)) := by
        obtain ⟨b0_z, b1_z, b2_z, b3_z, b4_z, b5_z, b6_z, t, o0_z, o1_z, o2_z, o3_z, o4_z, o5_z, o6_z⟩ := B
        exact ⟨b0_z, b1_z, b2_z, b3_z, b4_z, b5_z, b6_z, t, o0_z, o1_z, o2_z, o3_z, o4_z, o5_z, o6_z⟩
      exact Or.inl ⟨_, _, _, _, _, R', le2_z, A', B', g0m, g1m, hm_z⟩
    · obtain ⟨wv, w0_z, f1_z, f2_z, f3_z, f4_z⟩ := F
      have K := rs_stick (a := 41) (by decide) (by decide) rfl w0_z f1_z f2_z hc_z
      replace hm_z : rn _ _ _ _ [.int 0] _ _ _ := hm_z
      replace hm_z := rn_ifT (am_cur_of (i := (178, 3, .ifCond .eq 7, (72, 0, 0), 0)) (by decide +kernel)) (by decide) hm_z
      replace hm_z := rn_iconst (w := 0) (am_cur_of (i := (185, 1, .iconst 0, (0, 0, 0), 0)) (by decide +kernel)) (by decide) hm_z
      replace hm_z := rn_istore_n (am_cur_of (i := (186, 1, .istore_n 1, (0, 0, 0), 0)) (by decide +kernel)) hm_z
      obtain ⟨_, s279_z, s280_z, g1m, hm_z⟩ := hm_z
      replace g0m := s279_z 0 _ (by decide) rfl g0m
      clear s279_z s280_z
      replace hm_z := rn_iload_n (am_cur_of (i := (187, 1, .iload_n 1, (0, 0, 0), 0)) (by decide +kernel)) g1m hm_z
      replace hm_z := rn_ifT (am_cur_of (i := (188, 3, .ifCond .eq 114, (139, 0, 0), 0)) (by decide +kernel)) (by decide) hm_z
      replace hm_z := rn_iload_n (am_cur_of (i := (302, 1, .iload_n 1, (0, 0, 0), 0)) (by decide +kernel)) g1m hm_z
      replace hm_z := rn_ifF (am_cur_of (i := (303, 3, .ifCond .ne 5, (143, 0, 0), 0)) (by decide +kernel)) (by decide) hm_z
      replace hm_z := rn_iconst (w := 0) (am_cur_of (i := (306, 1, .iconst 0, (0, 0, 0), 0)) (by decide +kernel)) (by decide) hm_z
      replace hm_z := rn_iret (am_cur_of (i := (307, 1, .ireturn, (0, 0, 0), 0)) (by decide +kernel)) hm_z
      obtain ⟨e281_z, e282_z⟩ := hm_z
      subst e281_z e282_z
      exact Or.inr (Or.inl ⟨rfl, _, wv, w0_z, K.1, K.2, f3_z, f4_z⟩)
  · obtain ⟨wv, w0_z, f1_z, f2_z, f3_z, f4_z⟩ := F
    have K := rs_stick (a := 41) (by decide) (by decide) rfl w0_z f1_z f2_z hc_z
    replace hm_z : rn _ _ _ _ [.int 0] _ _ _ := hm_z
    replace hm_z := rn_ifT (am_cur_of (i := (168, 3, .ifCond .eq 17, (72, 0, 0), 0)) (by decide +kernel)) (by decide) hm_z
    replace hm_z := rn_iconst (w := 0) (am_cur_of (i := (185, 1, .iconst 0, (0, 0, 0), 0)) (by decide +kernel)) (by decide) hm_z
    replace hm_z := rn_istore_n (am_cur_of (i := (186, 1, .istore_n 1, (0, 0, 0), 0)) (by decide +kernel)) hm_z
    obtain ⟨_, s283_z, s284_z, g1m, hm_z⟩ := hm_z
    replace g0m := s283_z 0 _ (by decide) rfl g0m
    clear s283_z s284_z
    replace hm_z := rn_iload_n (am_cur_of (i := (187, 1, .iload_n 1, (0, 0, 0), 0)) (by decide +kernel)) g1m hm_z
    replace hm_z := rn_ifT (am_cur_of (i := (188, 3, .ifCond .eq 114, (139, 0, 0), 0)) (by decide +kernel)) (by decide) hm_z
    replace hm_z := rn_iload_n (am_cur_of (i := (302, 1, .iload_n 1, (0, 0, 0), 0)) (by decide +kernel)) g1m hm_z
    replace hm_z := rn_ifF (am_cur_of (i := (303, 3, .ifCond .ne 5, (143, 0, 0), 0)) (by decide +kernel)) (by decide) hm_z
    replace hm_z := rn_iconst (w := 0) (am_cur_of (i := (306, 1, .iconst 0, (0, 0, 0), 0)) (by decide +kernel)) (by decide) hm_z
    replace hm_z := rn_iret (am_cur_of (i := (307, 1, .ireturn, (0, 0, 0), 0)) (by decide +kernel)) hm_z
    obtain ⟨e285_z, e286_z⟩ := hm_z
    subst e285_z e286_z
    exact Or.inr (Or.inl ⟨rfl, _, wv, w0_z, K.1, K.2, f3_z, f4_z⟩)
theorem pl_slip23 {ls2_z : am_L} {T : Nat → Int32} {S x p : Int32} {n n' : Nat} {h h' g g' : am_H} {r r' : Option Value} (R : rq T S x p 23 h g) (A : rp 23 h g) (B : rp_t h g) (g0m : am_get ls2_z 0 = some (.ref 164)) (hc_z : rn n am_m40 0 (lv_args 0 [.ref 44]) [] h r h') (hm_z : rn n' am_m157 39 ls2_z [] g r' g') : pm_Q T S x 23 h' g' r' := by
  have z0_z : (0 : Int32).toInt = 0 := by decide
  have z999_z : (999 : Int32).toInt = 999 := by decide
  have g0_z : am_get (lv_args 0 [.ref 44]) 0 = some (.ref 44) := rfl
  obtain ⟨⟨⟨a1_z, a2_z, a3_z, a4_z, a5_z, a6_z⟩, ⟨nb1_z, nb2_z, nb3_z⟩, ⟨nt1_z, nt2_z, nt3_z⟩, ⟨nl1_z, nl2_z, nl3_z⟩, ⟨nr1_z, nr2_z, nr3_z⟩, ⟨nk1_z, nk2_z, nk3_z⟩, ⟨AC0, AC1, AC2, AC3⟩, AD, AE, AG⟩, ⟨⟨c1_z, c2_z, c3_z, c4_z, c5_z, c6_z, c7_z, c8_z⟩, ⟨m2_z, m3_z, m4_z, m5_z, m6_z, m7_z, m8_z⟩, R3, R4, R5, R6, R7, R8, R9, R10⟩⟩ := (⟨A, R⟩ : rp 23 h g ∧ rq T S x p 23 h g)
  replace hc_z := rn_aload_n (am_cur_of (i := (0, 1, .aload_n 0, (0, 0, 0), 0)) (by decide +kernel)) g0_z hc_z
  replace hc_z := rn_bipush (w := 6) (am_cur_of (i := (1, 2, .bipush 6, (0, 0, 0), 0)) (by decide +kernel)) (by decide) hc_z
  replace hc_z := rn_callV (M' := am_m28) (o := 44) (ar := [.int 6]) (rest := []) (L := lv_args 0 [.ref 44, .int 6]) (am_cur_of (i := (3, 3, .invokevirtual 139, (28, 765, 3), 0)) (by decide +kernel)) rfl rfl rfl rfl hc_z
  obtain ⟨r287_z, h288_z, q289_z, hc_z⟩ := hc_z
  have vo := rn_void rfl q289_z
  subst vo
  replace hm_z := rn_aload_n (am_cur_of (i := (120, 1, .aload_n 0, (0, 0, 0), 0)) (by decide +kernel)) g0m hm_z
  replace hm_z := rn_iconst (w := 2) (am_cur_of (i := (121, 1, .iconst 2, (0, 0, 0), 0)) (by decide +kernel)) (by decide) hm_z
  replace hm_z := rn_callV (M' := am_m160) (o := 164) (ar := [.int 2]) (rest := []) (L := lv_args 0 [.ref 164, .int 2]) (am_cur_of (i := (122, 3, .invokevirtual 245, (160, 1673, 3), 0)) (by decide +kernel)) rfl rfl rfl rfl hm_z
  obtain ⟨r290_z, h291_z, q292_z, hm_z⟩ := hm_z
  rcases pr_once2 R B q289_z q292_z with ⟨x1_z, p1_z, rfl, R', le1_z, B', X, Y⟩ | ⟨rfl, F⟩
  · replace A := rp_x (by decide) A X Y
    replace B := B'
    replace R := R'
    clear B' R'
    replace hm_z : rn _ _ _ _ [.int 1] _ _ _ := hm_z
    replace hc_z : rn _ _ _ _ [] _ _ _ := hc_z
    clear a1_z a2_z a3_z a4_z a5_z a6_z nb1_z nb2_z nb3_z nt1_z nt2_z nt3_z nl1_z nl2_z nl3_z nr1_z nr2_z nr3_z nk1_z nk2_z nk3_z AC0 AC1 AC2 AC3 AD AE AG c1_z c2_z c3_z c4_z c5_z c6_z c7_z c8_z m2_z m3_z m4_z m5_z m6_z m7_z m8_z R3 R4 R5 R6 R7 R8 R9 R10
    obtain ⟨⟨⟨a1_z, a2_z, a3_z, a4_z, a5_z, a6_z⟩, ⟨nb1_z, nb2_z, nb3_z⟩, ⟨nt1_z, nt2_z, nt3_z⟩, ⟨nl1_z, nl2_z, nl3_z⟩, ⟨nr1_z, nr2_z, nr3_z⟩, ⟨nk1_z, nk2_z, nk3_z⟩, ⟨AC0, AC1, AC2, AC3⟩, AD, AE, AG⟩, ⟨⟨c1_z, c2_z, c3_z, c4_z, c5_z, c6_z, c7_z, c8_z⟩, ⟨m2_z, m3_z, m4_z, m5_z, m6_z, m7_z, m8_z⟩, R3, R4, R5, R6, R7, R8, R9, R10⟩⟩ := (⟨A, R⟩ : rp 23 h288_z h291_z ∧ rq T S x1_z p1_z 23 h288_z h291_z)
    replace hc_z := rn_aload_n (am_cur_of (i := (6, 1, .aload_n 0, (0, 0, 0), 0)) (by decide +kernel)) g0_z hc_z
    replace hc_z := rn_getM (x := 23) (am_cur_of (i := (7, 3, .getfield 25, (4, 6, 415), 0)) (by decide +kernel)) R3 hc_z
    replace hc_z := rn_aload_n (am_cur_of (i := (10, 1, .aload_n 0, (0, 0, 0), 0)) (by decide +kernel)) g0_z hc_z
    replace hc_z := rn_iconst (w := 0) (am_cur_of (i := (11, 1, .iconst 0, (0, 0, 0), 0)) (by decide +kernel)) (by decide) hc_z
    replace hc_z := rn_sipush (w := 999) (am_cur_of (i := (12, 3, .sipush 999, (0, 0, 0), 0)) (by decide +kernel)) (by decide) hc_z
    replace hc_z := rn_callV (M' := am_m30) (o := 44) (ar := [.int 999, .int 0]) (rest := [.ref 23]) (L := lv_args 0 [.ref 44, .int 0, .int 999]) (am_cur_of (i := (15, 3, .invokevirtual 142, (30, 773, 3), 0)) (by decide +kernel)) rfl rfl rfl rfl hc_z
    obtain ⟨r293_z, h294_z, q295_z, hc_z⟩ := hc_z
    replace hm_z := rn_ifF (am_cur_of (i := (125, 3, .ifCond .eq 18, (50, 0, 0), 0)) (by decide +kernel)) (by decide) hm_z
    replace hm_z := rn_aload_n (am_cur_of (i := (128, 1, .aload_n 0, (0, 0, 0), 0)) (by decide +kernel)) g0m hm_z
    replace hm_z := rn_iconst (w := 0) (am_cur_of (i := (129, 1, .iconst 0, (0, 0, 0), 0)) (by decide +kernel)) (by decide) hm_z
    replace hm_z := rn_sipush (w := 999) (am_cur_of (i := (130, 3, .sipush 999, (0, 0, 0), 0)) (by decide +kernel)) (by decide) hm_z
    replace hm_z := rn_callV (M' := am_m161) (o := 164) (ar := [.int 999, .int 0]) (rest := []) (L := lv_args 0 [.ref 164, .int 0, .int 999]) (am_cur_of (i := (133, 3, .invokevirtual 197, (161, 1677, 3), 0)) (by decide +kernel)) rfl rfl rfl rfl hm_z
    obtain ⟨r296_z, h297_z, q298_z, hm_z⟩ := hm_z
    have R' : rq T S x1_z p1_z 23 h288_z h291_z := ⟨⟨c1_z, c2_z, c3_z, c4_z, c5_z, c6_z, fun k hk_z => c7_z k hk_z, fun k hk_z => c8_z k hk_z⟩, ⟨m2_z, m3_z, m4_z, m5_z, m6_z, fun k hk_z => m7_z k hk_z, fun k hk_z => m8_z k hk_z⟩, R3, R4, R5, R6, R7, R8, R9, R10⟩
    have A' : rp 23 h288_z h291_z := ⟨⟨a1_z, a2_z, a3_z, a4_z, a5_z, a6_z⟩, ⟨nb1_z, nb2_z, nb3_z⟩, ⟨nt1_z, nt2_z, nt3_z⟩, ⟨nl1_z, nl2_z, nl3_z⟩, ⟨nr1_z, nr2_z, nr3_z⟩, ⟨nk1_z, nk2_z, nk3_z⟩, ⟨fun hb_z k hk_z => AC0 hb_z k hk_z, fun hb_z k hk_z => AC1 hb_z k hk_z, fun hb_z k hk_z => AC2 hb_z k hk_z, fun hb_z k hk_z => AC3 hb_z k hk_z⟩, fun t ht => AD t ht, fun t ht => AE t ht, fun t ht => AG t ht⟩
    have B' : rp_t h288_z h291_z := by
      obtain ⟨b0_z, b1_z, b2_z, b3_z, b4_z, b5_z, b6_z, t, o0_z, o1_z, o2_z, o3_z, o4_z, o5_z, o6_z⟩ := B
      exact ⟨b0_z, b1_z, b2_z, b3_z, b4_z, b5_z, b6_z, t, o0_z, o1_z, o2_z, o3_z, o4_z, o5_z, o6_z⟩
    rcases pr_num R' (by decide) (by decide) q295_z q298_z with ⟨v2_z, x2_z, p2_z, rfl, rfl, lo2_z, hi2_z, R, le2_z, got, X, Y, t7_z, t167_z⟩ | ⟨rfl, F⟩
    · replace A := rp_x (by decide) A' X Y
      replace B := rp_tk B' t7_z t167_z Y
      clear A' B' R'
      replace le2_z : x.toInt ≤ p2_z.toInt := Int.le_trans (Int.le_trans le1_z R8) le2_z
      replace hm_z : rn _ _ _ _ [.int 1] _ _ _ := hm_z
      replace hc_z : rn _ _ _ _ [.int v2_z, .ref 23] _ _ _ := hc_z
      clear a1_z a2_z a3_z a4_z a5_z a6_z nb1_z nb2_z nb3_z nt1_z nt2_z nt3_z nl1_z nl2_z nl3_z nr1_z nr2_z nr3_z nk1_z nk2_z nk3_z AC0 AC1 AC2 AC3 AD AE AG c1_z c2_z c3_z c4_z c5_z c6_z c7_z c8_z m2_z m3_z m4_z m5_z m6_z m7_z m8_z R3 R4 R5 R6 R7 R8 R9 R10
      obtain ⟨⟨⟨a1_z, a2_z, a3_z, a4_z, a5_z, a6_z⟩, ⟨nb1_z, nb2_z, nb3_z⟩, ⟨nt1_z, nt2_z, nt3_z⟩, ⟨nl1_z, nl2_z, nl3_z⟩, ⟨nr1_z, nr2_z, nr3_z⟩, ⟨nk1_z, nk2_z, nk3_z⟩, ⟨AC0, AC1, AC2, AC3⟩, AD, AE, AG⟩, ⟨⟨c1_z, c2_z, c3_z, c4_z, c5_z, c6_z, c7_z, c8_z⟩, ⟨m2_z, m3_z, m4_z, m5_z, m6_z, m7_z, m8_z⟩, R3, R4, R5, R6, R7, R8, R9, R10⟩⟩ := (⟨A, R⟩ : rp 23 h294_z h297_z ∧ rq T S x2_z p2_z 23 h294_z h297_z)
      replace hc_z := rn_put (am_cur_of (i := (18, 3, .putfield 235, (1, 16, 307), 0)) (by decide +kernel)) (by decide +kernel) hc_z
      replace hc_z := rn_vret (am_cur_of (i := (21, 1, .return_, (0, 0, 0), 0)) (by decide +kernel)) hc_z
      obtain ⟨e299_z, e300_z⟩ := hc_z
      subst e299_z e300_z
      replace hm_z := rn_ifF (am_cur_of (i := (136, 3, .ifCond .eq 7, (50, 0, 0), 0)) (by decide +kernel)) (by decide) hm_z
      replace hm_z := rn_iconst (w := 1) (am_cur_of (i := (139, 1, .iconst 1, (0, 0, 0), 0)) (by decide +kernel)) (by decide) hm_z
      replace hm_z := rn_goto (am_cur_of (i := (140, 3, .goto 4, (51, 0, 0), 0)) (by decide +kernel)) hm_z
      replace hm_z := rn_istore_n (am_cur_of (i := (144, 1, .istore_n 1, (0, 0, 0), 0)) (by decide +kernel)) hm_z
      obtain ⟨_, s301_z, s302_z, g1m, hm_z⟩ := hm_z
      replace g0m := s301_z 0 _ (by decide) rfl g0m
      clear s301_z s302_z
      replace hm_z := rn_iload_n (am_cur_of (i := (145, 1, .iload_n 1, (0, 0, 0), 0)) (by decide +kernel)) g1m hm_z
      replace hm_z := rn_ifF (am_cur_of (i := (146, 3, .ifCond .eq 156, (139, 0, 0), 0)) (by decide +kernel)) (by decide) hm_z
      replace hm_z := rn_aload_n (am_cur_of (i := (149, 1, .aload_n 0, (0, 0, 0), 0)) (by decide +kernel)) g0m hm_z
      replace hm_z := rn_getR (x := 168) (am_cur_of (i := (150, 3, .getfield 24, (12, 23, 1407), 0)) (by decide +kernel)) (by decide +kernel) hm_z
      replace hm_z := rn_bipush (w := 10) (am_cur_of (i := (153, 2, .bipush 10, (0, 0, 0), 0)) (by decide +kernel)) (by decide) hm_z
      replace hm_z := rn_aload_n (am_cur_of (i := (155, 1, .aload_n 0, (0, 0, 0), 0)) (by decide +kernel)) g0m hm_z
      replace hm_z := rn_getI (v := v2_z) (am_cur_of (i := (156, 3, .getfield 188, (12, 11, 1395), 0)) (by decide +kernel)) (by decide +kernel) got hm_z
      replace hm_z := rn_iastore (N := 12) (q := 10) (am_cur_of (i := (159, 1, .iastore, (0, 0, 0), 0)) (by decide +kernel)) (by decide +kernel) rfl hm_z
      obtain ⟨p303_z, hm_z⟩ := hm_z
      replace hm_z := rn_goto (am_cur_of (i := (160, 3, .goto 142, (139, 0, 0), 0)) (by decide +kernel)) hm_z
      have R' : rq T S x2_z p2_z 23 (am_up h294_z 23 16 (.int v2_z)) (am_up h297_z 168 10 (.int v2_z)) := ⟨⟨c1_z, c2_z, c3_z, c4_z, c5_z, c6_z, fun k hk_z => c7_z k hk_z, fun k hk_z => c8_z k hk_z⟩, ⟨m2_z, m3_z, m4_z, m5_z, m6_z, fun k hk_z => m7_z k hk_z, fun k hk_z => m8_z k hk_z⟩, R3, R4, R5, R6, R7, R8, R9, R10⟩
      have A' : rp 23 (am_up h294_z 23 16 (.int v2_z)) (am_up h297_z 168 10 (.int v2_z)) := ⟨⟨a1_z, a2_z, a3_z, a4_z, rfl, a6_z⟩, ⟨nb1_z, nb2_z, nb3_z⟩, ⟨nt1_z, nt2_z, nt3_z⟩, ⟨nl1_z, nl2_z, nl3_z⟩, ⟨nr1_z, nr2_z, nr3_z⟩, ⟨nk1_z, nk2_z, nk3_z⟩, ⟨fun hb_z k hk_z => AC0 hb_z k hk_z, fun hb_z k hk_z => AC1 hb_z k hk_z, fun hb_z k hk_z => AC2 hb_z k hk_z, fun hb_z k hk_z => AC3 hb_z k hk_z⟩, fun t ht => AD t ht, fun t ht => AE t ht, fun t ht => AG t ht⟩
      have B' : rp_t (am_up h294_z 23 16 (.int v2_z)) (am_up h297_z 168 10 (.int v2_z)) := by
        obtain ⟨b0_z, b1_z, b2_z, b3_z, b4_z, b5_z, b6_z, t, o0_z, o1_z, o2_z, o3_z, o4_z, o5_z, o6_z⟩ := B
        exact ⟨b0_z, b1_z, b2_z, b3_z, b4_z, b5_z, b6_z, t, o0_z, o1_z, o2_z, o3_z, o4_z, o5_z, o6_z⟩
      exact Or.inl ⟨_, _, _, _, _, R', le2_z, A', B', g0m, g1m, hm_z⟩
    · obtain ⟨wv, w0_z, f1_z, f2_z, f3_z, f4_z⟩ := F
      have K := rs_stick (a := 40) (by decide) (by decide) rfl w0_z f1_z f2_z hc_z
      replace hm_z : rn _ _ _ _ [.int 0] _ _ _ := hm_z
      replace hm_z := rn_ifT (am_cur_of (i := (136, 3, .ifCond .eq 7, (50, 0, 0), 0)) (by decide +kernel)) (by decide) hm_z
      replace hm_z := rn_iconst (w := 0) (am_cur_of (i := (143, 1, .iconst 0, (0, 0, 0), 0)) (by decide +kernel)) (by decide) hm_z
      replace hm_z := rn_istore_n (am_cur_of (i := (144, 1, .istore_n 1, (0, 0, 0), 0)) (by decide +kernel)) hm_z
      obtain ⟨_, s304_z, s305_z, g1m, hm_z⟩ := hm_z
      replace g0m := s304_z 0 _ (by decide) rfl g0m
      clear s304_z s305_z
      replace hm_z := rn_iload_n (am_cur_of (i := (145, 1, .iload_n 1, (0, 0, 0), 0)) (by decide +kernel)) g1m hm_z
      replace hm_z := rn_ifT (am_cur_of (i := (146, 3, .ifCond .eq 156, (139, 0, 0), 0)) (by decide +kernel)) (by decide) hm_z
      replace hm_z := rn_iload_n (am_cur_of (i := (302, 1, .iload_n 1, (0, 0, 0), 0)) (by decide +kernel)) g1m hm_z
      replace hm_z := rn_ifF (am_cur_of (i := (303, 3, .ifCond .ne 5, (143, 0, 0), 0)) (by decide +kernel)) (by decide) hm_z
      replace hm_z := rn_iconst (w := 0) (am_cur_of (i := (306, 1, .iconst 0, (0, 0, 0), 0)) (by decide +kernel)) (by decide) hm_z
      replace hm_z := rn_iret (am_cur_of (i := (307, 1, .ireturn, (0, 0, 0), 0)) (by decide +kernel)) hm_z
      obtain ⟨e306_z, e307_z⟩ := hm_z
      subst e306_z e307_z
      exact Or.inr (Or.inl ⟨rfl, _, wv, w0_z, K.1, K.2, f3_z, f4_z⟩)
  · obtain ⟨wv, w0_z, f1_z, f2_z, f3_z, f4_z⟩ := F
    have K := rs_stick (a := 40) (by decide) (by decide) rfl w0_z f1_z f2_z hc_z
    replace hm_z : rn _ _ _ _ [.int 0] _ _ _ := hm_z
    replace hm_z := rn_ifT (am_cur_of (i := (125, 3, .ifCond .eq 18, (50, 0, 0), 0)) (by decide +kernel)) (by decide) hm_z
    replace hm_z := rn_iconst (w := 0) (am_cur_of (i := (143, 1, .iconst 0, (0, 0, 0), 0)) (by decide +kernel)) (by decide) hm_z
    replace hm_z := rn_istore_n (am_cur_of (i := (144, 1, .istore_n 1, (0, 0, 0), 0)) (by decide +kernel)) hm_z
    obtain ⟨_, s308_z, s309_z, g1m, hm_z⟩ := hm_z
    replace g0m := s308_z 0 _ (by decide) rfl g0m
    clear s308_z s309_z
    replace hm_z := rn_iload_n (am_cur_of (i := (145, 1, .iload_n 1, (0, 0, 0), 0)) (by decide +kernel)) g1m hm_z
    replace hm_z := rn_ifT (am_cur_of (i := (146, 3, .ifCond .eq 156, (139, 0, 0), 0)) (by decide +kernel)) (by decide) hm_z
    replace hm_z := rn_iload_n (am_cur_of (i := (302, 1, .iload_n 1, (0, 0, 0), 0)) (by decide +kernel)) g1m hm_z
    replace hm_z := rn_ifF (am_cur_of (i := (303, 3, .ifCond .ne 5, (143, 0, 0), 0)) (by decide +kernel)) (by decide) hm_z
    replace hm_z := rn_iconst (w := 0) (am_cur_of (i := (306, 1, .iconst 0, (0, 0, 0), 0)) (by decide +kernel)) (by decide) hm_z
    replace hm_z := rn_iret (am_cur_of (i := (307, 1, .ireturn, (0, 0, 0), 0)) (by decide +kernel)) hm_z
    obtain ⟨e310_z, e311_z⟩ := hm_z
    subst e310_z e311_z
    exact Or.inr (Or.inl ⟨rfl, _, wv, w0_z, K.1, K.2, f3_z, f4_z⟩)
theorem pl_seed23 {ls2_z : am_L} {T : Nat → Int32} {S x p : Int32} {n n' : Nat} {h h' g g' : am_H} {r r' : Option Value} (R : rq T S x p 23 h g) (A : rp 23 h g) (B : rp_t h g) (g0m : am_get ls2_z 0 = some (.ref 164)) (hc_z : rn n am_m41 0 (lv_args 0 [.ref 44]) [] h r h') (hm_z : rn n' am_m157 61 ls2_z [] g r' g') : pm_Q T S x 23 h' g' r' := by
  have z0_z : (0 : Int32).toInt = 0 := by decide
  have z99999_z : (99999 : Int32).toInt = 99999 := by decide
  have g0_z : am_get (lv_args 0 [.ref 44]) 0 = some (.ref 44) := rfl
  obtain ⟨⟨⟨a1_z, a2_z, a3_z, a4_z, a5_z, a6_z⟩, ⟨nb1_z, nb2_z, nb3_z⟩, ⟨nt1_z, nt2_z, nt3_z⟩, ⟨nl1_z, nl2_z, nl3_z⟩, ⟨nr1_z, nr2_z, nr3_z⟩, ⟨nk1_z, nk2_z, nk3_z⟩, ⟨AC0, AC1, AC2, AC3⟩, AD, AE, AG⟩, ⟨⟨c1_z, c2_z, c3_z, c4_z, c5_z, c6_z, c7_z, c8_z⟩, ⟨m2_z, m3_z, m4_z, m5_z, m6_z, m7_z, m8_z⟩, R3, R4, R5, R6, R7, R8, R9, R10⟩⟩ := (⟨A, R⟩ : rp 23 h g ∧ rq T S x p 23 h g)
  replace hc_z := rn_aload_n (am_cur_of (i := (0, 1, .aload_n 0, (0, 0, 0), 0)) (by decide +kernel)) g0_z hc_z
  replace hc_z := rn_bipush (w := 7) (am_cur_of (i := (1, 2, .bipush 7, (0, 0, 0), 0)) (by decide +kernel)) (by decide) hc_z
  replace hc_z := rn_callV (M' := am_m28) (o := 44) (ar := [.int 7]) (rest := []) (L := lv_args 0 [.ref 44, .int 7]) (am_cur_of (i := (3, 3, .invokevirtual 139, (28, 765, 3), 0)) (by decide +kernel)) rfl rfl rfl rfl hc_z
  obtain ⟨r312_z, h313_z, q314_z, hc_z⟩ := hc_z
  have vo := rn_void rfl q314_z
  subst vo
  replace hm_z := rn_aload_n (am_cur_of (i := (163, 1, .aload_n 0, (0, 0, 0), 0)) (by decide +kernel)) g0m hm_z
  replace hm_z := rn_iconst (w := 3) (am_cur_of (i := (164, 1, .iconst 3, (0, 0, 0), 0)) (by decide +kernel)) (by decide) hm_z
  replace hm_z := rn_callV (M' := am_m160) (o := 164) (ar := [.int 3]) (rest := []) (L := lv_args 0 [.ref 164, .int 3]) (am_cur_of (i := (165, 3, .invokevirtual 245, (160, 1673, 3), 0)) (by decide +kernel)) rfl rfl rfl rfl hm_z
  obtain ⟨r315_z, h316_z, q317_z, hm_z⟩ := hm_z
  rcases pr_once3 R B q314_z q317_z with ⟨x1_z, p1_z, rfl, R', le1_z, B', X, Y⟩ | ⟨rfl, F⟩
  · replace A := rp_x (by decide) A X Y
    replace B := B'
    replace R := R'
    clear B' R'
    replace hm_z : rn _ _ _ _ [.int 1] _ _ _ := hm_z
    replace hc_z : rn _ _ _ _ [] _ _ _ := hc_z
    clear a1_z a2_z a3_z a4_z a5_z a6_z nb1_z nb2_z nb3_z nt1_z nt2_z nt3_z nl1_z nl2_z nl3_z nr1_z nr2_z nr3_z nk1_z nk2_z nk3_z AC0 AC1 AC2 AC3 AD AE AG c1_z c2_z c3_z c4_z c5_z c6_z c7_z c8_z m2_z m3_z m4_z m5_z m6_z m7_z m8_z R3 R4 R5 R6 R7 R8 R9 R10
    obtain ⟨⟨⟨a1_z, a2_z, a3_z, a4_z, a5_z, a6_z⟩, ⟨nb1_z, nb2_z, nb3_z⟩, ⟨nt1_z, nt2_z, nt3_z⟩, ⟨nl1_z, nl2_z, nl3_z⟩, ⟨nr1_z, nr2_z, nr3_z⟩, ⟨nk1_z, nk2_z, nk3_z⟩, ⟨AC0, AC1, AC2, AC3⟩, AD, AE, AG⟩, ⟨⟨c1_z, c2_z, c3_z, c4_z, c5_z, c6_z, c7_z, c8_z⟩, ⟨m2_z, m3_z, m4_z, m5_z, m6_z, m7_z, m8_z⟩, R3, R4, R5, R6, R7, R8, R9, R10⟩⟩ := (⟨A, R⟩ : rp 23 h313_z h316_z ∧ rq T S x1_z p1_z 23 h313_z h316_z)
    replace hc_z := rn_aload_n (am_cur_of (i := (6, 1, .aload_n 0, (0, 0, 0), 0)) (by decide +kernel)) g0_z hc_z
    replace hc_z := rn_getM (x := 23) (am_cur_of (i := (7, 3, .getfield 25, (4, 6, 415), 0)) (by decide +kernel)) R3 hc_z
    replace hc_z := rn_aload_n (am_cur_of (i := (10, 1, .aload_n 0, (0, 0, 0), 0)) (by decide +kernel)) g0_z hc_z
    replace hc_z := rn_iconst (w := 0) (am_cur_of (i := (11, 1, .iconst 0, (0, 0, 0), 0)) (by decide +kernel)) (by decide) hc_z
    replace hc_z := rn_ldc (w := 99999) (am_cur_of (i := (12, 2, .ldc 238, (0, 0, 821), 99999)) (by decide +kernel)) (by decide) hc_z
    replace hc_z := rn_callV (M' := am_m30) (o := 44) (ar := [.int 99999, .int 0]) (rest := [.ref 23]) (L := lv_args 0 [.ref 44, .int 0, .int 99999]) (am_cur_of (i := (14, 3, .invokevirtual 142, (30, 773, 3), 0)) (by decide +kernel)) rfl rfl rfl rfl hc_z
    obtain ⟨r318_z, h319_z, q320_z, hc_z⟩ := hc_z
    replace hm_z := rn_ifF (am_cur_of (i := (168, 3, .ifCond .eq 17, (72, 0, 0), 0)) (by decide +kernel)) (by decide) hm_z
    replace hm_z := rn_aload_n (am_cur_of (i := (171, 1, .aload_n 0, (0, 0, 0), 0)) (by decide +kernel)) g0m hm_z
    replace hm_z := rn_iconst (w := 0) (am_cur_of (i := (172, 1, .iconst 0, (0, 0, 0), 0)) (by decide +kernel)) (by decide) hm_z
    replace hm_z := rn_ldc (w := 99999) (am_cur_of (i := (173, 2, .ldc 177, (0, 0, 1656), 99999)) (by decide +kernel)) (by decide) hm_z
    replace hm_z := rn_callV (M' := am_m161) (o := 164) (ar := [.int 99999, .int 0]) (rest := []) (L := lv_args 0 [.ref 164, .int 0, .int 99999]) (am_cur_of (i := (175, 3, .invokevirtual 197, (161, 1677, 3), 0)) (by decide +kernel)) rfl rfl rfl rfl hm_z
    obtain ⟨r321_z, h322_z, q323_z, hm_z⟩ := hm_z
    have R' : rq T S x1_z p1_z 23 h313_z h316_z := ⟨⟨c1_z, c2_z, c3_z, c4_z, c5_z, c6_z, fun k hk_z => c7_z k hk_z, fun k hk_z => c8_z k hk_z⟩, ⟨m2_z, m3_z, m4_z, m5_z, m6_z, fun k hk_z => m7_z k hk_z, fun k hk_z => m8_z k hk_z⟩, R3, R4, R5, R6, R7, R8, R9, R10⟩
    have A' : rp 23 h313_z h316_z := ⟨⟨a1_z, a2_z, a3_z, a4_z, a5_z, a6_z⟩, ⟨nb1_z, nb2_z, nb3_z⟩, ⟨nt1_z, nt2_z, nt3_z⟩, ⟨nl1_z, nl2_z, nl3_z⟩, ⟨nr1_z, nr2_z, nr3_z⟩, ⟨nk1_z, nk2_z, nk3_z⟩, ⟨fun hb_z k hk_z => AC0 hb_z k hk_z, fun hb_z k hk_z => AC1 hb_z k hk_z, fun hb_z k hk_z => AC2 hb_z k hk_z, fun hb_z k hk_z => AC3 hb_z k hk_z⟩, fun t ht => AD t ht, fun t ht => AE t ht, fun t ht => AG t ht⟩
    have B' : rp_t h313_z h316_z := by
      obtain ⟨b0_z, b1_z, b2_z, b3_z, b4_z, b5_z, b6_z, t, o0_z, o1_z, o2_z, o3_z, o4_z, o5_z, o6_z⟩ := B
      exact ⟨b0_z, b1_z, b2_z, b3_z, b4_z, b5_z, b6_z, t, o0_z, o1_z, o2_z, o3_z, o4_z, o5_z, o6_z⟩
    rcases pr_num R' (by decide) (by decide) q320_z q323_z with ⟨v2_z, x2_z, p2_z, rfl, rfl, lo2_z, hi2_z, R, le2_z, got, X, Y, t7_z, t167_z⟩ | ⟨rfl, F⟩
    · replace A := rp_x (by decide) A' X Y
      replace B := rp_tk B' t7_z t167_z Y
      clear A' B' R'
      replace le2_z : x.toInt ≤ p2_z.toInt := Int.le_trans (Int.le_trans le1_z R8) le2_z
      replace hm_z : rn _ _ _ _ [.int 1] _ _ _ := hm_z
      replace hc_z : rn _ _ _ _ [.int v2_z, .ref 23] _ _ _ := hc_z
      clear a1_z a2_z a3_z a4_z a5_z a6_z nb1_z nb2_z nb3_z nt1_z nt2_z nt3_z nl1_z nl2_z nl3_z nr1_z nr2_z nr3_z nk1_z nk2_z nk3_z AC0 AC1 AC2 AC3 AD AE AG c1_z c2_z c3_z c4_z c5_z c6_z c7_z c8_z m2_z m3_z m4_z m5_z m6_z m7_z m8_z R3 R4 R5 R6 R7 R8 R9 R10
      obtain ⟨⟨⟨a1_z, a2_z, a3_z, a4_z, a5_z, a6_z⟩, ⟨nb1_z, nb2_z, nb3_z⟩, ⟨nt1_z, nt2_z, nt3_z⟩, ⟨nl1_z, nl2_z, nl3_z⟩, ⟨nr1_z, nr2_z, nr3_z⟩, ⟨nk1_z, nk2_z, nk3_z⟩, ⟨AC0, AC1, AC2, AC3⟩, AD, AE, AG⟩, ⟨⟨c1_z, c2_z, c3_z, c4_z, c5_z, c6_z, c7_z, c8_z⟩, ⟨m2_z, m3_z, m4_z, m5_z, m6_z, m7_z, m8_z⟩, R3, R4, R5, R6, R7, R8, R9, R10⟩⟩ := (⟨A, R⟩ : rp 23 h319_z h322_z ∧ rq T S x2_z p2_z 23 h319_z h322_z)
      replace hc_z := rn_put (am_cur_of (i := (17, 3, .putfield 239, (1, 17, 310), 0)) (by decide +kernel)) (by decide +kernel) hc_z
      replace hc_z := rn_vret (am_cur_of (i := (20, 1, .return_, (0, 0, 0), 0)) (by decide +kernel)) hc_z
      obtain ⟨e324_z, e325_z⟩ := hc_z
      subst e324_z e325_z
      replace hm_z := rn_ifF (am_cur_of (i := (178, 3, .ifCond .eq 7, (72, 0, 0), 0)) (by decide +kernel)) (by decide) hm_z
      replace hm_z := rn_iconst (w := 1) (am_cur_of (i := (181, 1, .iconst 1, (0, 0, 0), 0)) (by decide +kernel)) (by decide) hm_z
      replace hm_z := rn_goto (am_cur_of (i := (182, 3, .goto 4, (73, 0, 0), 0)) (by decide +kernel)) hm_z
      replace hm_z := rn_istore_n (am_cur_of (i := (186, 1, .istore_n 1, (0, 0, 0), 0)) (by decide +kernel)) hm_z
      obtain ⟨_, s326_z, s327_z, g1m, hm_z⟩ := hm_z
      replace g0m := s326_z 0 _ (by decide) rfl g0m
      clear s326_z s327_z
      replace hm_z := rn_iload_n (am_cur_of (i := (187, 1, .iload_n 1, (0, 0, 0), 0)) (by decide +kernel)) g1m hm_z
      replace hm_z := rn_ifF (am_cur_of (i := (188, 3, .ifCond .eq 114, (139, 0, 0), 0)) (by decide +kernel)) (by decide) hm_z
      replace hm_z := rn_aload_n (am_cur_of (i := (191, 1, .aload_n 0, (0, 0, 0), 0)) (by decide +kernel)) g0m hm_z
      replace hm_z := rn_getR (x := 168) (am_cur_of (i := (192, 3, .getfield 24, (12, 23, 1407), 0)) (by decide +kernel)) (by decide +kernel) hm_z
      replace hm_z := rn_bipush (w := 11) (am_cur_of (i := (195, 2, .bipush 11, (0, 0, 0), 0)) (by decide +kernel)) (by decide) hm_z
      replace hm_z := rn_aload_n (am_cur_of (i := (197, 1, .aload_n 0, (0, 0, 0), 0)) (by decide +kernel)) g0m hm_z
      replace hm_z := rn_getI (v := v2_z) (am_cur_of (i := (198, 3, .getfield 188, (12, 11, 1395), 0)) (by decide +kernel)) (by decide +kernel) got hm_z
      replace hm_z := rn_iastore (N := 12) (q := 11) (am_cur_of (i := (201, 1, .iastore, (0, 0, 0), 0)) (by decide +kernel)) (by decide +kernel) rfl hm_z
      obtain ⟨p328_z, hm_z⟩ := hm_z
      replace hm_z := rn_goto (am_cur_of (i := (202, 3, .goto 100, (139, 0, 0), 0)) (by decide +kernel)) hm_z
      have R' : rq T S x2_z p2_z 23 (am_up h319_z 23 17 (.int v2_z)) (am_up h322_z 168 11 (.int v2_z)) := ⟨⟨c1_z, c2_z, c3_z, c4_z, c5_z, c6_z, fun k hk_z => c7_z k hk_z, fun k hk_z => c8_z k hk_z⟩, ⟨m2_z, m3_z, m4_z, m5_z, m6_z, fun k hk_z => m7_z k hk_z, fun k hk_z => m8_z k hk_z⟩, R3, R4, R5, R6, R7, R8, R9, R10⟩
      have A' : rp 23 (am_up h319_z 23 17 (.int v2_z)) (am_up h322_z 168 11 (.int v2_z)) := ⟨⟨a1_z, a2_z, a3_z, a4_z, a5_z, rfl, a6_z.2⟩, ⟨nb1_z, nb2_z, nb3_z⟩, ⟨nt1_z, nt2_z, nt3_z⟩, ⟨nl1_z, nl2_z, nl3_z⟩, ⟨nr1_z, nr2_z, nr3_z⟩, ⟨nk1_z, nk2_z, nk3_z⟩, ⟨fun hb_z k hk_z => AC0 hb_z k hk_z, fun hb_z k hk_z => AC1 hb_z k hk_z, fun hb_z k hk_z => AC2 hb_z k hk_z, fun hb_z k hk_z => AC3 hb_z k hk_z⟩, fun t ht => AD t ht, fun t ht => AE t ht, fun t ht => AG t ht⟩
      have B' : rp_t (am_up h319_z 23 17 (.int v2_z)) (am_up h322_z 168 11 (.int v2_z)) := by
        obtain ⟨b0_z, b1_z, b2_z, b3_z, b4_z, b5_z, b6_z, t, o0_z, o1_z, o2_z, o3_z, o4_z, o5_z, o6_z⟩ := B
        exact ⟨b0_z, b1_z, b2_z, b3_z, b4_z, b5_z, b6_z, t, o0_z, o1_z, o2_z, o3_z, o4_z, o5_z, o6_z⟩
      exact Or.inl ⟨_, _, _, _, _, R', le2_z, A', B', g0m, g1m, hm_z⟩
    · obtain ⟨wv, w0_z, f1_z, f2_z, f3_z, f4_z⟩ := F
      have K := rs_stick (a := 41) (by decide) (by decide) rfl w0_z f1_z f2_z hc_z
      replace hm_z : rn _ _ _ _ [.int 0] _ _ _ := hm_z
      replace hm_z := rn_ifT (am_cur_of (i := (178, 3, .ifCond .eq 7, (72, 0, 0), 0)) (by decide +kernel)) (by decide) hm_z
      replace hm_z := rn_iconst (w := 0) (am_cur_of (i := (185, 1, .iconst 0, (0, 0, 0), 0)) (by decide +kernel)) (by decide) hm_z
      replace hm_z := rn_istore_n (am_cur_of (i := (186, 1, .istore_n 1, (0, 0, 0), 0)) (by decide +kernel)) hm_z
      obtain ⟨_, s329_z, s330_z, g1m, hm_z⟩ := hm_z
      replace g0m := s329_z 0 _ (by decide) rfl g0m
      clear s329_z s330_z
      replace hm_z := rn_iload_n (am_cur_of (i := (187, 1, .iload_n 1, (0, 0, 0), 0)) (by decide +kernel)) g1m hm_z
      replace hm_z := rn_ifT (am_cur_of (i := (188, 3, .ifCond .eq 114, (139, 0, 0), 0)) (by decide +kernel)) (by decide) hm_z
      replace hm_z := rn_iload_n (am_cur_of (i := (302, 1, .iload_n 1, (0, 0, 0), 0)) (by decide +kernel)) g1m hm_z
      replace hm_z := rn_ifF (am_cur_of (i := (303, 3, .ifCond .ne 5, (143, 0, 0), 0)) (by decide +kernel)) (by decide) hm_z
      replace hm_z := rn_iconst (w := 0) (am_cur_of (i := (306, 1, .iconst 0, (0, 0, 0), 0)) (by decide +kernel)) (by decide) hm_z
      replace hm_z := rn_iret (am_cur_of (i := (307, 1, .ireturn, (0, 0, 0), 0)) (by decide +kernel)) hm_z
      obtain ⟨e331_z, e332_z⟩ := hm_z
      subst e331_z e332_z
      exact Or.inr (Or.inl ⟨rfl, _, wv, w0_z, K.1, K.2, f3_z, f4_z⟩)
  · obtain ⟨wv, w0_z, f1_z, f2_z, f3_z, f4_z⟩ := F
    have K := rs_stick (a := 41) (by decide) (by decide) rfl w0_z f1_z f2_z hc_z
    replace hm_z : rn _ _ _ _ [.int 0] _ _ _ := hm_z
    replace hm_z := rn_ifT (am_cur_of (i := (168, 3, .ifCond .eq 17, (72, 0, 0), 0)) (by decide +kernel)) (by decide) hm_z
    replace hm_z := rn_iconst (w := 0) (am_cur_of (i := (185, 1, .iconst 0, (0, 0, 0), 0)) (by decide +kernel)) (by decide) hm_z
    replace hm_z := rn_istore_n (am_cur_of (i := (186, 1, .istore_n 1, (0, 0, 0), 0)) (by decide +kernel)) hm_z
    obtain ⟨_, s333_z, s334_z, g1m, hm_z⟩ := hm_z
    replace g0m := s333_z 0 _ (by decide) rfl g0m
    clear s333_z s334_z
    replace hm_z := rn_iload_n (am_cur_of (i := (187, 1, .iload_n 1, (0, 0, 0), 0)) (by decide +kernel)) g1m hm_z
    replace hm_z := rn_ifT (am_cur_of (i := (188, 3, .ifCond .eq 114, (139, 0, 0), 0)) (by decide +kernel)) (by decide) hm_z
    replace hm_z := rn_iload_n (am_cur_of (i := (302, 1, .iload_n 1, (0, 0, 0), 0)) (by decide +kernel)) g1m hm_z
    replace hm_z := rn_ifF (am_cur_of (i := (303, 3, .ifCond .ne 5, (143, 0, 0), 0)) (by decide +kernel)) (by decide) hm_z
    replace hm_z := rn_iconst (w := 0) (am_cur_of (i := (306, 1, .iconst 0, (0, 0, 0), 0)) (by decide +kernel)) (by decide) hm_z
    replace hm_z := rn_iret (am_cur_of (i := (307, 1, .ireturn, (0, 0, 0), 0)) (by decide +kernel)) hm_z
    obtain ⟨e335_z, e336_z⟩ := hm_z
    subst e335_z e336_z
    exact Or.inr (Or.inl ⟨rfl, _, wv, w0_z, K.1, K.2, f3_z, f4_z⟩)
theorem pm_kn_2 {T : Nat → Int32} {S x p : Int32} {n n' : Nat} {h h' g g' : am_H} {r r' : Option Value} (R : rq T S x p 2 h g) (A : rp 2 h g) (B : rp_t h g) (ka : ¬ rg_v h 44 10 = 2) (hc_z : rn n am_m26 0 (lv_args 0 [.ref 44]) [] h r h') (hm_z : rn n' am_m157 0 (lv_args 0 [.ref 164]) [] g r' g') : pm_Q T S x 2 h' g' r' := by
  have z1_z : (1 : Int32).toInt = 1 := by decide
  have z2_z : (2 : Int32).toInt = 2 := by decide
  have z8_z : (8 : Int32).toInt = 8 := by decide
  have g0_z : am_get (lv_args 0 [.ref 44]) 0 = some (.ref 44) := rfl
  have g0m : am_get (lv_args 0 [.ref 164]) 0 = some (.ref 164) := rfl
  have R5 := R.2.2.2.2.1
  have R6 := R.2.2.2.2.2.1
  replace hc_z := rn_aload_n (am_cur_of (i := (0, 1, .aload_n 0, (0, 0, 0), 0)) (by decide +kernel)) g0_z hc_z
  replace hc_z := rn_getI (v := rg_v h 44 10) (am_cur_of (i := (1, 3, .getfield 60, (4, 10, 419), 0)) (by decide +kernel)) (by decide +kernel) rfl hc_z
  replace hc_z := rn_iconst (w := 2) (am_cur_of (i := (4, 1, .iconst 2, (0, 0, 0), 0)) (by decide +kernel)) (by decide) hc_z
  replace hc_z := rn_cmp (am_cur_of (i := (5, 3, .if_icmp .ne 10, (7, 0, 0), 0)) (by decide +kernel)) hc_z
  rcases hc_z with ⟨b337_z, hc_z⟩ | ⟨b337_z, hc_z⟩
  · replace b337_z : ¬ (rg_v h 44 10) = (2 : Int32) ∧ ¬ (rg_v h 44 10).toInt = (2 : Int32).toInt := b337_z
    replace hc_z := rn_iconst (w := (-1)) (am_cur_of (i := (15, 1, .iconst (-1), (0, 0, 0), 0)) (by decide +kernel)) (by decide) hc_z
    replace hc_z := rn_swO (a := 36) (am_cur_of (i := (16, 52, .tableswitch 115 0 8 #[52, 59, 66, 73, 80, 87, 94, 101, 108], (0, 0, 0), 0)) (by decide +kernel)) (by decide) (by decide +kernel) hc_z
    replace hc_z := rn_aload_n (am_cur_of (i := (131, 1, .aload_n 0, (0, 0, 0), 0)) (by decide +kernel)) g0_z hc_z
    replace hc_z := rn_iconst (w := 1) (am_cur_of (i := (132, 1, .iconst 1, (0, 0, 0), 0)) (by decide +kernel)) (by decide) hc_z
    replace hc_z := rn_callV (M' := am_m29) (o := 44) (ar := [.int 1]) (rest := []) (L := lv_args 0 [.ref 44, .int 1]) (am_cur_of (i := (133, 3, .invokevirtual 108, (29, 769, 3), 0)) (by decide +kernel)) rfl rfl rfl rfl hc_z
    obtain ⟨r338_z, h339_z, q340_z, hc_z⟩ := hc_z
    obtain ⟨rfl, yq340_z⟩ := rp_fail R.2.2.2.1 q340_z
    subst yq340_z
    replace hc_z : rn _ _ _ _ [] _ _ _ := hc_z
    have K := rs_stick (w := 1) (a := 26) (by decide) (by decide) rfl (by decide) rfl rfl hc_z
    replace hm_z := rn_aload_n (am_cur_of (i := (0, 1, .aload_n 0, (0, 0, 0), 0)) (by decide +kernel)) g0m hm_z
    replace hm_z := rn_getI (v := rg_v g 164 8) (am_cur_of (i := (1, 3, .getfield 157, (12, 8, 1392), 0)) (by decide +kernel)) (by decide +kernel) rfl hm_z
    replace hm_z := rn_iconst (w := 1) (am_cur_of (i := (4, 1, .iconst 1, (0, 0, 0), 0)) (by decide +kernel)) (by decide) hm_z
    replace hm_z := rn_cmp (am_cur_of (i := (5, 3, .if_icmp .ne 12, (8, 0, 0), 0)) (by decide +kernel)) hm_z
    rcases hm_z with ⟨b341_z, hm_z⟩ | ⟨b341_z, hm_z⟩
    · replace b341_z : ¬ (rg_v g 164 8) = (1 : Int32) ∧ ¬ (rg_v g 164 8).toInt = (1 : Int32).toInt := b341_z
      replace hm_z := rn_aload_n (am_cur_of (i := (17, 1, .aload_n 0, (0, 0, 0), 0)) (by decide +kernel)) g0m hm_z
      replace hm_z := rn_iconst (w := 1) (am_cur_of (i := (18, 1, .iconst 1, (0, 0, 0), 0)) (by decide +kernel)) (by decide) hm_z
      replace hm_z := rn_callV (M' := am_m158) (o := 164) (ar := [.int 1]) (rest := []) (L := lv_args 0 [.ref 164, .int 1]) (am_cur_of (i := (19, 3, .invokevirtual 181, (158, 1665, 3), 0)) (by decide +kernel)) rfl rfl rfl rfl hm_z
      obtain ⟨r342_z, h343_z, q344_z, hm_z⟩ := hm_z
      obtain ⟨rfl, yq344_z⟩ := rp_wrong q344_z
      subst yq344_z
      replace hm_z : rn _ _ _ _ [.int 0] _ _ _ := hm_z
      replace hm_z := rn_iret (am_cur_of (i := (22, 1, .ireturn, (0, 0, 0), 0)) (by decide +kernel)) hm_z
      obtain ⟨e345_z, e346_z⟩ := hm_z
      subst e345_z e346_z
      exact Or.inr (Or.inl ⟨rfl, _, 1, by decide, K.1, K.2.trans R5, rfl, R6⟩)
    · replace b341_z : (rg_v g 164 8) = (1 : Int32) ∧ (rg_v g 164 8).toInt = (1 : Int32).toInt := b341_z
      have k11_z := tk_nw R.2.2.2.2.2.2.2.2.2 ka b341_z.1
      replace hm_z := rn_aload_n (am_cur_of (i := (8, 1, .aload_n 0, (0, 0, 0), 0)) (by decide +kernel)) g0m hm_z
      replace hm_z := rn_getI (v := rg_v g 164 9) (am_cur_of (i := (9, 3, .getfield 168, (12, 9, 1393), 0)) (by decide +kernel)) (by decide +kernel) rfl hm_z
      replace hm_z := rn_bipush (w := 8) (am_cur_of (i := (12, 2, .bipush 8, (0, 0, 0), 0)) (by decide +kernel)) (by decide) hm_z
      replace hm_z := rn_cmp (am_cur_of (i := (14, 3, .if_icmp .le 9, (12, 0, 0), 0)) (by decide +kernel)) hm_z
      rcases hm_z with ⟨b347_z, hm_z⟩ | ⟨b347_z, hm_z⟩
      · replace b347_z : (rg_v g 164 9).toInt ≤ (8 : Int32).toInt := b347_z
        omega
      · replace b347_z : (8 : Int32).toInt < (rg_v g 164 9).toInt := b347_z
        replace hm_z := rn_aload_n (am_cur_of (i := (17, 1, .aload_n 0, (0, 0, 0), 0)) (by decide +kernel)) g0m hm_z
        replace hm_z := rn_iconst (w := 1) (am_cur_of (i := (18, 1, .iconst 1, (0, 0, 0), 0)) (by decide +kernel)) (by decide) hm_z
        replace hm_z := rn_callV (M' := am_m158) (o := 164) (ar := [.int 1]) (rest := []) (L := lv_args 0 [.ref 164, .int 1]) (am_cur_of (i := (19, 3, .invokevirtual 181, (158, 1665, 3), 0)) (by decide +kernel)) rfl rfl rfl rfl hm_z
        obtain ⟨r348_z, h349_z, q350_z, hm_z⟩ := hm_z
        obtain ⟨rfl, yq350_z⟩ := rp_wrong q350_z
        subst yq350_z
        replace hm_z : rn _ _ _ _ [.int 0] _ _ _ := hm_z
        replace hm_z := rn_iret (am_cur_of (i := (22, 1, .ireturn, (0, 0, 0), 0)) (by decide +kernel)) hm_z
        obtain ⟨e351_z, e352_z⟩ := hm_z
        subst e351_z e352_z
        exact Or.inr (Or.inl ⟨rfl, _, 1, by decide, K.1, K.2.trans R5, rfl, R6⟩)
  · replace b337_z : (rg_v h 44 10) = (2 : Int32) ∧ (rg_v h 44 10).toInt = (2 : Int32).toInt := b337_z
    exact absurd b337_z.1 ka
theorem pm_k0_2 {T : Nat → Int32} {S x p : Int32} {n n' : Nat} {h h' g g' : am_H} {r r' : Option Value} (R : rq T S x p 2 h g) (A : rp 2 h g) (B : rp_t h g) (ka : rg_v h 44 10 = 2) (kb : rg_v h 44 11 = 0) (kc : rg_v g 164 8 = 1) (kd : rg_v g 164 9 = 0) (hc_z : rn n am_m26 0 (lv_args 0 [.ref 44]) [] h r h') (hm_z : rn n' am_m157 0 (lv_args 0 [.ref 164]) [] g r' g') : pm_Q T S x 2 h' g' r' := by
  have g0_z : am_get (lv_args 0 [.ref 44]) 0 = some (.ref 44) := rfl
  have g0m : am_get (lv_args 0 [.ref 164]) 0 = some (.ref 164) := rfl
  have R5 := R.2.2.2.2.1
  have R6 := R.2.2.2.2.2.1
  replace hc_z := rn_aload_n (am_cur_of (i := (0, 1, .aload_n 0, (0, 0, 0), 0)) (by decide +kernel)) g0_z hc_z
  replace hc_z := rn_getI (v := 2) (am_cur_of (i := (1, 3, .getfield 60, (4, 10, 419), 0)) (by decide +kernel)) (by decide +kernel) ka hc_z
  replace hc_z := rn_iconst (w := 2) (am_cur_of (i := (4, 1, .iconst 2, (0, 0, 0), 0)) (by decide +kernel)) (by decide) hc_z
  replace hc_z := rn_cmpF (am_cur_of (i := (5, 3, .if_icmp .ne 10, (7, 0, 0), 0)) (by decide +kernel)) (by decide) hc_z
  replace hc_z := rn_aload_n (am_cur_of (i := (8, 1, .aload_n 0, (0, 0, 0), 0)) (by decide +kernel)) g0_z hc_z
  replace hc_z := rn_getI (v := 0) (am_cur_of (i := (9, 3, .getfield 91, (4, 11, 420), 0)) (by decide +kernel)) (by decide +kernel) kb hc_z
  replace hc_z := rn_goto (am_cur_of (i := (12, 3, .goto 4, (8, 0, 0), 0)) (by decide +kernel)) hc_z
  replace hc_z := rn_swI (off := 52) (a := 9) (am_cur_of (i := (16, 52, .tableswitch 115 0 8 #[52, 59, 66, 73, 80, 87, 94, 101, 108], (0, 0, 0), 0)) (by decide +kernel)) (by decide) (by decide) (by decide +kernel) hc_z
  replace hc_z := rn_aload_n (am_cur_of (i := (68, 1, .aload_n 0, (0, 0, 0), 0)) (by decide +kernel)) g0_z hc_z
  replace hc_z := rn_callV (M' := am_m27) (o := 44) (ar := []) (rest := []) (L := lv_args 0 [.ref 44]) (am_cur_of (i := (69, 3, .invokevirtual 112, (27, 761, 3), 0)) (by decide +kernel)) rfl rfl rfl rfl hc_z
  obtain ⟨r353_z, h354_z, q355_z, hc_z⟩ := hc_z
  have vo := rn_void rfl q355_z
  subst vo
  replace hc_z : rn _ _ _ _ [] _ _ _ := hc_z
  replace hc_z := rn_goto (am_cur_of (i := (72, 3, .goto 64, (39, 0, 0), 0)) (by decide +kernel)) hc_z
  replace hc_z := rn_vret (am_cur_of (i := (136, 1, .return_, (0, 0, 0), 0)) (by decide +kernel)) hc_z
  obtain ⟨e356_z, e357_z⟩ := hc_z
  replace e357_z := e357_z.symm
  subst e357_z
  replace hm_z := rn_aload_n (am_cur_of (i := (0, 1, .aload_n 0, (0, 0, 0), 0)) (by decide +kernel)) g0m hm_z
  replace hm_z := rn_getI (v := 1) (am_cur_of (i := (1, 3, .getfield 157, (12, 8, 1392), 0)) (by decide +kernel)) (by decide +kernel) kc hm_z
  replace hm_z := rn_iconst (w := 1) (am_cur_of (i := (4, 1, .iconst 1, (0, 0, 0), 0)) (by decide +kernel)) (by decide) hm_z
  replace hm_z := rn_cmpF (am_cur_of (i := (5, 3, .if_icmp .ne 12, (8, 0, 0), 0)) (by decide +kernel)) (by decide) hm_z
  replace hm_z := rn_aload_n (am_cur_of (i := (8, 1, .aload_n 0, (0, 0, 0), 0)) (by decide +kernel)) g0m hm_z
  replace hm_z := rn_getI (v := 0) (am_cur_of (i := (9, 3, .getfield 168, (12, 9, 1393), 0)) (by decide +kernel)) (by decide +kernel) kd hm_z
  replace hm_z := rn_bipush (w := 8) (am_cur_of (i := (12, 2, .bipush 8, (0, 0, 0), 0)) (by decide +kernel)) (by decide) hm_z
  replace hm_z := rn_cmpT (am_cur_of (i := (14, 3, .if_icmp .le 9, (12, 0, 0), 0)) (by decide +kernel)) (by decide) hm_z
  replace hm_z := rn_aload_n (am_cur_of (i := (23, 1, .aload_n 0, (0, 0, 0), 0)) (by decide +kernel)) g0m hm_z
  replace hm_z := rn_getI (v := 0) (am_cur_of (i := (24, 3, .getfield 168, (12, 9, 1393), 0)) (by decide +kernel)) (by decide +kernel) kd hm_z
  replace hm_z := rn_swI (off := 45) (a := 15) (am_cur_of (i := (27, 45, .tableswitch 178 0 7 #[45, 53, 61, 69, 77, 85, 93, 136], (0, 0, 0), 0)) (by decide +kernel)) (by decide) (by decide) (by decide +kernel) hm_z
  replace hm_z := rn_aload_n (am_cur_of (i := (72, 1, .aload_n 0, (0, 0, 0), 0)) (by decide +kernel)) g0m hm_z
  replace hm_z := rn_callV (M' := am_m159) (o := 164) (ar := []) (rest := []) (L := lv_args 0 [.ref 164]) (am_cur_of (i := (73, 3, .invokevirtual 252, (159, 1669, 3), 0)) (by decide +kernel)) rfl rfl rfl rfl hm_z
  obtain ⟨r358_z, h359_z, q360_z, hm_z⟩ := hm_z
  rcases pl_bed2 R A B q355_z q360_z with ⟨rfl, x2_z, p2_z, R2, le2_z, A2, B2⟩ | ⟨rfl, FF⟩
  · replace hm_z : rn _ _ _ _ [.int 1] _ _ _ := hm_z
    replace hm_z := rn_istore_n (am_cur_of (i := (76, 1, .istore_n 1, (0, 0, 0), 0)) (by decide +kernel)) hm_z
    obtain ⟨_, s361_z, s362_z, g1m, hm_z⟩ := hm_z
    replace g0m := s361_z 0 _ (by decide) rfl g0m
    clear s361_z s362_z
    replace hm_z := rn_goto (am_cur_of (i := (77, 3, .goto 225, (139, 0, 0), 0)) (by decide +kernel)) hm_z
    exact Or.inl ⟨x2_z, p2_z, _, _, _, R2, le2_z, A2, B2, g0m, g1m, hm_z⟩
  · replace hm_z : rn _ _ _ _ [.int 0] _ _ _ := hm_z
    replace hm_z := rn_istore_n (am_cur_of (i := (76, 1, .istore_n 1, (0, 0, 0), 0)) (by decide +kernel)) hm_z
    obtain ⟨_, s363_z, s364_z, g1m, hm_z⟩ := hm_z
    replace g0m := s363_z 0 _ (by decide) rfl g0m
    clear s363_z s364_z
    replace hm_z := rn_goto (am_cur_of (i := (77, 3, .goto 225, (139, 0, 0), 0)) (by decide +kernel)) hm_z
    replace hm_z := rn_iload_n (am_cur_of (i := (302, 1, .iload_n 1, (0, 0, 0), 0)) (by decide +kernel)) g1m hm_z
    replace hm_z := rn_ifF (am_cur_of (i := (303, 3, .ifCond .ne 5, (143, 0, 0), 0)) (by decide +kernel)) (by decide) hm_z
    replace hm_z := rn_iconst (w := 0) (am_cur_of (i := (306, 1, .iconst 0, (0, 0, 0), 0)) (by decide +kernel)) (by decide) hm_z
    replace hm_z := rn_iret (am_cur_of (i := (307, 1, .ireturn, (0, 0, 0), 0)) (by decide +kernel)) hm_z
    obtain ⟨e365_z, e366_z⟩ := hm_z
    subst e365_z e366_z
    exact Or.inr (Or.inl ⟨rfl, FF⟩)
theorem pm_k1_2 {T : Nat → Int32} {S x p : Int32} {n n' : Nat} {h h' g g' : am_H} {r r' : Option Value} (R : rq T S x p 2 h g) (A : rp 2 h g) (B : rp_t h g) (ka : rg_v h 44 10 = 2) (kb : rg_v h 44 11 = 1) (kc : rg_v g 164 8 = 1) (kd : rg_v g 164 9 = 1) (hc_z : rn n am_m26 0 (lv_args 0 [.ref 44]) [] h r h') (hm_z : rn n' am_m157 0 (lv_args 0 [.ref 164]) [] g r' g') : pm_Q T S x 2 h' g' r' := by
  have g0_z : am_get (lv_args 0 [.ref 44]) 0 = some (.ref 44) := rfl
  have g0m : am_get (lv_args 0 [.ref 164]) 0 = some (.ref 164) := rfl
  have R5 := R.2.2.2.2.1
  have R6 := R.2.2.2.2.2.1
  replace hc_z := rn_aload_n (am_cur_of (i := (0, 1, .aload_n 0, (0, 0, 0), 0)) (by decide +kernel)) g0_z hc_z
  replace hc_z := rn_getI (v := 2) (am_cur_of (i := (1, 3, .getfield 60, (4, 10, 419), 0)) (by decide +kernel)) (by decide +kernel) ka hc_z
  replace hc_z := rn_iconst (w := 2) (am_cur_of (i := (4, 1, .iconst 2, (0, 0, 0), 0)) (by decide +kernel)) (by decide) hc_z
  replace hc_z := rn_cmpF (am_cur_of (i := (5, 3, .if_icmp .ne 10, (7, 0, 0), 0)) (by decide +kernel)) (by decide) hc_z
  replace hc_z := rn_aload_n (am_cur_of (i := (8, 1, .aload_n 0, (0, 0, 0), 0)) (by decide +kernel)) g0_z hc_z
  replace hc_z := rn_getI (v := 1) (am_cur_of (i := (9, 3, .getfield 91, (4, 11, 420), 0)) (by decide +kernel)) (by decide +kernel) kb hc_z
  replace hc_z := rn_goto (am_cur_of (i := (12, 3, .goto 4, (8, 0, 0), 0)) (by decide +kernel)) hc_z
  replace hc_z := rn_swI (off := 59) (a := 12) (am_cur_of (i := (16, 52, .tableswitch 115 0 8 #[52, 59, 66, 73, 80, 87, 94, 101, 108], (0, 0, 0), 0)) (by decide +kernel)) (by decide) (by decide) (by decide +kernel) hc_z
  replace hc_z := rn_aload_n (am_cur_of (i := (75, 1, .aload_n 0, (0, 0, 0), 0)) (by decide +kernel)) g0_z hc_z
  replace hc_z := rn_callV (M' := am_m31) (o := 44) (ar := []) (rest := []) (L := lv_args 0 [.ref 44]) (am_cur_of (i := (76, 3, .invokevirtual 115, (31, 777, 3), 0)) (by decide +kernel)) rfl rfl rfl rfl hc_z
  obtain ⟨r367_z, h368_z, q369_z, hc_z⟩ := hc_z
  have vo := rn_void rfl q369_z
  subst vo
  replace hc_z : rn _ _ _ _ [] _ _ _ := hc_z
  replace hc_z := rn_goto (am_cur_of (i := (79, 3, .goto 57, (39, 0, 0), 0)) (by decide +kernel)) hc_z
  replace hc_z := rn_vret (am_cur_of (i := (136, 1, .return_, (0, 0, 0), 0)) (by decide +kernel)) hc_z
  obtain ⟨e370_z, e371_z⟩ := hc_z
  replace e371_z := e371_z.symm
  subst e371_z
  replace hm_z := rn_aload_n (am_cur_of (i := (0, 1, .aload_n 0, (0, 0, 0), 0)) (by decide +kernel)) g0m hm_z
  replace hm_z := rn_getI (v := 1) (am_cur_of (i := (1, 3, .getfield 157, (12, 8, 1392), 0)) (by decide +kernel)) (by decide +kernel) kc hm_z
  replace hm_z := rn_iconst (w := 1) (am_cur_of (i := (4, 1, .iconst 1, (0, 0, 0), 0)) (by decide +kernel)) (by decide) hm_z
  replace hm_z := rn_cmpF (am_cur_of (i := (5, 3, .if_icmp .ne 12, (8, 0, 0), 0)) (by decide +kernel)) (by decide) hm_z
  replace hm_z := rn_aload_n (am_cur_of (i := (8, 1, .aload_n 0, (0, 0, 0), 0)) (by decide +kernel)) g0m hm_z
  replace hm_z := rn_getI (v := 1) (am_cur_of (i := (9, 3, .getfield 168, (12, 9, 1393), 0)) (by decide +kernel)) (by decide +kernel) kd hm_z
  replace hm_z := rn_bipush (w := 8) (am_cur_of (i := (12, 2, .bipush 8, (0, 0, 0), 0)) (by decide +kernel)) (by decide) hm_z
  replace hm_z := rn_cmpT (am_cur_of (i := (14, 3, .if_icmp .le 9, (12, 0, 0), 0)) (by decide +kernel)) (by decide) hm_z
  replace hm_z := rn_aload_n (am_cur_of (i := (23, 1, .aload_n 0, (0, 0, 0), 0)) (by decide +kernel)) g0m hm_z
  replace hm_z := rn_getI (v := 1) (am_cur_of (i := (24, 3, .getfield 168, (12, 9, 1393), 0)) (by decide +kernel)) (by decide +kernel) kd hm_z
  replace hm_z := rn_swI (off := 53) (a := 19) (am_cur_of (i := (27, 45, .tableswitch 178 0 7 #[45, 53, 61, 69, 77, 85, 93, 136], (0, 0, 0), 0)) (by decide +kernel)) (by decide) (by decide) (by decide +kernel) hm_z
  replace hm_z := rn_aload_n (am_cur_of (i := (80, 1, .aload_n 0, (0, 0, 0), 0)) (by decide +kernel)) g0m hm_z
  replace hm_z := rn_callV (M' := am_m163) (o := 164) (ar := []) (rest := []) (L := lv_args 0 [.ref 164]) (am_cur_of (i := (81, 3, .invokevirtual 256, (163, 1684, 3), 0)) (by decide +kernel)) rfl rfl rfl rfl hm_z
  obtain ⟨r372_z, h373_z, q374_z, hm_z⟩ := hm_z
  rcases pl_blower2 R A B q369_z q374_z with ⟨rfl, x2_z, p2_z, R2, le2_z, A2, B2⟩ | ⟨rfl, FF⟩
  · replace hm_z : rn _ _ _ _ [.int 1] _ _ _ := hm_z
    replace hm_z := rn_istore_n (am_cur_of (i := (84, 1, .istore_n 1, (0, 0, 0), 0)) (by decide +kernel)) hm_z
    obtain ⟨_, s375_z, s376_z, g1m, hm_z⟩ := hm_z
    replace g0m := s375_z 0 _ (by decide) rfl g0m
    clear s375_z s376_z
    replace hm_z := rn_goto (am_cur_of (i := (85, 3, .goto 217, (139, 0, 0), 0)) (by decide +kernel)) hm_z
    exact Or.inl ⟨x2_z, p2_z, _, _, _, R2, le2_z, A2, B2, g0m, g1m, hm_z⟩
  · replace hm_z : rn _ _ _ _ [.int 0] _ _ _ := hm_z
    replace hm_z := rn_istore_n (am_cur_of (i := (84, 1, .istore_n 1, (0, 0, 0), 0)) (by decide +kernel)) hm_z
    obtain ⟨_, s377_z, s378_z, g1m, hm_z⟩ := hm_z
    replace g0m := s377_z 0 _ (by decide) rfl g0m
    clear s377_z s378_z
    replace hm_z := rn_goto (am_cur_of (i := (85, 3, .goto 217, (139, 0, 0), 0)) (by decide +kernel)) hm_z
    replace hm_z := rn_iload_n (am_cur_of (i := (302, 1, .iload_n 1, (0, 0, 0), 0)) (by decide +kernel)) g1m hm_z
    replace hm_z := rn_ifF (am_cur_of (i := (303, 3, .ifCond .ne 5, (143, 0, 0), 0)) (by decide +kernel)) (by decide) hm_z
    replace hm_z := rn_iconst (w := 0) (am_cur_of (i := (306, 1, .iconst 0, (0, 0, 0), 0)) (by decide +kernel)) (by decide) hm_z
    replace hm_z := rn_iret (am_cur_of (i := (307, 1, .ireturn, (0, 0, 0), 0)) (by decide +kernel)) hm_z
    obtain ⟨e379_z, e380_z⟩ := hm_z
    subst e379_z e380_z
    exact Or.inr (Or.inl ⟨rfl, FF⟩)
theorem pm_k2_2 {T : Nat → Int32} {S x p : Int32} {n n' : Nat} {h h' g g' : am_H} {r r' : Option Value} (R : rq T S x p 2 h g) (A : rp 2 h g) (B : rp_t h g) (ka : rg_v h 44 10 = 2) (kb : rg_v h 44 11 = 2) (kc : rg_v g 164 8 = 1) (kd : rg_v g 164 9 = 2) (hc_z : rn n am_m26 0 (lv_args 0 [.ref 44]) [] h r h') (hm_z : rn n' am_m157 0 (lv_args 0 [.ref 164]) [] g r' g') : pm_Q T S x 2 h' g' r' := by
  have g0_z : am_get (lv_args 0 [.ref 44]) 0 = some (.ref 44) := rfl
  have g0m : am_get (lv_args 0 [.ref 164]) 0 = some (.ref 164) := rfl
  have R5 := R.2.2.2.2.1
  have R6 := R.2.2.2.2.2.1
  replace hc_z := rn_aload_n (am_cur_of (i := (0, 1, .aload_n 0, (0, 0, 0), 0)) (by decide +kernel)) g0_z hc_z
  replace hc_z := rn_getI (v := 2) (am_cur_of (i := (1, 3, .getfield 60, (4, 10, 419), 0)) (by decide +kernel)) (by decide +kernel) ka hc_z
  replace hc_z := rn_iconst (w := 2) (am_cur_of (i := (4, 1, .iconst 2, (0, 0, 0), 0)) (by decide +kernel)) (by decide) hc_z
  replace hc_z := rn_cmpF (am_cur_of (i := (5, 3, .if_icmp .ne 10, (7, 0, 0), 0)) (by decide +kernel)) (by decide) hc_z
  replace hc_z := rn_aload_n (am_cur_of (i := (8, 1, .aload_n 0, (0, 0, 0), 0)) (by decide +kernel)) g0_z hc_z
  replace hc_z := rn_getI (v := 2) (am_cur_of (i := (9, 3, .getfield 91, (4, 11, 420), 0)) (by decide +kernel)) (by decide +kernel) kb hc_z
  replace hc_z := rn_goto (am_cur_of (i := (12, 3, .goto 4, (8, 0, 0), 0)) (by decide +kernel)) hc_z
  replace hc_z := rn_swI (off := 66) (a := 15) (am_cur_of (i := (16, 52, .tableswitch 115 0 8 #[52, 59, 66, 73, 80, 87, 94, 101, 108], (0, 0, 0), 0)) (by decide +kernel)) (by decide) (by decide) (by decide +kernel) hc_z
  replace hc_z := rn_aload_n (am_cur_of (i := (82, 1, .aload_n 0, (0, 0, 0), 0)) (by decide +kernel)) g0_z hc_z
  replace hc_z := rn_callV (M' := am_m35) (o := 44) (ar := []) (rest := []) (L := lv_args 0 [.ref 44]) (am_cur_of (i := (83, 3, .invokevirtual 118, (35, 793, 3), 0)) (by decide +kernel)) rfl rfl rfl rfl hc_z
  obtain ⟨r381_z, h382_z, q383_z, hc_z⟩ := hc_z
  have vo := rn_void rfl q383_z
  subst vo
  replace hc_z : rn _ _ _ _ [] _ _ _ := hc_z
  replace hc_z := rn_goto (am_cur_of (i := (86, 3, .goto 50, (39, 0, 0), 0)) (by decide +kernel)) hc_z
  replace hc_z := rn_vret (am_cur_of (i := (136, 1, .return_, (0, 0, 0), 0)) (by decide +kernel)) hc_z
  obtain ⟨e384_z, e385_z⟩ := hc_z
  replace e385_z := e385_z.symm
  subst e385_z
  replace hm_z := rn_aload_n (am_cur_of (i := (0, 1, .aload_n 0, (0, 0, 0), 0)) (by decide +kernel)) g0m hm_z
  replace hm_z := rn_getI (v := 1) (am_cur_of (i := (1, 3, .getfield 157, (12, 8, 1392), 0)) (by decide +kernel)) (by decide +kernel) kc hm_z
  replace hm_z := rn_iconst (w := 1) (am_cur_of (i := (4, 1, .iconst 1, (0, 0, 0), 0)) (by decide +kernel)) (by decide) hm_z
  replace hm_z := rn_cmpF (am_cur_of (i := (5, 3, .if_icmp .ne 12, (8, 0, 0), 0)) (by decide +kernel)) (by decide) hm_z
  replace hm_z := rn_aload_n (am_cur_of (i := (8, 1, .aload_n 0, (0, 0, 0), 0)) (by decide +kernel)) g0m hm_z
  replace hm_z := rn_getI (v := 2) (am_cur_of (i := (9, 3, .getfield 168, (12, 9, 1393), 0)) (by decide +kernel)) (by decide +kernel) kd hm_z
  replace hm_z := rn_bipush (w := 8) (am_cur_of (i := (12, 2, .bipush 8, (0, 0, 0), 0)) (by decide +kernel)) (by decide) hm_z
  replace hm_z := rn_cmpT (am_cur_of (i := (14, 3, .if_icmp .le 9, (12, 0, 0), 0)) (by decide +kernel)) (by decide) hm_z
  replace hm_z := rn_aload_n (am_cur_of (i := (23, 1, .aload_n 0, (0, 0, 0), 0)) (by decide +kernel)) g0m hm_z
  replace hm_z := rn_getI (v := 2) (am_cur_of (i := (24, 3, .getfield 168, (12, 9, 1393), 0)) (by decide +kernel)) (by decide +kernel) kd hm_z
  replace hm_z := rn_swI (off := 61) (a := 23) (am_cur_of (i := (27, 45, .tableswitch 178 0 7 #[45, 53, 61, 69, 77, 85, 93, 136], (0, 0, 0), 0)) (by decide +kernel)) (by decide) (by decide) (by decide +kernel) hm_z
  replace hm_z := rn_aload_n (am_cur_of (i := (88, 1, .aload_n 0, (0, 0, 0), 0)) (by decide +kernel)) g0m hm_z
  replace hm_z := rn_callV (M' := am_m166) (o := 164) (ar := []) (rest := []) (L := lv_args 0 [.ref 164]) (am_cur_of (i := (89, 3, .invokevirtual 259, (166, 1695, 3), 0)) (by decide +kernel)) rfl rfl rfl rfl hm_z
  obtain ⟨r386_z, h387_z, q388_z, hm_z⟩ := hm_z
  rcases pl_turn2 R A B q383_z q388_z with ⟨rfl, x2_z, p2_z, R2, le2_z, A2, B2⟩ | ⟨rfl, FF⟩
  · replace hm_z : rn _ _ _ _ [.int 1] _ _ _ := hm_z
    replace hm_z := rn_istore_n (am_cur_of (i := (92, 1, .istore_n 1, (0, 0, 0), 0)) (by decide +kernel)) hm_z
    obtain ⟨_, s389_z, s390_z, g1m, hm_z⟩ := hm_z
    replace g0m := s389_z 0 _ (by decide) rfl g0m
    clear s389_z s390_z
    replace hm_z := rn_goto (am_cur_of (i := (93, 3, .goto 209, (139, 0, 0), 0)) (by decide +kernel)) hm_z
    exact Or.inl ⟨x2_z, p2_z, _, _, _, R2, le2_z, A2, B2, g0m, g1m, hm_z⟩
  · replace hm_z : rn _ _ _ _ [.int 0] _ _ _ := hm_z
    replace hm_z := rn_istore_n (am_cur_of (i := (92, 1, .istore_n 1, (0, 0, 0), 0)) (by decide +kernel)) hm_z
    obtain ⟨_, s391_z, s392_z, g1m, hm_z⟩ := hm_z
    replace g0m := s391_z 0 _ (by decide) rfl g0m
    clear s391_z s392_z
    replace hm_z := rn_goto (am_cur_of (i := (93, 3, .goto 209, (139, 0, 0), 0)) (by decide +kernel)) hm_z
    replace hm_z := rn_iload_n (am_cur_of (i := (302, 1, .iload_n 1, (0, 0, 0), 0)) (by decide +kernel)) g1m hm_z
    replace hm_z := rn_ifF (am_cur_of (i := (303, 3, .ifCond .ne 5, (143, 0, 0), 0)) (by decide +kernel)) (by decide) hm_z
    replace hm_z := rn_iconst (w := 0) (am_cur_of (i := (306, 1, .iconst 0, (0, 0, 0), 0)) (by decide +kernel)) (by decide) hm_z
    replace hm_z := rn_iret (am_cur_of (i := (307, 1, .ireturn, (0, 0, 0), 0)) (by decide +kernel)) hm_z
    obtain ⟨e393_z, e394_z⟩ := hm_z
    subst e393_z e394_z
    exact Or.inr (Or.inl ⟨rfl, FF⟩)
theorem pm_k3_2 {T : Nat → Int32} {S x p : Int32} {n n' : Nat} {h h' g g' : am_H} {r r' : Option Value} (R : rq T S x p 2 h g) (A : rp 2 h g) (B : rp_t h g) (ka : rg_v h 44 10 = 2) (kb : rg_v h 44 11 = 3) (kc : rg_v g 164 8 = 1) (kd : rg_v g 164 9 = 3) (hc_z : rn n am_m26 0 (lv_args 0 [.ref 44]) [] h r h') (hm_z : rn n' am_m157 0 (lv_args 0 [.ref 164]) [] g r' g') : pm_Q T S x 2 h' g' r' := by
  have g0_z : am_get (lv_args 0 [.ref 44]) 0 = some (.ref 44) := rfl
  have g0m : am_get (lv_args 0 [.ref 164]) 0 = some (.ref 164) := rfl
  have R5 := R.2.2.2.2.1
  have R6 := R.2.2.2.2.2.1
  replace hc_z := rn_aload_n (am_cur_of (i := (0, 1, .aload_n 0, (0, 0, 0), 0)) (by decide +kernel)) g0_z hc_z
  replace hc_z := rn_getI (v := 2) (am_cur_of (i := (1, 3, .getfield 60, (4, 10, 419), 0)) (by decide +kernel)) (by decide +kernel) ka hc_z
  replace hc_z := rn_iconst (w := 2) (am_cur_of (i := (4, 1, .iconst 2, (0, 0, 0), 0)) (by decide +kernel)) (by decide) hc_z
  replace hc_z := rn_cmpF (am_cur_of (i := (5, 3, .if_icmp .ne 10, (7, 0, 0), 0)) (by decide +kernel)) (by decide) hc_z
  replace hc_z := rn_aload_n (am_cur_of (i := (8, 1, .aload_n 0, (0, 0, 0), 0)) (by decide +kernel)) g0_z hc_z
  replace hc_z := rn_getI (v := 3) (am_cur_of (i := (9, 3, .getfield 91, (4, 11, 420), 0)) (by decide +kernel)) (by decide +kernel) kb hc_z
  replace hc_z := rn_goto (am_cur_of (i := (12, 3, .goto 4, (8, 0, 0), 0)) (by decide +kernel)) hc_z
  replace hc_z := rn_swI (off := 73) (a := 18) (am_cur_of (i := (16, 52, .tableswitch 115 0 8 #[52, 59, 66, 73, 80, 87, 94, 101, 108], (0, 0, 0), 0)) (by decide +kernel)) (by decide) (by decide) (by decide +kernel) hc_z
  replace hc_z := rn_aload_n (am_cur_of (i := (89, 1, .aload_n 0, (0, 0, 0), 0)) (by decide +kernel)) g0_z hc_z
  replace hc_z := rn_callV (M' := am_m36) (o := 44) (ar := []) (rest := []) (L := lv_args 0 [.ref 44]) (am_cur_of (i := (90, 3, .invokevirtual 121, (36, 797, 3), 0)) (by decide +kernel)) rfl rfl rfl rfl hc_z
  obtain ⟨r395_z, h396_z, q397_z, hc_z⟩ := hc_z
  have vo := rn_void rfl q397_z
  subst vo
  replace hc_z : rn _ _ _ _ [] _ _ _ := hc_z
  replace hc_z := rn_goto (am_cur_of (i := (93, 3, .goto 43, (39, 0, 0), 0)) (by decide +kernel)) hc_z
  replace hc_z := rn_vret (am_cur_of (i := (136, 1, .return_, (0, 0, 0), 0)) (by decide +kernel)) hc_z
  obtain ⟨e398_z, e399_z⟩ := hc_z
  replace e399_z := e399_z.symm
  subst e399_z
  replace hm_z := rn_aload_n (am_cur_of (i := (0, 1, .aload_n 0, (0, 0, 0), 0)) (by decide +kernel)) g0m hm_z
  replace hm_z := rn_getI (v := 1) (am_cur_of (i := (1, 3, .getfield 157, (12, 8, 1392), 0)) (by decide +kernel)) (by decide +kernel) kc hm_z
  replace hm_z := rn_iconst (w := 1) (am_cur_of (i := (4, 1, .iconst 1, (0, 0, 0), 0)) (by decide +kernel)) (by decide) hm_z
  replace hm_z := rn_cmpF (am_cur_of (i := (5, 3, .if_icmp .ne 12, (8, 0, 0), 0)) (by decide +kernel)) (by decide) hm_z
  replace hm_z := rn_aload_n (am_cur_of (i := (8, 1, .aload_n 0, (0, 0, 0), 0)) (by decide +kernel)) g0m hm_z
  replace hm_z := rn_getI (v := 3) (am_cur_of (i := (9, 3, .getfield 168, (12, 9, 1393), 0)) (by decide +kernel)) (by decide +kernel) kd hm_z
  replace hm_z := rn_bipush (w := 8) (am_cur_of (i := (12, 2, .bipush 8, (0, 0, 0), 0)) (by decide +kernel)) (by decide) hm_z
  replace hm_z := rn_cmpT (am_cur_of (i := (14, 3, .if_icmp .le 9, (12, 0, 0), 0)) (by decide +kernel)) (by decide) hm_z
  replace hm_z := rn_aload_n (am_cur_of (i := (23, 1, .aload_n 0, (0, 0, 0), 0)) (by decide +kernel)) g0m hm_z
  replace hm_z := rn_getI (v := 3) (am_cur_of (i := (24, 3, .getfield 168, (12, 9, 1393), 0)) (by decide +kernel)) (by decide +kernel) kd hm_z
  replace hm_z := rn_swI (off := 69) (a := 27) (am_cur_of (i := (27, 45, .tableswitch 178 0 7 #[45, 53, 61, 69, 77, 85, 93, 136], (0, 0, 0), 0)) (by decide +kernel)) (by decide) (by decide) (by decide +kernel) hm_z
  replace hm_z := rn_aload_n (am_cur_of (i := (96, 1, .aload_n 0, (0, 0, 0), 0)) (by decide +kernel)) g0m hm_z
  replace hm_z := rn_callV (M' := am_m167) (o := 164) (ar := []) (rest := []) (L := lv_args 0 [.ref 164]) (am_cur_of (i := (97, 3, .invokevirtual 262, (167, 1699, 3), 0)) (by decide +kernel)) rfl rfl rfl rfl hm_z
  obtain ⟨r400_z, h401_z, q402_z, hm_z⟩ := hm_z
  rcases pl_pump2 R A B q397_z q402_z with ⟨rfl, x2_z, p2_z, R2, le2_z, A2, B2⟩ | ⟨rfl, FF⟩
  · replace hm_z : rn _ _ _ _ [.int 1] _ _ _ := hm_z
    replace hm_z := rn_istore_n (am_cur_of (i := (100, 1, .istore_n 1, (0, 0, 0), 0)) (by decide +kernel)) hm_z
    obtain ⟨_, s403_z, s404_z, g1m, hm_z⟩ := hm_z
    replace g0m := s403_z 0 _ (by decide) rfl g0m
    clear s403_z s404_z
    replace hm_z := rn_goto (am_cur_of (i := (101, 3, .goto 201, (139, 0, 0), 0)) (by decide +kernel)) hm_z
    exact Or.inl ⟨x2_z, p2_z, _, _, _, R2, le2_z, A2, B2, g0m, g1m, hm_z⟩
  · replace hm_z : rn _ _ _ _ [.int 0] _ _ _ := hm_z
    replace hm_z := rn_istore_n (am_cur_of (i := (100, 1, .istore_n 1, (0, 0, 0), 0)) (by decide +kernel)) hm_z
    obtain ⟨_, s405_z, s406_z, g1m, hm_z⟩ := hm_z
    replace g0m := s405_z 0 _ (by decide) rfl g0m
    clear s405_z s406_z
    replace hm_z := rn_goto (am_cur_of (i := (101, 3, .goto 201, (139, 0, 0), 0)) (by decide +kernel)) hm_z
    replace hm_z := rn_iload_n (am_cur_of (i := (302, 1, .iload_n 1, (0, 0, 0), 0)) (by decide +kernel)) g1m hm_z
    replace hm_z := rn_ifF (am_cur_of (i := (303, 3, .ifCond .ne 5, (143, 0, 0), 0)) (by decide +kernel)) (by decide) hm_z
    replace hm_z := rn_iconst (w := 0) (am_cur_of (i := (306, 1, .iconst 0, (0, 0, 0), 0)) (by decide +kernel)) (by decide) hm_z
    replace hm_z := rn_iret (am_cur_of (i := (307, 1, .ireturn, (0, 0, 0), 0)) (by decide +kernel)) hm_z
    obtain ⟨e407_z, e408_z⟩ := hm_z
    subst e407_z e408_z
    exact Or.inr (Or.inl ⟨rfl, FF⟩)
theorem pm_k4_2 {T : Nat → Int32} {S x p : Int32} {n n' : Nat} {h h' g g' : am_H} {r r' : Option Value} (R : rq T S x p 2 h g) (A : rp 2 h g) (B : rp_t h g) (ka : rg_v h 44 10 = 2) (kb : rg_v h 44 11 = 4) (kc : rg_v g 164 8 = 1) (kd : rg_v g 164 9 = 4) (hc_z : rn n am_m26 0 (lv_args 0 [.ref 44]) [] h r h') (hm_z : rn n' am_m157 0 (lv_args 0 [.ref 164]) [] g r' g') : pm_Q T S x 2 h' g' r' := by
  have g0_z : am_get (lv_args 0 [.ref 44]) 0 = some (.ref 44) := rfl
  have g0m : am_get (lv_args 0 [.ref 164]) 0 = some (.ref 164) := rfl
  have R5 := R.2.2.2.2.1
  have R6 := R.2.2.2.2.2.1
  replace hc_z := rn_aload_n (am_cur_of (i := (0, 1, .aload_n 0, (0, 0, 0), 0)) (by decide +kernel)) g0_z hc_z
  replace hc_z := rn_getI (v := 2) (am_cur_of (i := (1, 3, .getfield 60, (4, 10, 419), 0)) (by decide +kernel)) (by decide +kernel) ka hc_z
  replace hc_z := rn_iconst (w := 2) (am_cur_of (i := (4, 1, .iconst 2, (0, 0, 0), 0)) (by decide +kernel)) (by decide) hc_z
  replace hc_z := rn_cmpF (am_cur_of (i := (5, 3, .if_icmp .ne 10, (7, 0, 0), 0)) (by decide +kernel)) (by decide) hc_z
  replace hc_z := rn_aload_n (am_cur_of (i := (8, 1, .aload_n 0, (0, 0, 0), 0)) (by decide +kernel)) g0_z hc_z
  replace hc_z := rn_getI (v := 4) (am_cur_of (i := (9, 3, .getfield 91, (4, 11, 420), 0)) (by decide +kernel)) (by decide +kernel) kb hc_z
  replace hc_z := rn_goto (am_cur_of (i := (12, 3, .goto 4, (8, 0, 0), 0)) (by decide +kernel)) hc_z
  replace hc_z := rn_swI (off := 80) (a := 21) (am_cur_of (i := (16, 52, .tableswitch 115 0 8 #[52, 59, 66, 73, 80, 87, 94, 101, 108], (0, 0, 0), 0)) (by decide +kernel)) (by decide) (by decide) (by decide +kernel) hc_z
  replace hc_z := rn_aload_n (am_cur_of (i := (96, 1, .aload_n 0, (0, 0, 0), 0)) (by decide +kernel)) g0_z hc_z
  replace hc_z := rn_callV (M' := am_m37) (o := 44) (ar := []) (rest := []) (L := lv_args 0 [.ref 44]) (am_cur_of (i := (97, 3, .invokevirtual 124, (37, 801, 3), 0)) (by decide +kernel)) rfl rfl rfl rfl hc_z
  obtain ⟨r409_z, h410_z, q411_z, hc_z⟩ := hc_z
  have vo := rn_void rfl q411_z
  subst vo
  replace hc_z : rn _ _ _ _ [] _ _ _ := hc_z
  replace hc_z := rn_goto (am_cur_of (i := (100, 3, .goto 36, (39, 0, 0), 0)) (by decide +kernel)) hc_z
  replace hc_z := rn_vret (am_cur_of (i := (136, 1, .return_, (0, 0, 0), 0)) (by decide +kernel)) hc_z
  obtain ⟨e412_z, e413_z⟩ := hc_z
  replace e413_z := e413_z.symm
  subst e413_z
  replace hm_z := rn_aload_n (am_cur_of (i := (0, 1, .aload_n 0, (0, 0, 0), 0)) (by decide +kernel)) g0m hm_z
  replace hm_z := rn_getI (v := 1) (am_cur_of (i := (1, 3, .getfield 157, (12, 8, 1392), 0)) (by decide +kernel)) (by decide +kernel) kc hm_z
  replace hm_z := rn_iconst (w := 1) (am_cur_of (i := (4, 1, .iconst 1, (0, 0, 0), 0)) (by decide +kernel)) (by decide) hm_z
  replace hm_z := rn_cmpF (am_cur_of (i := (5, 3, .if_icmp .ne 12, (8, 0, 0), 0)) (by decide +kernel)) (by decide) hm_z
  replace hm_z := rn_aload_n (am_cur_of (i := (8, 1, .aload_n 0, (0, 0, 0), 0)) (by decide +kernel)) g0m hm_z
  replace hm_z := rn_getI (v := 4) (am_cur_of (i := (9, 3, .getfield 168, (12, 9, 1393), 0)) (by decide +kernel)) (by decide +kernel) kd hm_z
  replace hm_z := rn_bipush (w := 8) (am_cur_of (i := (12, 2, .bipush 8, (0, 0, 0), 0)) (by decide +kernel)) (by decide) hm_z
  replace hm_z := rn_cmpT (am_cur_of (i := (14, 3, .if_icmp .le 9, (12, 0, 0), 0)) (by decide +kernel)) (by decide) hm_z
  replace hm_z := rn_aload_n (am_cur_of (i := (23, 1, .aload_n 0, (0, 0, 0), 0)) (by decide +kernel)) g0m hm_z
  replace hm_z := rn_getI (v := 4) (am_cur_of (i := (24, 3, .getfield 168, (12, 9, 1393), 0)) (by decide +kernel)) (by decide +kernel) kd hm_z
  replace hm_z := rn_swI (off := 77) (a := 31) (am_cur_of (i := (27, 45, .tableswitch 178 0 7 #[45, 53, 61, 69, 77, 85, 93, 136], (0, 0, 0), 0)) (by decide +kernel)) (by decide) (by decide) (by decide +kernel) hm_z
  replace hm_z := rn_aload_n (am_cur_of (i := (104, 1, .aload_n 0, (0, 0, 0), 0)) (by decide +kernel)) g0m hm_z
  replace hm_z := rn_callV (M' := am_m168) (o := 164) (ar := []) (rest := []) (L := lv_args 0 [.ref 164]) (am_cur_of (i := (105, 3, .invokevirtual 265, (168, 1703, 3), 0)) (by decide +kernel)) rfl rfl rfl rfl hm_z
  obtain ⟨r414_z, h415_z, q416_z, hm_z⟩ := hm_z
  rcases pl_leak2 R A B q411_z q416_z with ⟨rfl, x2_z, p2_z, R2, le2_z, A2, B2⟩ | ⟨rfl, FF⟩
  · replace hm_z : rn _ _ _ _ [.int 1] _ _ _ := hm_z
    replace hm_z := rn_istore_n (am_cur_of (i := (108, 1, .istore_n 1, (0, 0, 0), 0)) (by decide +kernel)) hm_z
    obtain ⟨_, s417_z, s418_z, g1m, hm_z⟩ := hm_z
    replace g0m := s417_z 0 _ (by decide) rfl g0m
    clear s417_z s418_z
    replace hm_z := rn_goto (am_cur_of (i := (109, 3, .goto 193, (139, 0, 0), 0)) (by decide +kernel)) hm_z
    exact Or.inl ⟨x2_z, p2_z, _, _, _, R2, le2_z, A2, B2, g0m, g1m, hm_z⟩
  · replace hm_z : rn _ _ _ _ [.int 0] _ _ _ := hm_z
    replace hm_z := rn_istore_n (am_cur_of (i := (108, 1, .istore_n 1, (0, 0, 0), 0)) (by decide +kernel)) hm_z
    obtain ⟨_, s419_z, s420_z, g1m, hm_z⟩ := hm_z
    replace g0m := s419_z 0 _ (by decide) rfl g0m
    clear s419_z s420_z
    replace hm_z := rn_goto (am_cur_of (i := (109, 3, .goto 193, (139, 0, 0), 0)) (by decide +kernel)) hm_z
    replace hm_z := rn_iload_n (am_cur_of (i := (302, 1, .iload_n 1, (0, 0, 0), 0)) (by decide +kernel)) g1m hm_z
    replace hm_z := rn_ifF (am_cur_of (i := (303, 3, .ifCond .ne 5, (143, 0, 0), 0)) (by decide +kernel)) (by decide) hm_z
    replace hm_z := rn_iconst (w := 0) (am_cur_of (i := (306, 1, .iconst 0, (0, 0, 0), 0)) (by decide +kernel)) (by decide) hm_z
    replace hm_z := rn_iret (am_cur_of (i := (307, 1, .ireturn, (0, 0, 0), 0)) (by decide +kernel)) hm_z
    obtain ⟨e421_z, e422_z⟩ := hm_z
    subst e421_z e422_z
    exact Or.inr (Or.inl ⟨rfl, FF⟩)
theorem pm_k5_2 {T : Nat → Int32} {S x p : Int32} {n n' : Nat} {h h' g g' : am_H} {r r' : Option Value} (R : rq T S x p 2 h g) (A : rp 2 h g) (B : rp_t h g) (ka : rg_v h 44 10 = 2) (kb : rg_v h 44 11 = 5) (kc : rg_v g 164 8 = 1) (kd : rg_v g 164 9 = 5) (hc_z : rn n am_m26 0 (lv_args 0 [.ref 44]) [] h r h') (hm_z : rn n' am_m157 0 (lv_args 0 [.ref 164]) [] g r' g') : pm_Q T S x 2 h' g' r' := by
  have g0_z : am_get (lv_args 0 [.ref 44]) 0 = some (.ref 44) := rfl
  have g0m : am_get (lv_args 0 [.ref 164]) 0 = some (.ref 164) := rfl
  have R5 := R.2.2.2.2.1
  have R6 := R.2.2.2.2.2.1
  replace hc_z := rn_aload_n (am_cur_of (i := (0, 1, .aload_n 0, (0, 0, 0), 0)) (by decide +kernel)) g0_z hc_z
  replace hc_z := rn_getI (v := 2) (am_cur_of (i := (1, 3, .getfield 60, (4, 10, 419), 0)) (by decide +kernel)) (by decide +kernel) ka hc_z
  replace hc_z := rn_iconst (w := 2) (am_cur_of (i := (4, 1, .iconst 2, (0, 0, 0), 0)) (by decide +kernel)) (by decide) hc_z
  replace hc_z := rn_cmpF (am_cur_of (i := (5, 3, .if_icmp .ne 10, (7, 0, 0), 0)) (by decide +kernel)) (by decide) hc_z
  replace hc_z := rn_aload_n (am_cur_of (i := (8, 1, .aload_n 0, (0, 0, 0), 0)) (by decide +kernel)) g0_z hc_z
  replace hc_z := rn_getI (v := 5) (am_cur_of (i := (9, 3, .getfield 91, (4, 11, 420), 0)) (by decide +kernel)) (by decide +kernel) kb hc_z
  replace hc_z := rn_goto (am_cur_of (i := (12, 3, .goto 4, (8, 0, 0), 0)) (by decide +kernel)) hc_z
  replace hc_z := rn_swI (off := 87) (a := 24) (am_cur_of (i := (16, 52, .tableswitch 115 0 8 #[52, 59, 66, 73, 80, 87, 94, 101, 108], (0, 0, 0), 0)) (by decide +kernel)) (by decide) (by decide) (by decide +kernel) hc_z
  replace hc_z := rn_aload_n (am_cur_of (i := (103, 1, .aload_n 0, (0, 0, 0), 0)) (by decide +kernel)) g0_z hc_z
  replace hc_z := rn_callV (M' := am_m38) (o := 44) (ar := []) (rest := []) (L := lv_args 0 [.ref 44]) (am_cur_of (i := (104, 3, .invokevirtual 127, (38, 805, 3), 0)) (by decide +kernel)) rfl rfl rfl rfl hc_z
  obtain ⟨r423_z, h424_z, q425_z, hc_z⟩ := hc_z
  have vo := rn_void rfl q425_z
  subst vo
  replace hc_z : rn _ _ _ _ [] _ _ _ := hc_z
  replace hc_z := rn_goto (am_cur_of (i := (107, 3, .goto 29, (39, 0, 0), 0)) (by decide +kernel)) hc_z
  replace hc_z := rn_vret (am_cur_of (i := (136, 1, .return_, (0, 0, 0), 0)) (by decide +kernel)) hc_z
  obtain ⟨e426_z, e427_z⟩ := hc_z
  replace e427_z := e427_z.symm
  subst e427_z
  replace hm_z := rn_aload_n (am_cur_of (i := (0, 1, .aload_n 0, (0, 0, 0), 0)) (by decide +kernel)) g0m hm_z
  replace hm_z := rn_getI (v := 1) (am_cur_of (i := (1, 3, .getfield 157, (12, 8, 1392), 0)) (by decide +kernel)) (by decide +kernel) kc hm_z
  replace hm_z := rn_iconst (w := 1) (am_cur_of (i := (4, 1, .iconst 1, (0, 0, 0), 0)) (by decide +kernel)) (by decide) hm_z
  replace hm_z := rn_cmpF (am_cur_of (i := (5, 3, .if_icmp .ne 12, (8, 0, 0), 0)) (by decide +kernel)) (by decide) hm_z
  replace hm_z := rn_aload_n (am_cur_of (i := (8, 1, .aload_n 0, (0, 0, 0), 0)) (by decide +kernel)) g0m hm_z
  replace hm_z := rn_getI (v := 5) (am_cur_of (i := (9, 3, .getfield 168, (12, 9, 1393), 0)) (by decide +kernel)) (by decide +kernel) kd hm_z
  replace hm_z := rn_bipush (w := 8) (am_cur_of (i := (12, 2, .bipush 8, (0, 0, 0), 0)) (by decide +kernel)) (by decide) hm_z
  replace hm_z := rn_cmpT (am_cur_of (i := (14, 3, .if_icmp .le 9, (12, 0, 0), 0)) (by decide +kernel)) (by decide) hm_z
  replace hm_z := rn_aload_n (am_cur_of (i := (23, 1, .aload_n 0, (0, 0, 0), 0)) (by decide +kernel)) g0m hm_z
  replace hm_z := rn_getI (v := 5) (am_cur_of (i := (24, 3, .getfield 168, (12, 9, 1393), 0)) (by decide +kernel)) (by decide +kernel) kd hm_z
  replace hm_z := rn_swI (off := 85) (a := 35) (am_cur_of (i := (27, 45, .tableswitch 178 0 7 #[45, 53, 61, 69, 77, 85, 93, 136], (0, 0, 0), 0)) (by decide +kernel)) (by decide) (by decide) (by decide +kernel) hm_z
  replace hm_z := rn_aload_n (am_cur_of (i := (112, 1, .aload_n 0, (0, 0, 0), 0)) (by decide +kernel)) g0m hm_z
  replace hm_z := rn_callV (M' := am_m169) (o := 164) (ar := []) (rest := []) (L := lv_args 0 [.ref 164]) (am_cur_of (i := (113, 3, .invokevirtual 268, (169, 1707, 3), 0)) (by decide +kernel)) rfl rfl rfl rfl hm_z
  obtain ⟨r428_z, h429_z, q430_z, hm_z⟩ := hm_z
  rcases pl_trial2 R A B q425_z q430_z with ⟨rfl, x2_z, p2_z, R2, le2_z, A2, B2⟩ | ⟨rfl, FF⟩
  · replace hm_z : rn _ _ _ _ [.int 1] _ _ _ := hm_z
    replace hm_z := rn_istore_n (am_cur_of (i := (116, 1, .istore_n 1, (0, 0, 0), 0)) (by decide +kernel)) hm_z
    obtain ⟨_, s431_z, s432_z, g1m, hm_z⟩ := hm_z
    replace g0m := s431_z 0 _ (by decide) rfl g0m
    clear s431_z s432_z
    replace hm_z := rn_goto (am_cur_of (i := (117, 3, .goto 185, (139, 0, 0), 0)) (by decide +kernel)) hm_z
    exact Or.inl ⟨x2_z, p2_z, _, _, _, R2, le2_z, A2, B2, g0m, g1m, hm_z⟩
  · replace hm_z : rn _ _ _ _ [.int 0] _ _ _ := hm_z
    replace hm_z := rn_istore_n (am_cur_of (i := (116, 1, .istore_n 1, (0, 0, 0), 0)) (by decide +kernel)) hm_z
    obtain ⟨_, s433_z, s434_z, g1m, hm_z⟩ := hm_z
    replace g0m := s433_z 0 _ (by decide) rfl g0m
    clear s433_z s434_z
    replace hm_z := rn_goto (am_cur_of (i := (117, 3, .goto 185, (139, 0, 0), 0)) (by decide +kernel)) hm_z
    replace hm_z := rn_iload_n (am_cur_of (i := (302, 1, .iload_n 1, (0, 0, 0), 0)) (by decide +kernel)) g1m hm_z
    replace hm_z := rn_ifF (am_cur_of (i := (303, 3, .ifCond .ne 5, (143, 0, 0), 0)) (by decide +kernel)) (by decide) hm_z
    replace hm_z := rn_iconst (w := 0) (am_cur_of (i := (306, 1, .iconst 0, (0, 0, 0), 0)) (by decide +kernel)) (by decide) hm_z
    replace hm_z := rn_iret (am_cur_of (i := (307, 1, .ireturn, (0, 0, 0), 0)) (by decide +kernel)) hm_z
    obtain ⟨e435_z, e436_z⟩ := hm_z
    subst e435_z e436_z
    exact Or.inr (Or.inl ⟨rfl, FF⟩)
theorem pm_k6_2 {T : Nat → Int32} {S x p : Int32} {n n' : Nat} {h h' g g' : am_H} {r r' : Option Value} (R : rq T S x p 2 h g) (A : rp 2 h g) (B : rp_t h g) (ka : rg_v h 44 10 = 2) (kb : rg_v h 44 11 = 6) (kc : rg_v g 164 8 = 1) (kd : rg_v g 164 9 = 6) (hc_z : rn n am_m26 0 (lv_args 0 [.ref 44]) [] h r h') (hm_z : rn n' am_m157 0 (lv_args 0 [.ref 164]) [] g r' g') : pm_Q T S x 2 h' g' r' := by
  have g0_z : am_get (lv_args 0 [.ref 44]) 0 = some (.ref 44) := rfl
  have g0m : am_get (lv_args 0 [.ref 164]) 0 = some (.ref 164) := rfl
  have R5 := R.2.2.2.2.1
  have R6 := R.2.2.2.2.2.1
  replace hc_z := rn_aload_n (am_cur_of (i := (0, 1, .aload_n 0, (0, 0, 0), 0)) (by decide +kernel)) g0_z hc_z
  replace hc_z := rn_getI (v := 2) (am_cur_of (i := (1, 3, .getfield 60, (4, 10, 419), 0)) (by decide +kernel)) (by decide +kernel) ka hc_z
  replace hc_z := rn_iconst (w := 2) (am_cur_of (i := (4, 1, .iconst 2, (0, 0, 0), 0)) (by decide +kernel)) (by decide) hc_z
  replace hc_z := rn_cmpF (am_cur_of (i := (5, 3, .if_icmp .ne 10, (7, 0, 0), 0)) (by decide +kernel)) (by decide) hc_z
  replace hc_z := rn_aload_n (am_cur_of (i := (8, 1, .aload_n 0, (0, 0, 0), 0)) (by decide +kernel)) g0_z hc_z
  replace hc_z := rn_getI (v := 6) (am_cur_of (i := (9, 3, .getfield 91, (4, 11, 420), 0)) (by decide +kernel)) (by decide +kernel) kb hc_z
  replace hc_z := rn_goto (am_cur_of (i := (12, 3, .goto 4, (8, 0, 0), 0)) (by decide +kernel)) hc_z
  replace hc_z := rn_swI (off := 94) (a := 27) (am_cur_of (i := (16, 52, .tableswitch 115 0 8 #[52, 59, 66, 73, 80, 87, 94, 101, 108], (0, 0, 0), 0)) (by decide +kernel)) (by decide) (by decide) (by decide +kernel) hc_z
  replace hc_z := rn_aload_n (am_cur_of (i := (110, 1, .aload_n 0, (0, 0, 0), 0)) (by decide +kernel)) g0_z hc_z
  replace hc_z := rn_callV (M' := am_m40) (o := 44) (ar := []) (rest := []) (L := lv_args 0 [.ref 44]) (am_cur_of (i := (111, 3, .invokevirtual 130, (40, 813, 3), 0)) (by decide +kernel)) rfl rfl rfl rfl hc_z
  obtain ⟨r437_z, h438_z, q439_z, hc_z⟩ := hc_z
  have vo := rn_void rfl q439_z
  subst vo
  replace hc_z : rn _ _ _ _ [] _ _ _ := hc_z
  replace hc_z := rn_goto (am_cur_of (i := (114, 3, .goto 22, (39, 0, 0), 0)) (by decide +kernel)) hc_z
  replace hc_z := rn_vret (am_cur_of (i := (136, 1, .return_, (0, 0, 0), 0)) (by decide +kernel)) hc_z
  obtain ⟨e440_z, e441_z⟩ := hc_z
  replace e441_z := e441_z.symm
  subst e441_z
  replace hm_z := rn_aload_n (am_cur_of (i := (0, 1, .aload_n 0, (0, 0, 0), 0)) (by decide +kernel)) g0m hm_z
  replace hm_z := rn_getI (v := 1) (am_cur_of (i := (1, 3, .getfield 157, (12, 8, 1392), 0)) (by decide +kernel)) (by decide +kernel) kc hm_z
  replace hm_z := rn_iconst (w := 1) (am_cur_of (i := (4, 1, .iconst 1, (0, 0, 0), 0)) (by decide +kernel)) (by decide) hm_z
  replace hm_z := rn_cmpF (am_cur_of (i := (5, 3, .if_icmp .ne 12, (8, 0, 0), 0)) (by decide +kernel)) (by decide) hm_z
  replace hm_z := rn_aload_n (am_cur_of (i := (8, 1, .aload_n 0, (0, 0, 0), 0)) (by decide +kernel)) g0m hm_z
  replace hm_z := rn_getI (v := 6) (am_cur_of (i := (9, 3, .getfield 168, (12, 9, 1393), 0)) (by decide +kernel)) (by decide +kernel) kd hm_z
  replace hm_z := rn_bipush (w := 8) (am_cur_of (i := (12, 2, .bipush 8, (0, 0, 0), 0)) (by decide +kernel)) (by decide) hm_z
  replace hm_z := rn_cmpT (am_cur_of (i := (14, 3, .if_icmp .le 9, (12, 0, 0), 0)) (by decide +kernel)) (by decide) hm_z
  replace hm_z := rn_aload_n (am_cur_of (i := (23, 1, .aload_n 0, (0, 0, 0), 0)) (by decide +kernel)) g0m hm_z
  replace hm_z := rn_getI (v := 6) (am_cur_of (i := (24, 3, .getfield 168, (12, 9, 1393), 0)) (by decide +kernel)) (by decide +kernel) kd hm_z
  replace hm_z := rn_swI (off := 93) (a := 39) (am_cur_of (i := (27, 45, .tableswitch 178 0 7 #[45, 53, 61, 69, 77, 85, 93, 136], (0, 0, 0), 0)) (by decide +kernel)) (by decide) (by decide) (by decide +kernel) hm_z
  exact pl_slip2 R A B g0m q439_z hm_z
theorem pm_k7_2 {T : Nat → Int32} {S x p : Int32} {n n' : Nat} {h h' g g' : am_H} {r r' : Option Value} (R : rq T S x p 2 h g) (A : rp 2 h g) (B : rp_t h g) (ka : rg_v h 44 10 = 2) (kb : rg_v h 44 11 = 7) (kc : rg_v g 164 8 = 1) (kd : rg_v g 164 9 = 7) (hc_z : rn n am_m26 0 (lv_args 0 [.ref 44]) [] h r h') (hm_z : rn n' am_m157 0 (lv_args 0 [.ref 164]) [] g r' g') : pm_Q T S x 2 h' g' r' := by
  have g0_z : am_get (lv_args 0 [.ref 44]) 0 = some (.ref 44) := rfl
  have g0m : am_get (lv_args 0 [.ref 164]) 0 = some (.ref 164) := rfl
  have R5 := R.2.2.2.2.1
  have R6 := R.2.2.2.2.2.1
  replace hc_z := rn_aload_n (am_cur_of (i := (0, 1, .aload_n 0, (0, 0, 0), 0)) (by decide +kernel)) g0_z hc_z
  replace hc_z := rn_getI (v := 2) (am_cur_of (i := (1, 3, .getfield 60, (4, 10, 419), 0)) (by decide +kernel)) (by decide +kernel) ka hc_z
  replace hc_z := rn_iconst (w := 2) (am_cur_of (i := (4, 1, .iconst 2, (0, 0, 0), 0)) (by decide +kernel)) (by decide) hc_z
  replace hc_z := rn_cmpF (am_cur_of (i := (5, 3, .if_icmp .ne 10, (7, 0, 0), 0)) (by decide +kernel)) (by decide) hc_z
  replace hc_z := rn_aload_n (am_cur_of (i := (8, 1, .aload_n 0, (0, 0, 0), 0)) (by decide +kernel)) g0_z hc_z
  replace hc_z := rn_getI (v := 7) (am_cur_of (i := (9, 3, .getfield 91, (4, 11, 420), 0)) (by decide +kernel)) (by decide +kernel) kb hc_z
  replace hc_z := rn_goto (am_cur_of (i := (12, 3, .goto 4, (8, 0, 0), 0)) (by decide +kernel)) hc_z
  replace hc_z := rn_swI (off := 101) (a := 30) (am_cur_of (i := (16, 52, .tableswitch 115 0 8 #[52, 59, 66, 73, 80, 87, 94, 101, 108], (0, 0, 0), 0)) (by decide +kernel)) (by decide) (by decide) (by decide +kernel) hc_z
  replace hc_z := rn_aload_n (am_cur_of (i := (117, 1, .aload_n 0, (0, 0, 0), 0)) (by decide +kernel)) g0_z hc_z
  replace hc_z := rn_callV (M' := am_m41) (o := 44) (ar := []) (rest := []) (L := lv_args 0 [.ref 44]) (am_cur_of (i := (118, 3, .invokevirtual 133, (41, 817, 3), 0)) (by decide +kernel)) rfl rfl rfl rfl hc_z
  obtain ⟨r442_z, h443_z, q444_z, hc_z⟩ := hc_z
  have vo := rn_void rfl q444_z
  subst vo
  replace hc_z : rn _ _ _ _ [] _ _ _ := hc_z
  replace hc_z := rn_goto (am_cur_of (i := (121, 3, .goto 15, (39, 0, 0), 0)) (by decide +kernel)) hc_z
  replace hc_z := rn_vret (am_cur_of (i := (136, 1, .return_, (0, 0, 0), 0)) (by decide +kernel)) hc_z
  obtain ⟨e445_z, e446_z⟩ := hc_z
  replace e446_z := e446_z.symm
  subst e446_z
  replace hm_z := rn_aload_n (am_cur_of (i := (0, 1, .aload_n 0, (0, 0, 0), 0)) (by decide +kernel)) g0m hm_z
  replace hm_z := rn_getI (v := 1) (am_cur_of (i := (1, 3, .getfield 157, (12, 8, 1392), 0)) (by decide +kernel)) (by decide +kernel) kc hm_z
  replace hm_z := rn_iconst (w := 1) (am_cur_of (i := (4, 1, .iconst 1, (0, 0, 0), 0)) (by decide +kernel)) (by decide) hm_z
  replace hm_z := rn_cmpF (am_cur_of (i := (5, 3, .if_icmp .ne 12, (8, 0, 0), 0)) (by decide +kernel)) (by decide) hm_z
  replace hm_z := rn_aload_n (am_cur_of (i := (8, 1, .aload_n 0, (0, 0, 0), 0)) (by decide +kernel)) g0m hm_z
  replace hm_z := rn_getI (v := 7) (am_cur_of (i := (9, 3, .getfield 168, (12, 9, 1393), 0)) (by decide +kernel)) (by decide +kernel) kd hm_z
  replace hm_z := rn_bipush (w := 8) (am_cur_of (i := (12, 2, .bipush 8, (0, 0, 0), 0)) (by decide +kernel)) (by decide) hm_z
  replace hm_z := rn_cmpT (am_cur_of (i := (14, 3, .if_icmp .le 9, (12, 0, 0), 0)) (by decide +kernel)) (by decide) hm_z
  replace hm_z := rn_aload_n (am_cur_of (i := (23, 1, .aload_n 0, (0, 0, 0), 0)) (by decide +kernel)) g0m hm_z
  replace hm_z := rn_getI (v := 7) (am_cur_of (i := (24, 3, .getfield 168, (12, 9, 1393), 0)) (by decide +kernel)) (by decide +kernel) kd hm_z
  replace hm_z := rn_swI (off := 136) (a := 61) (am_cur_of (i := (27, 45, .tableswitch 178 0 7 #[45, 53, 61, 69, 77, 85, 93, 136], (0, 0, 0), 0)) (by decide +kernel)) (by decide) (by decide) (by decide +kernel) hm_z
  exact pl_seed2 R A B g0m q444_z hm_z
theorem pm_k8_2 {T : Nat → Int32} {S x p : Int32} {n n' : Nat} {h h' g g' : am_H} {r r' : Option Value} (R : rq T S x p 2 h g) (A : rp 2 h g) (B : rp_t h g) (ka : rg_v h 44 10 = 2) (kb : rg_v h 44 11 = 8) (kc : rg_v g 164 8 = 1) (kd : rg_v g 164 9 = 8) (hc_z : rn n am_m26 0 (lv_args 0 [.ref 44]) [] h r h') (hm_z : rn n' am_m157 0 (lv_args 0 [.ref 164]) [] g r' g') : pm_Q T S x 2 h' g' r' := by
  have g0_z : am_get (lv_args 0 [.ref 44]) 0 = some (.ref 44) := rfl
  have g0m : am_get (lv_args 0 [.ref 164]) 0 = some (.ref 164) := rfl
  have R5 := R.2.2.2.2.1
  have R6 := R.2.2.2.2.2.1
  replace hc_z := rn_aload_n (am_cur_of (i := (0, 1, .aload_n 0, (0, 0, 0), 0)) (by decide +kernel)) g0_z hc_z
  replace hc_z := rn_getI (v := 2) (am_cur_of (i := (1, 3, .getfield 60, (4, 10, 419), 0)) (by decide +kernel)) (by decide +kernel) ka hc_z
  replace hc_z := rn_iconst (w := 2) (am_cur_of (i := (4, 1, .iconst 2, (0, 0, 0), 0)) (by decide +kernel)) (by decide) hc_z
  replace hc_z := rn_cmpF (am_cur_of (i := (5, 3, .if_icmp .ne 10, (7, 0, 0), 0)) (by decide +kernel)) (by decide) hc_z
  replace hc_z := rn_aload_n (am_cur_of (i := (8, 1, .aload_n 0, (0, 0, 0), 0)) (by decide +kernel)) g0_z hc_z
  replace hc_z := rn_getI (v := 8) (am_cur_of (i := (9, 3, .getfield 91, (4, 11, 420), 0)) (by decide +kernel)) (by decide +kernel) kb hc_z
  replace hc_z := rn_goto (am_cur_of (i := (12, 3, .goto 4, (8, 0, 0), 0)) (by decide +kernel)) hc_z
  replace hc_z := rn_swI (off := 108) (a := 33) (am_cur_of (i := (16, 52, .tableswitch 115 0 8 #[52, 59, 66, 73, 80, 87, 94, 101, 108], (0, 0, 0), 0)) (by decide +kernel)) (by decide) (by decide) (by decide +kernel) hc_z
  replace hc_z := rn_aload_n (am_cur_of (i := (124, 1, .aload_n 0, (0, 0, 0), 0)) (by decide +kernel)) g0_z hc_z
  replace hc_z := rn_callV (M' := am_m42) (o := 44) (ar := []) (rest := []) (L := lv_args 0 [.ref 44]) (am_cur_of (i := (125, 3, .invokevirtual 136, (42, 822, 3), 0)) (by decide +kernel)) rfl rfl rfl rfl hc_z
  obtain ⟨r447_z, h448_z, q449_z, hc_z⟩ := hc_z
  have vo := rn_void rfl q449_z
  subst vo
  replace hc_z : rn _ _ _ _ [] _ _ _ := hc_z
  replace hc_z := rn_goto (am_cur_of (i := (128, 3, .goto 8, (39, 0, 0), 0)) (by decide +kernel)) hc_z
  replace hc_z := rn_vret (am_cur_of (i := (136, 1, .return_, (0, 0, 0), 0)) (by decide +kernel)) hc_z
  obtain ⟨e450_z, e451_z⟩ := hc_z
  replace e451_z := e451_z.symm
  subst e451_z
  replace hm_z := rn_aload_n (am_cur_of (i := (0, 1, .aload_n 0, (0, 0, 0), 0)) (by decide +kernel)) g0m hm_z
  replace hm_z := rn_getI (v := 1) (am_cur_of (i := (1, 3, .getfield 157, (12, 8, 1392), 0)) (by decide +kernel)) (by decide +kernel) kc hm_z
  replace hm_z := rn_iconst (w := 1) (am_cur_of (i := (4, 1, .iconst 1, (0, 0, 0), 0)) (by decide +kernel)) (by decide) hm_z
  replace hm_z := rn_cmpF (am_cur_of (i := (5, 3, .if_icmp .ne 12, (8, 0, 0), 0)) (by decide +kernel)) (by decide) hm_z
  replace hm_z := rn_aload_n (am_cur_of (i := (8, 1, .aload_n 0, (0, 0, 0), 0)) (by decide +kernel)) g0m hm_z
  replace hm_z := rn_getI (v := 8) (am_cur_of (i := (9, 3, .getfield 168, (12, 9, 1393), 0)) (by decide +kernel)) (by decide +kernel) kd hm_z
  replace hm_z := rn_bipush (w := 8) (am_cur_of (i := (12, 2, .bipush 8, (0, 0, 0), 0)) (by decide +kernel)) (by decide) hm_z
  replace hm_z := rn_cmpT (am_cur_of (i := (14, 3, .if_icmp .le 9, (12, 0, 0), 0)) (by decide +kernel)) (by decide) hm_z
  replace hm_z := rn_aload_n (am_cur_of (i := (23, 1, .aload_n 0, (0, 0, 0), 0)) (by decide +kernel)) g0m hm_z
  replace hm_z := rn_getI (v := 8) (am_cur_of (i := (24, 3, .getfield 168, (12, 9, 1393), 0)) (by decide +kernel)) (by decide +kernel) kd hm_z
  replace hm_z := rn_swO (a := 83) (am_cur_of (i := (27, 45, .tableswitch 178 0 7 #[45, 53, 61, 69, 77, 85, 93, 136], (0, 0, 0), 0)) (by decide +kernel)) (by decide) (by decide +kernel) hm_z
  exact pl_law_2 R A B g0m q449_z hm_z
theorem pm_k9_2 {T : Nat → Int32} {S x p : Int32} {n n' : Nat} {h h' g g' : am_H} {r r' : Option Value} (R : rq T S x p 2 h g) (A : rp 2 h g) (B : rp_t h g) (ka : rg_v h 44 10 = 2) (kb : rg_v h 44 11 = 9) (kc : rg_v g 164 8 = 1) (kd : rg_v g 164 9 = 9) (hc_z : rn n am_m26 0 (lv_args 0 [.ref 44]) [] h r h') (hm_z : rn n' am_m157 0 (lv_args 0 [.ref 164]) [] g r' g') : pm_Q T S x 2 h' g' r' := by
  have g0_z : am_get (lv_args 0 [.ref 44]) 0 = some (.ref 44) := rfl
  have g0m : am_get (lv_args 0 [.ref 164]) 0 = some (.ref 164) := rfl
  have R5 := R.2.2.2.2.1
  have R6 := R.2.2.2.2.2.1
  replace hc_z := rn_aload_n (am_cur_of (i := (0, 1, .aload_n 0, (0, 0, 0), 0)) (by decide +kernel)) g0_z hc_z
  replace hc_z := rn_getI (v := 2) (am_cur_of (i := (1, 3, .getfield 60, (4, 10, 419), 0)) (by decide +kernel)) (by decide +kernel) ka hc_z
  replace hc_z := rn_iconst (w := 2) (am_cur_of (i := (4, 1, .iconst 2, (0, 0, 0), 0)) (by decide +kernel)) (by decide) hc_z
  replace hc_z := rn_cmpF (am_cur_of (i := (5, 3, .if_icmp .ne 10, (7, 0, 0), 0)) (by decide +kernel)) (by decide) hc_z
  replace hc_z := rn_aload_n (am_cur_of (i := (8, 1, .aload_n 0, (0, 0, 0), 0)) (by decide +kernel)) g0_z hc_z
  replace hc_z := rn_getI (v := 9) (am_cur_of (i := (9, 3, .getfield 91, (4, 11, 420), 0)) (by decide +kernel)) (by decide +kernel) kb hc_z
  replace hc_z := rn_goto (am_cur_of (i := (12, 3, .goto 4, (8, 0, 0), 0)) (by decide +kernel)) hc_z
  replace hc_z := rn_swO (a := 36) (am_cur_of (i := (16, 52, .tableswitch 115 0 8 #[52, 59, 66, 73, 80, 87, 94, 101, 108], (0, 0, 0), 0)) (by decide +kernel)) (by decide) (by decide +kernel) hc_z
  replace hc_z := rn_aload_n (am_cur_of (i := (131, 1, .aload_n 0, (0, 0, 0), 0)) (by decide +kernel)) g0_z hc_z
  replace hc_z := rn_iconst (w := 1) (am_cur_of (i := (132, 1, .iconst 1, (0, 0, 0), 0)) (by decide +kernel)) (by decide) hc_z
  replace hc_z := rn_callV (M' := am_m29) (o := 44) (ar := [.int 1]) (rest := []) (L := lv_args 0 [.ref 44, .int 1]) (am_cur_of (i := (133, 3, .invokevirtual 108, (29, 769, 3), 0)) (by decide +kernel)) rfl rfl rfl rfl hc_z
  obtain ⟨r452_z, h453_z, q454_z, hc_z⟩ := hc_z
  obtain ⟨rfl, yq454_z⟩ := rp_fail R.2.2.2.1 q454_z
  subst yq454_z
  replace hc_z : rn _ _ _ _ [] _ _ _ := hc_z
  have K := rs_stick (w := 1) (a := 26) (by decide) (by decide) rfl (by decide) rfl rfl hc_z
  replace hm_z := rn_aload_n (am_cur_of (i := (0, 1, .aload_n 0, (0, 0, 0), 0)) (by decide +kernel)) g0m hm_z
  replace hm_z := rn_getI (v := 1) (am_cur_of (i := (1, 3, .getfield 157, (12, 8, 1392), 0)) (by decide +kernel)) (by decide +kernel) kc hm_z
  replace hm_z := rn_iconst (w := 1) (am_cur_of (i := (4, 1, .iconst 1, (0, 0, 0), 0)) (by decide +kernel)) (by decide) hm_z
  replace hm_z := rn_cmpF (am_cur_of (i := (5, 3, .if_icmp .ne 12, (8, 0, 0), 0)) (by decide +kernel)) (by decide) hm_z
  replace hm_z := rn_aload_n (am_cur_of (i := (8, 1, .aload_n 0, (0, 0, 0), 0)) (by decide +kernel)) g0m hm_z
  replace hm_z := rn_getI (v := 9) (am_cur_of (i := (9, 3, .getfield 168, (12, 9, 1393), 0)) (by decide +kernel)) (by decide +kernel) kd hm_z
  replace hm_z := rn_bipush (w := 8) (am_cur_of (i := (12, 2, .bipush 8, (0, 0, 0), 0)) (by decide +kernel)) (by decide) hm_z
  replace hm_z := rn_cmpF (am_cur_of (i := (14, 3, .if_icmp .le 9, (12, 0, 0), 0)) (by decide +kernel)) (by decide) hm_z
  replace hm_z := rn_aload_n (am_cur_of (i := (17, 1, .aload_n 0, (0, 0, 0), 0)) (by decide +kernel)) g0m hm_z
  replace hm_z := rn_iconst (w := 1) (am_cur_of (i := (18, 1, .iconst 1, (0, 0, 0), 0)) (by decide +kernel)) (by decide) hm_z
  replace hm_z := rn_callV (M' := am_m158) (o := 164) (ar := [.int 1]) (rest := []) (L := lv_args 0 [.ref 164, .int 1]) (am_cur_of (i := (19, 3, .invokevirtual 181, (158, 1665, 3), 0)) (by decide +kernel)) rfl rfl rfl rfl hm_z
  obtain ⟨r455_z, h456_z, q457_z, hm_z⟩ := hm_z
  obtain ⟨rfl, yq457_z⟩ := rp_wrong q457_z
  subst yq457_z
  replace hm_z : rn _ _ _ _ [.int 0] _ _ _ := hm_z
  replace hm_z := rn_iret (am_cur_of (i := (22, 1, .ireturn, (0, 0, 0), 0)) (by decide +kernel)) hm_z
  obtain ⟨e458_z, e459_z⟩ := hm_z
  subst e458_z e459_z
  exact Or.inr (Or.inl ⟨rfl, _, 1, by decide, K.1, K.2.trans R5, rfl, R6⟩)
theorem pm_k10_2 {T : Nat → Int32} {S x p : Int32} {n n' : Nat} {h h' g g' : am_H} {r r' : Option Value} (R : rq T S x p 2 h g) (A : rp 2 h g) (B : rp_t h g) (ka : rg_v h 44 10 = 2) (kb : rg_v h 44 11 = 10) (kc : rg_v g 164 8 = 1) (kd : rg_v g 164 9 = 10) (hc_z : rn n am_m26 0 (lv_args 0 [.ref 44]) [] h r h') (hm_z : rn n' am_m157 0 (lv_args 0 [.ref 164]) [] g r' g') : pm_Q T S x 2 h' g' r' := by
  have g0_z : am_get (lv_args 0 [.ref 44]) 0 = some (.ref 44) := rfl
  have g0m : am_get (lv_args 0 [.ref 164]) 0 = some (.ref 164) := rfl
  have R5 := R.2.2.2.2.1
  have R6 := R.2.2.2.2.2.1
  replace hc_z := rn_aload_n (am_cur_of (i := (0, 1, .aload_n 0, (0, 0, 0), 0)) (by decide +kernel)) g0_z hc_z
  replace hc_z := rn_getI (v := 2) (am_cur_of (i := (1, 3, .getfield 60, (4, 10, 419), 0)) (by decide +kernel)) (by decide +kernel) ka hc_z
  replace hc_z := rn_iconst (w := 2) (am_cur_of (i := (4, 1, .iconst 2, (0, 0, 0), 0)) (by decide +kernel)) (by decide) hc_z
  replace hc_z := rn_cmpF (am_cur_of (i := (5, 3, .if_icmp .ne 10, (7, 0, 0), 0)) (by decide +kernel)) (by decide) hc_z
  replace hc_z := rn_aload_n (am_cur_of (i := (8, 1, .aload_n 0, (0, 0, 0), 0)) (by decide +kernel)) g0_z hc_z
  replace hc_z := rn_getI (v := 10) (am_cur_of (i := (9, 3, .getfield 91, (4, 11, 420), 0)) (by decide +kernel)) (by decide +kernel) kb hc_z
  replace hc_z := rn_goto (am_cur_of (i := (12, 3, .goto 4, (8, 0, 0), 0)) (by decide +kernel)) hc_z
  replace hc_z := rn_swO (a := 36) (am_cur_of (i := (16, 52, .tableswitch 115 0 8 #[52, 59, 66, 73, 80, 87, 94, 101, 108], (0, 0, 0), 0)) (by decide +kernel)) (by decide) (by decide +kernel) hc_z
  replace hc_z := rn_aload_n (am_cur_of (i := (131, 1, .aload_n 0, (0, 0, 0), 0)) (by decide +kernel)) g0_z hc_z
  replace hc_z := rn_iconst (w := 1) (am_cur_of (i := (132, 1, .iconst 1, (0, 0, 0), 0)) (by decide +kernel)) (by decide) hc_z
  replace hc_z := rn_callV (M' := am_m29) (o := 44) (ar := [.int 1]) (rest := []) (L := lv_args 0 [.ref 44, .int 1]) (am_cur_of (i := (133, 3, .invokevirtual 108, (29, 769, 3), 0)) (by decide +kernel)) rfl rfl rfl rfl hc_z
  obtain ⟨r460_z, h461_z, q462_z, hc_z⟩ := hc_z
  obtain ⟨rfl, yq462_z⟩ := rp_fail R.2.2.2.1 q462_z
  subst yq462_z
  replace hc_z : rn _ _ _ _ [] _ _ _ := hc_z
  have K := rs_stick (w := 1) (a := 26) (by decide) (by decide) rfl (by decide) rfl rfl hc_z
  replace hm_z := rn_aload_n (am_cur_of (i := (0, 1, .aload_n 0, (0, 0, 0), 0)) (by decide +kernel)) g0m hm_z
  replace hm_z := rn_getI (v := 1) (am_cur_of (i := (1, 3, .getfield 157, (12, 8, 1392), 0)) (by decide +kernel)) (by decide +kernel) kc hm_z
  replace hm_z := rn_iconst (w := 1) (am_cur_of (i := (4, 1, .iconst 1, (0, 0, 0), 0)) (by decide +kernel)) (by decide) hm_z
  replace hm_z := rn_cmpF (am_cur_of (i := (5, 3, .if_icmp .ne 12, (8, 0, 0), 0)) (by decide +kernel)) (by decide) hm_z
  replace hm_z := rn_aload_n (am_cur_of (i := (8, 1, .aload_n 0, (0, 0, 0), 0)) (by decide +kernel)) g0m hm_z
  replace hm_z := rn_getI (v := 10) (am_cur_of (i := (9, 3, .getfield 168, (12, 9, 1393), 0)) (by decide +kernel)) (by decide +kernel) kd hm_z
  replace hm_z := rn_bipush (w := 8) (am_cur_of (i := (12, 2, .bipush 8, (0, 0, 0), 0)) (by decide +kernel)) (by decide) hm_z
  replace hm_z := rn_cmpF (am_cur_of (i := (14, 3, .if_icmp .le 9, (12, 0, 0), 0)) (by decide +kernel)) (by decide) hm_z
  replace hm_z := rn_aload_n (am_cur_of (i := (17, 1, .aload_n 0, (0, 0, 0), 0)) (by decide +kernel)) g0m hm_z
  replace hm_z := rn_iconst (w := 1) (am_cur_of (i := (18, 1, .iconst 1, (0, 0, 0), 0)) (by decide +kernel)) (by decide) hm_z
  replace hm_z := rn_callV (M' := am_m158) (o := 164) (ar := [.int 1]) (rest := []) (L := lv_args 0 [.ref 164, .int 1]) (am_cur_of (i := (19, 3, .invokevirtual 181, (158, 1665, 3), 0)) (by decide +kernel)) rfl rfl rfl rfl hm_z
  obtain ⟨r463_z, h464_z, q465_z, hm_z⟩ := hm_z
  obtain ⟨rfl, yq465_z⟩ := rp_wrong q465_z
  subst yq465_z
  replace hm_z : rn _ _ _ _ [.int 0] _ _ _ := hm_z
  replace hm_z := rn_iret (am_cur_of (i := (22, 1, .ireturn, (0, 0, 0), 0)) (by decide +kernel)) hm_z
  obtain ⟨e466_z, e467_z⟩ := hm_z
  subst e466_z e467_z
  exact Or.inr (Or.inl ⟨rfl, _, 1, by decide, K.1, K.2.trans R5, rfl, R6⟩)
theorem pm_k11_2 {T : Nat → Int32} {S x p : Int32} {n n' : Nat} {h h' g g' : am_H} {r r' : Option Value} (R : rq T S x p 2 h g) (A : rp 2 h g) (B : rp_t h g) (ka : rg_v h 44 10 = 2) (kb : rg_v h 44 11 = 11) (kc : rg_v g 164 8 = 1) (kd : rg_v g 164 9 = 11) (hc_z : rn n am_m26 0 (lv_args 0 [.ref 44]) [] h r h') (hm_z : rn n' am_m157 0 (lv_args 0 [.ref 164]) [] g r' g') : pm_Q T S x 2 h' g' r' := by
  have g0_z : am_get (lv_args 0 [.ref 44]) 0 = some (.ref 44) := rfl
  have g0m : am_get (lv_args 0 [.ref 164]) 0 = some (.ref 164) := rfl
  have R5 := R.2.2.2.2.1
  have R6 := R.2.2.2.2.2.1
  replace hc_z := rn_aload_n (am_cur_of (i := (0, 1, .aload_n 0, (0, 0, 0), 0)) (by decide +kernel)) g0_z hc_z
  replace hc_z := rn_getI (v := 2) (am_cur_of (i := (1, 3, .getfield 60, (4, 10, 419), 0)) (by decide +kernel)) (by decide +kernel) ka hc_z
  replace hc_z := rn_iconst (w := 2) (am_cur_of (i := (4, 1, .iconst 2, (0, 0, 0), 0)) (by decide +kernel)) (by decide) hc_z
  replace hc_z := rn_cmpF (am_cur_of (i := (5, 3, .if_icmp .ne 10, (7, 0, 0), 0)) (by decide +kernel)) (by decide) hc_z
  replace hc_z := rn_aload_n (am_cur_of (i := (8, 1, .aload_n 0, (0, 0, 0), 0)) (by decide +kernel)) g0_z hc_z
  replace hc_z := rn_getI (v := 11) (am_cur_of (i := (9, 3, .getfield 91, (4, 11, 420), 0)) (by decide +kernel)) (by decide +kernel) kb hc_z
  replace hc_z := rn_goto (am_cur_of (i := (12, 3, .goto 4, (8, 0, 0), 0)) (by decide +kernel)) hc_z
  replace hc_z := rn_swO (a := 36) (am_cur_of (i := (16, 52, .tableswitch 115 0 8 #[52, 59, 66, 73, 80, 87, 94, 101, 108], (0, 0, 0), 0)) (by decide +kernel)) (by decide) (by decide +kernel) hc_z
  replace hc_z := rn_aload_n (am_cur_of (i := (131, 1, .aload_n 0, (0, 0, 0), 0)) (by decide +kernel)) g0_z hc_z
  replace hc_z := rn_iconst (w := 1) (am_cur_of (i := (132, 1, .iconst 1, (0, 0, 0), 0)) (by decide +kernel)) (by decide) hc_z
  replace hc_z := rn_callV (M' := am_m29) (o := 44) (ar := [.int 1]) (rest := []) (L := lv_args 0 [.ref 44, .int 1]) (am_cur_of (i := (133, 3, .invokevirtual 108, (29, 769, 3), 0)) (by decide +kernel)) rfl rfl rfl rfl hc_z
  obtain ⟨r468_z, h469_z, q470_z, hc_z⟩ := hc_z
  obtain ⟨rfl, yq470_z⟩ := rp_fail R.2.2.2.1 q470_z
  subst yq470_z
  replace hc_z : rn _ _ _ _ [] _ _ _ := hc_z
  have K := rs_stick (w := 1) (a := 26) (by decide) (by decide) rfl (by decide) rfl rfl hc_z
  replace hm_z := rn_aload_n (am_cur_of (i := (0, 1, .aload_n 0, (0, 0, 0), 0)) (by decide +kernel)) g0m hm_z
  replace hm_z := rn_getI (v := 1) (am_cur_of (i := (1, 3, .getfield 157, (12, 8, 1392), 0)) (by decide +kernel)) (by decide +kernel) kc hm_z
  replace hm_z := rn_iconst (w := 1) (am_cur_of (i := (4, 1, .iconst 1, (0, 0, 0), 0)) (by decide +kernel)) (by decide) hm_z
  replace hm_z := rn_cmpF (am_cur_of (i := (5, 3, .if_icmp .ne 12, (8, 0, 0), 0)) (by decide +kernel)) (by decide) hm_z
  replace hm_z := rn_aload_n (am_cur_of (i := (8, 1, .aload_n 0, (0, 0, 0), 0)) (by decide +kernel)) g0m hm_z
  replace hm_z := rn_getI (v := 11) (am_cur_of (i := (9, 3, .getfield 168, (12, 9, 1393), 0)) (by decide +kernel)) (by decide +kernel) kd hm_z
  replace hm_z := rn_bipush (w := 8) (am_cur_of (i := (12, 2, .bipush 8, (0, 0, 0), 0)) (by decide +kernel)) (by decide) hm_z
  replace hm_z := rn_cmpF (am_cur_of (i := (14, 3, .if_icmp .le 9, (12, 0, 0), 0)) (by decide +kernel)) (by decide) hm_z
  replace hm_z := rn_aload_n (am_cur_of (i := (17, 1, .aload_n 0, (0, 0, 0), 0)) (by decide +kernel)) g0m hm_z
  replace hm_z := rn_iconst (w := 1) (am_cur_of (i := (18, 1, .iconst 1, (0, 0, 0), 0)) (by decide +kernel)) (by decide) hm_z
  replace hm_z := rn_callV (M' := am_m158) (o := 164) (ar := [.int 1]) (rest := []) (L := lv_args 0 [.ref 164, .int 1]) (am_cur_of (i := (19, 3, .invokevirtual 181, (158, 1665, 3), 0)) (by decide +kernel)) rfl rfl rfl rfl hm_z
  obtain ⟨r471_z, h472_z, q473_z, hm_z⟩ := hm_z
  obtain ⟨rfl, yq473_z⟩ := rp_wrong q473_z
  subst yq473_z
  replace hm_z : rn _ _ _ _ [.int 0] _ _ _ := hm_z
  replace hm_z := rn_iret (am_cur_of (i := (22, 1, .ireturn, (0, 0, 0), 0)) (by decide +kernel)) hm_z
  obtain ⟨e474_z, e475_z⟩ := hm_z
  subst e474_z e475_z
  exact Or.inr (Or.inl ⟨rfl, _, 1, by decide, K.1, K.2.trans R5, rfl, R6⟩)
theorem pm_k12_2 {T : Nat → Int32} {S x p : Int32} {n n' : Nat} {h h' g g' : am_H} {r r' : Option Value} (R : rq T S x p 2 h g) (A : rp 2 h g) (B : rp_t h g) (ka : rg_v h 44 10 = 2) (kb : rg_v h 44 11 = 12) (kc : rg_v g 164 8 = 1) (kd : rg_v g 164 9 = 15) (hc_z : rn n am_m26 0 (lv_args 0 [.ref 44]) [] h r h') (hm_z : rn n' am_m157 0 (lv_args 0 [.ref 164]) [] g r' g') : pm_Q T S x 2 h' g' r' := by
  have g0_z : am_get (lv_args 0 [.ref 44]) 0 = some (.ref 44) := rfl
  have g0m : am_get (lv_args 0 [.ref 164]) 0 = some (.ref 164) := rfl
  have R5 := R.2.2.2.2.1
  have R6 := R.2.2.2.2.2.1
  replace hc_z := rn_aload_n (am_cur_of (i := (0, 1, .aload_n 0, (0, 0, 0), 0)) (by decide +kernel)) g0_z hc_z
  replace hc_z := rn_getI (v := 2) (am_cur_of (i := (1, 3, .getfield 60, (4, 10, 419), 0)) (by decide +kernel)) (by decide +kernel) ka hc_z
  replace hc_z := rn_iconst (w := 2) (am_cur_of (i := (4, 1, .iconst 2, (0, 0, 0), 0)) (by decide +kernel)) (by decide) hc_z
  replace hc_z := rn_cmpF (am_cur_of (i := (5, 3, .if_icmp .ne 10, (7, 0, 0), 0)) (by decide +kernel)) (by decide) hc_z
  replace hc_z := rn_aload_n (am_cur_of (i := (8, 1, .aload_n 0, (0, 0, 0), 0)) (by decide +kernel)) g0_z hc_z
  replace hc_z := rn_getI (v := 12) (am_cur_of (i := (9, 3, .getfield 91, (4, 11, 420), 0)) (by decide +kernel)) (by decide +kernel) kb hc_z
  replace hc_z := rn_goto (am_cur_of (i := (12, 3, .goto 4, (8, 0, 0), 0)) (by decide +kernel)) hc_z
  replace hc_z := rn_swO (a := 36) (am_cur_of (i := (16, 52, .tableswitch 115 0 8 #[52, 59, 66, 73, 80, 87, 94, 101, 108], (0, 0, 0), 0)) (by decide +kernel)) (by decide) (by decide +kernel) hc_z
  replace hc_z := rn_aload_n (am_cur_of (i := (131, 1, .aload_n 0, (0, 0, 0), 0)) (by decide +kernel)) g0_z hc_z
  replace hc_z := rn_iconst (w := 1) (am_cur_of (i := (132, 1, .iconst 1, (0, 0, 0), 0)) (by decide +kernel)) (by decide) hc_z
  replace hc_z := rn_callV (M' := am_m29) (o := 44) (ar := [.int 1]) (rest := []) (L := lv_args 0 [.ref 44, .int 1]) (am_cur_of (i := (133, 3, .invokevirtual 108, (29, 769, 3), 0)) (by decide +kernel)) rfl rfl rfl rfl hc_z
  obtain ⟨r476_z, h477_z, q478_z, hc_z⟩ := hc_z
  obtain ⟨rfl, yq478_z⟩ := rp_fail R.2.2.2.1 q478_z
  subst yq478_z
  replace hc_z : rn _ _ _ _ [] _ _ _ := hc_z
  have K := rs_stick (w := 1) (a := 26) (by decide) (by decide) rfl (by decide) rfl rfl hc_z
  replace hm_z := rn_aload_n (am_cur_of (i := (0, 1, .aload_n 0, (0, 0, 0), 0)) (by decide +kernel)) g0m hm_z
  replace hm_z := rn_getI (v := 1) (am_cur_of (i := (1, 3, .getfield 157, (12, 8, 1392), 0)) (by decide +kernel)) (by decide +kernel) kc hm_z
  replace hm_z := rn_iconst (w := 1) (am_cur_of (i := (4, 1, .iconst 1, (0, 0, 0), 0)) (by decide +kernel)) (by decide) hm_z
  replace hm_z := rn_cmpF (am_cur_of (i := (5, 3, .if_icmp .ne 12, (8, 0, 0), 0)) (by decide +kernel)) (by decide) hm_z
  replace hm_z := rn_aload_n (am_cur_of (i := (8, 1, .aload_n 0, (0, 0, 0), 0)) (by decide +kernel)) g0m hm_z
  replace hm_z := rn_getI (v := 15) (am_cur_of (i := (9, 3, .getfield 168, (12, 9, 1393), 0)) (by decide +kernel)) (by decide +kernel) kd hm_z
  replace hm_z := rn_bipush (w := 8) (am_cur_of (i := (12, 2, .bipush 8, (0, 0, 0), 0)) (by decide +kernel)) (by decide) hm_z
  replace hm_z := rn_cmpF (am_cur_of (i := (14, 3, .if_icmp .le 9, (12, 0, 0), 0)) (by decide +kernel)) (by decide) hm_z
  replace hm_z := rn_aload_n (am_cur_of (i := (17, 1, .aload_n 0, (0, 0, 0), 0)) (by decide +kernel)) g0m hm_z
  replace hm_z := rn_iconst (w := 1) (am_cur_of (i := (18, 1, .iconst 1, (0, 0, 0), 0)) (by decide +kernel)) (by decide) hm_z
  replace hm_z := rn_callV (M' := am_m158) (o := 164) (ar := [.int 1]) (rest := []) (L := lv_args 0 [.ref 164, .int 1]) (am_cur_of (i := (19, 3, .invokevirtual 181, (158, 1665, 3), 0)) (by decide +kernel)) rfl rfl rfl rfl hm_z
  obtain ⟨r479_z, h480_z, q481_z, hm_z⟩ := hm_z
  obtain ⟨rfl, yq481_z⟩ := rp_wrong q481_z
  subst yq481_z
  replace hm_z : rn _ _ _ _ [.int 0] _ _ _ := hm_z
  replace hm_z := rn_iret (am_cur_of (i := (22, 1, .ireturn, (0, 0, 0), 0)) (by decide +kernel)) hm_z
  obtain ⟨e482_z, e483_z⟩ := hm_z
  subst e482_z e483_z
  exact Or.inr (Or.inl ⟨rfl, _, 1, by decide, K.1, K.2.trans R5, rfl, R6⟩)
theorem pm_k13_2 {T : Nat → Int32} {S x p : Int32} {n n' : Nat} {h h' g g' : am_H} {r r' : Option Value} (R : rq T S x p 2 h g) (A : rp 2 h g) (B : rp_t h g) (ka : rg_v h 44 10 = 2) (kb : rg_v h 44 11 = 13) (kc : rg_v g 164 8 = 1) (kd : rg_v g 164 9 = 16) (hc_z : rn n am_m26 0 (lv_args 0 [.ref 44]) [] h r h') (hm_z : rn n' am_m157 0 (lv_args 0 [.ref 164]) [] g r' g') : pm_Q T S x 2 h' g' r' := by
  have g0_z : am_get (lv_args 0 [.ref 44]) 0 = some (.ref 44) := rfl
  have g0m : am_get (lv_args 0 [.ref 164]) 0 = some (.ref 164) := rfl
  have R5 := R.2.2.2.2.1
  have R6 := R.2.2.2.2.2.1
  replace hc_z := rn_aload_n (am_cur_of (i := (0, 1, .aload_n 0, (0, 0, 0), 0)) (by decide +kernel)) g0_z hc_z
  replace hc_z := rn_getI (v := 2) (am_cur_of (i := (1, 3, .getfield 60, (4, 10, 419), 0)) (by decide +kernel)) (by decide +kernel) ka hc_z
  replace hc_z := rn_iconst (w := 2) (am_cur_of (i := (4, 1, .iconst 2, (0, 0, 0), 0)) (by decide +kernel)) (by decide) hc_z
  replace hc_z := rn_cmpF (am_cur_of (i := (5, 3, .if_icmp .ne 10, (7, 0, 0), 0)) (by decide +kernel)) (by decide) hc_z
  replace hc_z := rn_aload_n (am_cur_of (i := (8, 1, .aload_n 0, (0, 0, 0), 0)) (by decide +kernel)) g0_z hc_z
  replace hc_z := rn_getI (v := 13) (am_cur_of (i := (9, 3, .getfield 91, (4, 11, 420), 0)) (by decide +kernel)) (by decide +kernel) kb hc_z
  replace hc_z := rn_goto (am_cur_of (i := (12, 3, .goto 4, (8, 0, 0), 0)) (by decide +kernel)) hc_z
  replace hc_z := rn_swO (a := 36) (am_cur_of (i := (16, 52, .tableswitch 115 0 8 #[52, 59, 66, 73, 80, 87, 94, 101, 108], (0, 0, 0), 0)) (by decide +kernel)) (by decide) (by decide +kernel) hc_z
  replace hc_z := rn_aload_n (am_cur_of (i := (131, 1, .aload_n 0, (0, 0, 0), 0)) (by decide +kernel)) g0_z hc_z
  replace hc_z := rn_iconst (w := 1) (am_cur_of (i := (132, 1, .iconst 1, (0, 0, 0), 0)) (by decide +kernel)) (by decide) hc_z
  replace hc_z := rn_callV (M' := am_m29) (o := 44) (ar := [.int 1]) (rest := []) (L := lv_args 0 [.ref 44, .int 1]) (am_cur_of (i := (133, 3, .invokevirtual 108, (29, 769, 3), 0)) (by decide +kernel)) rfl rfl rfl rfl hc_z
  obtain ⟨r484_z, h485_z, q486_z, hc_z⟩ := hc_z
  obtain ⟨rfl, yq486_z⟩ := rp_fail R.2.2.2.1 q486_z
  subst yq486_z
  replace hc_z : rn _ _ _ _ [] _ _ _ := hc_z
  have K := rs_stick (w := 1) (a := 26) (by decide) (by decide) rfl (by decide) rfl rfl hc_z
  replace hm_z := rn_aload_n (am_cur_of (i := (0, 1, .aload_n 0, (0, 0, 0), 0)) (by decide +kernel)) g0m hm_z
  replace hm_z := rn_getI (v := 1) (am_cur_of (i := (1, 3, .getfield 157, (12, 8, 1392), 0)) (by decide +kernel)) (by decide +kernel) kc hm_z
  replace hm_z := rn_iconst (w := 1) (am_cur_of (i := (4, 1, .iconst 1, (0, 0, 0), 0)) (by decide +kernel)) (by decide) hm_z
  replace hm_z := rn_cmpF (am_cur_of (i := (5, 3, .if_icmp .ne 12, (8, 0, 0), 0)) (by decide +kernel)) (by decide) hm_z
  replace hm_z := rn_aload_n (am_cur_of (i := (8, 1, .aload_n 0, (0, 0, 0), 0)) (by decide +kernel)) g0m hm_z
  replace hm_z := rn_getI (v := 16) (am_cur_of (i := (9, 3, .getfield 168, (12, 9, 1393), 0)) (by decide +kernel)) (by decide +kernel) kd hm_z
  replace hm_z := rn_bipush (w := 8) (am_cur_of (i := (12, 2, .bipush 8, (0, 0, 0), 0)) (by decide +kernel)) (by decide) hm_z
  replace hm_z := rn_cmpF (am_cur_of (i := (14, 3, .if_icmp .le 9, (12, 0, 0), 0)) (by decide +kernel)) (by decide) hm_z
  replace hm_z := rn_aload_n (am_cur_of (i := (17, 1, .aload_n 0, (0, 0, 0), 0)) (by decide +kernel)) g0m hm_z
  replace hm_z := rn_iconst (w := 1) (am_cur_of (i := (18, 1, .iconst 1, (0, 0, 0), 0)) (by decide +kernel)) (by decide) hm_z
  replace hm_z := rn_callV (M' := am_m158) (o := 164) (ar := [.int 1]) (rest := []) (L := lv_args 0 [.ref 164, .int 1]) (am_cur_of (i := (19, 3, .invokevirtual 181, (158, 1665, 3), 0)) (by decide +kernel)) rfl rfl rfl rfl hm_z
  obtain ⟨r487_z, h488_z, q489_z, hm_z⟩ := hm_z
  obtain ⟨rfl, yq489_z⟩ := rp_wrong q489_z
  subst yq489_z
  replace hm_z : rn _ _ _ _ [.int 0] _ _ _ := hm_z
  replace hm_z := rn_iret (am_cur_of (i := (22, 1, .ireturn, (0, 0, 0), 0)) (by decide +kernel)) hm_z
  obtain ⟨e490_z, e491_z⟩ := hm_z
  subst e490_z e491_z
  exact Or.inr (Or.inl ⟨rfl, _, 1, by decide, K.1, K.2.trans R5, rfl, R6⟩)
theorem pm_k14_2 {T : Nat → Int32} {S x p : Int32} {n n' : Nat} {h h' g g' : am_H} {r r' : Option Value} (R : rq T S x p 2 h g) (A : rp 2 h g) (B : rp_t h g) (ka : rg_v h 44 10 = 2) (kb : rg_v h 44 11 = 14) (kc : rg_v g 164 8 = 1) (kd : rg_v g 164 9 = 17) (hc_z : rn n am_m26 0 (lv_args 0 [.ref 44]) [] h r h') (hm_z : rn n' am_m157 0 (lv_args 0 [.ref 164]) [] g r' g') : pm_Q T S x 2 h' g' r' := by
  have g0_z : am_get (lv_args 0 [.ref 44]) 0 = some (.ref 44) := rfl
  have g0m : am_get (lv_args 0 [.ref 164]) 0 = some (.ref 164) := rfl
  have R5 := R.2.2.2.2.1
  have R6 := R.2.2.2.2.2.1
  replace hc_z := rn_aload_n (am_cur_of (i := (0, 1, .aload_n 0, (0, 0, 0), 0)) (by decide +kernel)) g0_z hc_z
  replace hc_z := rn_getI (v := 2) (am_cur_of (i := (1, 3, .getfield 60, (4, 10, 419), 0)) (by decide +kernel)) (by decide +kernel) ka hc_z
  replace hc_z := rn_iconst (w := 2) (am_cur_of (i := (4, 1, .iconst 2, (0, 0, 0), 0)) (by decide +kernel)) (by decide) hc_z
  replace hc_z := rn_cmpF (am_cur_of (i := (5, 3, .if_icmp .ne 10, (7, 0, 0), 0)) (by decide +kernel)) (by decide) hc_z
  replace hc_z := rn_aload_n (am_cur_of (i := (8, 1, .aload_n 0, (0, 0, 0), 0)) (by decide +kernel)) g0_z hc_z
  replace hc_z := rn_getI (v := 14) (am_cur_of (i := (9, 3, .getfield 91, (4, 11, 420), 0)) (by decide +kernel)) (by decide +kernel) kb hc_z
  replace hc_z := rn_goto (am_cur_of (i := (12, 3, .goto 4, (8, 0, 0), 0)) (by decide +kernel)) hc_z
  replace hc_z := rn_swO (a := 36) (am_cur_of (i := (16, 52, .tableswitch 115 0 8 #[52, 59, 66, 73, 80, 87, 94, 101, 108], (0, 0, 0), 0)) (by decide +kernel)) (by decide) (by decide +kernel) hc_z
  replace hc_z := rn_aload_n (am_cur_of (i := (131, 1, .aload_n 0, (0, 0, 0), 0)) (by decide +kernel)) g0_z hc_z
  replace hc_z := rn_iconst (w := 1) (am_cur_of (i := (132, 1, .iconst 1, (0, 0, 0), 0)) (by decide +kernel)) (by decide) hc_z
  replace hc_z := rn_callV (M' := am_m29) (o := 44) (ar := [.int 1]) (rest := []) (L := lv_args 0 [.ref 44, .int 1]) (am_cur_of (i := (133, 3, .invokevirtual 108, (29, 769, 3), 0)) (by decide +kernel)) rfl rfl rfl rfl hc_z
  obtain ⟨r492_z, h493_z, q494_z, hc_z⟩ := hc_z
  obtain ⟨rfl, yq494_z⟩ := rp_fail R.2.2.2.1 q494_z
  subst yq494_z
  replace hc_z : rn _ _ _ _ [] _ _ _ := hc_z
  have K := rs_stick (w := 1) (a := 26) (by decide) (by decide) rfl (by decide) rfl rfl hc_z
  replace hm_z := rn_aload_n (am_cur_of (i := (0, 1, .aload_n 0, (0, 0, 0), 0)) (by decide +kernel)) g0m hm_z
  replace hm_z := rn_getI (v := 1) (am_cur_of (i := (1, 3, .getfield 157, (12, 8, 1392), 0)) (by decide +kernel)) (by decide +kernel) kc hm_z
  replace hm_z := rn_iconst (w := 1) (am_cur_of (i := (4, 1, .iconst 1, (0, 0, 0), 0)) (by decide +kernel)) (by decide) hm_z
  replace hm_z := rn_cmpF (am_cur_of (i := (5, 3, .if_icmp .ne 12, (8, 0, 0), 0)) (by decide +kernel)) (by decide) hm_z
  replace hm_z := rn_aload_n (am_cur_of (i := (8, 1, .aload_n 0, (0, 0, 0), 0)) (by decide +kernel)) g0m hm_z
  replace hm_z := rn_getI (v := 17) (am_cur_of (i := (9, 3, .getfield 168, (12, 9, 1393), 0)) (by decide +kernel)) (by decide +kernel) kd hm_z
  replace hm_z := rn_bipush (w := 8) (am_cur_of (i := (12, 2, .bipush 8, (0, 0, 0), 0)) (by decide +kernel)) (by decide) hm_z
  replace hm_z := rn_cmpF (am_cur_of (i := (14, 3, .if_icmp .le 9, (12, 0, 0), 0)) (by decide +kernel)) (by decide) hm_z
  replace hm_z := rn_aload_n (am_cur_of (i := (17, 1, .aload_n 0, (0, 0, 0), 0)) (by decide +kernel)) g0m hm_z
  replace hm_z := rn_iconst (w := 1) (am_cur_of (i := (18, 1, .iconst 1, (0, 0, 0), 0)) (by decide +kernel)) (by decide) hm_z
  replace hm_z := rn_callV (M' := am_m158) (o := 164) (ar := [.int 1]) (rest := []) (L := lv_args 0 [.ref 164, .int 1]) (am_cur_of (i := (19, 3, .invokevirtual 181, (158, 1665, 3), 0)) (by decide +kernel)) rfl rfl rfl rfl hm_z
  obtain ⟨r495_z, h496_z, q497_z, hm_z⟩ := hm_z
  obtain ⟨rfl, yq497_z⟩ := rp_wrong q497_z
  subst yq497_z
  replace hm_z : rn _ _ _ _ [.int 0] _ _ _ := hm_z
  replace hm_z := rn_iret (am_cur_of (i := (22, 1, .ireturn, (0, 0, 0), 0)) (by decide +kernel)) hm_z
  obtain ⟨e498_z, e499_z⟩ := hm_z
  subst e498_z e499_z
  exact Or.inr (Or.inl ⟨rfl, _, 1, by decide, K.1, K.2.trans R5, rfl, R6⟩)
theorem pm_k15_2 {T : Nat → Int32} {S x p : Int32} {n n' : Nat} {h h' g g' : am_H} {r r' : Option Value} (R : rq T S x p 2 h g) (A : rp 2 h g) (B : rp_t h g) (ka : rg_v h 44 10 = 2) (kb : rg_v h 44 11 = 15) (kc : rg_v g 164 8 = 1) (kd : rg_v g 164 9 = 18) (hc_z : rn n am_m26 0 (lv_args 0 [.ref 44]) [] h r h') (hm_z : rn n' am_m157 0 (lv_args 0 [.ref 164]) [] g r' g') : pm_Q T S x 2 h' g' r' := by
  have g0_z : am_get (lv_args 0 [.ref 44]) 0 = some (.ref 44) := rfl
  have g0m : am_get (lv_args 0 [.ref 164]) 0 = some (.ref 164) := rfl
  have R5 := R.2.2.2.2.1
  have R6 := R.2.2.2.2.2.1
  replace hc_z := rn_aload_n (am_cur_of (i := (0, 1, .aload_n 0, (0, 0, 0), 0)) (by decide +kernel)) g0_z hc_z
  replace hc_z := rn_getI (v := 2) (am_cur_of (i := (1, 3, .getfield 60, (4, 10, 419), 0)) (by decide +kernel)) (by decide +kernel) ka hc_z
  replace hc_z := rn_iconst (w := 2) (am_cur_of (i := (4, 1, .iconst 2, (0, 0, 0), 0)) (by decide +kernel)) (by decide) hc_z
  replace hc_z := rn_cmpF (am_cur_of (i := (5, 3, .if_icmp .ne 10, (7, 0, 0), 0)) (by decide +kernel)) (by decide) hc_z
  replace hc_z := rn_aload_n (am_cur_of (i := (8, 1, .aload_n 0, (0, 0, 0), 0)) (by decide +kernel)) g0_z hc_z
  replace hc_z := rn_getI (v := 15) (am_cur_of (i := (9, 3, .getfield 91, (4, 11, 420), 0)) (by decide +kernel)) (by decide +kernel) kb hc_z
  replace hc_z := rn_goto (am_cur_of (i := (12, 3, .goto 4, (8, 0, 0), 0)) (by decide +kernel)) hc_z
  replace hc_z := rn_swO (a := 36) (am_cur_of (i := (16, 52, .tableswitch 115 0 8 #[52, 59, 66, 73, 80, 87, 94, 101, 108], (0, 0, 0), 0)) (by decide +kernel)) (by decide) (by decide +kernel) hc_z
  replace hc_z := rn_aload_n (am_cur_of (i := (131, 1, .aload_n 0, (0, 0, 0), 0)) (by decide +kernel)) g0_z hc_z
  replace hc_z := rn_iconst (w := 1) (am_cur_of (i := (132, 1, .iconst 1, (0, 0, 0), 0)) (by decide +kernel)) (by decide) hc_z
  replace hc_z := rn_callV (M' := am_m29) (o := 44) (ar := [.int 1]) (rest := []) (L := lv_args 0 [.ref 44, .int 1]) (am_cur_of (i := (133, 3, .invokevirtual 108, (29, 769, 3), 0)) (by decide +kernel)) rfl rfl rfl rfl hc_z
  obtain ⟨r500_z, h501_z, q502_z, hc_z⟩ := hc_z
  obtain ⟨rfl, yq502_z⟩ := rp_fail R.2.2.2.1 q502_z
  subst yq502_z
  replace hc_z : rn _ _ _ _ [] _ _ _ := hc_z
  have K := rs_stick (w := 1) (a := 26) (by decide) (by decide) rfl (by decide) rfl rfl hc_z
  replace hm_z := rn_aload_n (am_cur_of (i := (0, 1, .aload_n 0, (0, 0, 0), 0)) (by decide +kernel)) g0m hm_z
  replace hm_z := rn_getI (v := 1) (am_cur_of (i := (1, 3, .getfield 157, (12, 8, 1392), 0)) (by decide +kernel)) (by decide +kernel) kc hm_z
  replace hm_z := rn_iconst (w := 1) (am_cur_of (i := (4, 1, .iconst 1, (0, 0, 0), 0)) (by decide +kernel)) (by decide) hm_z
  replace hm_z := rn_cmpF (am_cur_of (i := (5, 3, .if_icmp .ne 12, (8, 0, 0), 0)) (by decide +kernel)) (by decide) hm_z
  replace hm_z := rn_aload_n (am_cur_of (i := (8, 1, .aload_n 0, (0, 0, 0), 0)) (by decide +kernel)) g0m hm_z
  replace hm_z := rn_getI (v := 18) (am_cur_of (i := (9, 3, .getfield 168, (12, 9, 1393), 0)) (by decide +kernel)) (by decide +kernel) kd hm_z
  replace hm_z := rn_bipush (w := 8) (am_cur_of (i := (12, 2, .bipush 8, (0, 0, 0), 0)) (by decide +kernel)) (by decide) hm_z
  replace hm_z := rn_cmpF (am_cur_of (i := (14, 3, .if_icmp .le 9, (12, 0, 0), 0)) (by decide +kernel)) (by decide) hm_z
  replace hm_z := rn_aload_n (am_cur_of (i := (17, 1, .aload_n 0, (0, 0, 0), 0)) (by decide +kernel)) g0m hm_z
  replace hm_z := rn_iconst (w := 1) (am_cur_of (i := (18, 1, .iconst 1, (0, 0, 0), 0)) (by decide +kernel)) (by decide) hm_z
  replace hm_z := rn_callV (M' := am_m158) (o := 164) (ar := [.int 1]) (rest := []) (L := lv_args 0 [.ref 164, .int 1]) (am_cur_of (i := (19, 3, .invokevirtual 181, (158, 1665, 3), 0)) (by decide +kernel)) rfl rfl rfl rfl hm_z
  obtain ⟨r503_z, h504_z, q505_z, hm_z⟩ := hm_z
  obtain ⟨rfl, yq505_z⟩ := rp_wrong q505_z
  subst yq505_z
  replace hm_z : rn _ _ _ _ [.int 0] _ _ _ := hm_z
  replace hm_z := rn_iret (am_cur_of (i := (22, 1, .ireturn, (0, 0, 0), 0)) (by decide +kernel)) hm_z
  obtain ⟨e506_z, e507_z⟩ := hm_z
  subst e506_z e507_z
  exact Or.inr (Or.inl ⟨rfl, _, 1, by decide, K.1, K.2.trans R5, rfl, R6⟩)
theorem pm_k16_2 {T : Nat → Int32} {S x p : Int32} {n n' : Nat} {h h' g g' : am_H} {r r' : Option Value} (R : rq T S x p 2 h g) (A : rp 2 h g) (B : rp_t h g) (ka : rg_v h 44 10 = 2) (kb : rg_v h 44 11 = 16) (kc : rg_v g 164 8 = 1) (kd : rg_v g 164 9 = 19) (hc_z : rn n am_m26 0 (lv_args 0 [.ref 44]) [] h r h') (hm_z : rn n' am_m157 0 (lv_args 0 [.ref 164]) [] g r' g') : pm_Q T S x 2 h' g' r' := by
  have g0_z : am_get (lv_args 0 [.ref 44]) 0 = some (.ref 44) := rfl
  have g0m : am_get (lv_args 0 [.ref 164]) 0 = some (.ref 164) := rfl
  have R5 := R.2.2.2.2.1
  have R6 := R.2.2.2.2.2.1
  replace hc_z := rn_aload_n (am_cur_of (i := (0, 1, .aload_n 0, (0, 0, 0), 0)) (by decide +kernel)) g0_z hc_z
  replace hc_z := rn_getI (v := 2) (am_cur_of (i := (1, 3, .getfield 60, (4, 10, 419), 0)) (by decide +kernel)) (by decide +kernel) ka hc_z
  replace hc_z := rn_iconst (w := 2) (am_cur_of (i := (4, 1, .iconst 2, (0, 0, 0), 0)) (by decide +kernel)) (by decide) hc_z
  replace hc_z := rn_cmpF (am_cur_of (i := (5, 3, .if_icmp .ne 10, (7, 0, 0), 0)) (by decide +kernel)) (by decide) hc_z
  replace hc_z := rn_aload_n (am_cur_of (i := (8, 1, .aload_n 0, (0, 0, 0), 0)) (by decide +kernel)) g0_z hc_z
  replace hc_z := rn_getI (v := 16) (am_cur_of (i := (9, 3, .getfield 91, (4, 11, 420), 0)) (by decide +kernel)) (by decide +kernel) kb hc_z
  replace hc_z := rn_goto (am_cur_of (i := (12, 3, .goto 4, (8, 0, 0), 0)) (by decide +kernel)) hc_z
  replace hc_z := rn_swO (a := 36) (am_cur_of (i := (16, 52, .tableswitch 115 0 8 #[52, 59, 66, 73, 80, 87, 94, 101, 108], (0, 0, 0), 0)) (by decide +kernel)) (by decide) (by decide +kernel) hc_z
  replace hc_z := rn_aload_n (am_cur_of (i := (131, 1, .aload_n 0, (0, 0, 0), 0)) (by decide +kernel)) g0_z hc_z
  replace hc_z := rn_iconst (w := 1) (am_cur_of (i := (132, 1, .iconst 1, (0, 0, 0), 0)) (by decide +kernel)) (by decide) hc_z
  replace hc_z := rn_callV (M' := am_m29) (o := 44) (ar := [.int 1]) (rest := []) (L := lv_args 0 [.ref 44, .int 1]) (am_cur_of (i := (133, 3, .invokevirtual 108, (29, 769, 3), 0)) (by decide +kernel)) rfl rfl rfl rfl hc_z
  obtain ⟨r508_z, h509_z, q510_z, hc_z⟩ := hc_z
  obtain ⟨rfl, yq510_z⟩ := rp_fail R.2.2.2.1 q510_z
  subst yq510_z
  replace hc_z : rn _ _ _ _ [] _ _ _ := hc_z
  have K := rs_stick (w := 1) (a := 26) (by decide) (by decide) rfl (by decide) rfl rfl hc_z
  replace hm_z := rn_aload_n (am_cur_of (i := (0, 1, .aload_n 0, (0, 0, 0), 0)) (by decide +kernel)) g0m hm_z
  replace hm_z := rn_getI (v := 1) (am_cur_of (i := (1, 3, .getfield 157, (12, 8, 1392), 0)) (by decide +kernel)) (by decide +kernel) kc hm_z
  replace hm_z := rn_iconst (w := 1) (am_cur_of (i := (4, 1, .iconst 1, (0, 0, 0), 0)) (by decide +kernel)) (by decide) hm_z
  replace hm_z := rn_cmpF (am_cur_of (i := (5, 3, .if_icmp .ne 12, (8, 0, 0), 0)) (by decide +kernel)) (by decide) hm_z
  replace hm_z := rn_aload_n (am_cur_of (i := (8, 1, .aload_n 0, (0, 0, 0), 0)) (by decide +kernel)) g0m hm_z
  replace hm_z := rn_getI (v := 19) (am_cur_of (i := (9, 3, .getfield 168, (12, 9, 1393), 0)) (by decide +kernel)) (by decide +kernel) kd hm_z
  replace hm_z := rn_bipush (w := 8) (am_cur_of (i := (12, 2, .bipush 8, (0, 0, 0), 0)) (by decide +kernel)) (by decide) hm_z
  replace hm_z := rn_cmpF (am_cur_of (i := (14, 3, .if_icmp .le 9, (12, 0, 0), 0)) (by decide +kernel)) (by decide) hm_z
  replace hm_z := rn_aload_n (am_cur_of (i := (17, 1, .aload_n 0, (0, 0, 0), 0)) (by decide +kernel)) g0m hm_z
  replace hm_z := rn_iconst (w := 1) (am_cur_of (i := (18, 1, .iconst 1, (0, 0, 0), 0)) (by decide +kernel)) (by decide) hm_z
  replace hm_z := rn_callV (M' := am_m158) (o := 164) (ar := [.int 1]) (rest := []) (L := lv_args 0 [.ref 164, .int 1]) (am_cur_of (i := (19, 3, .invokevirtual 181, (158, 1665, 3), 0)) (by decide +kernel)) rfl rfl rfl rfl hm_z
  obtain ⟨r511_z, h512_z, q513_z, hm_z⟩ := hm_z
  obtain ⟨rfl, yq513_z⟩ := rp_wrong q513_z
  subst yq513_z
  replace hm_z : rn _ _ _ _ [.int 0] _ _ _ := hm_z
  replace hm_z := rn_iret (am_cur_of (i := (22, 1, .ireturn, (0, 0, 0), 0)) (by decide +kernel)) hm_z
  obtain ⟨e514_z, e515_z⟩ := hm_z
  subst e514_z e515_z
  exact Or.inr (Or.inl ⟨rfl, _, 1, by decide, K.1, K.2.trans R5, rfl, R6⟩)
theorem pm_all2 {T : Nat → Int32} {S x p : Int32} {n n' : Nat} {h h' g g' : am_H} {r r' : Option Value} (R : rq T S x p 2 h g) (A : rp 2 h g) (B : rp_t h g) (hc_z : rn n am_m26 0 (lv_args 0 [.ref 44]) [] h r h') (hm_z : rn n' am_m157 0 (lv_args 0 [.ref 164]) [] g r' g') : pm_Q T S x 2 h' g' r' := by
  by_cases ka : rg_v h 44 10 = 2
  · rcases tk_w17 R.2.2.2.2.2.2.2.2.2 ka with ⟨kb, kc, kd⟩ | ⟨kb, kc, kd⟩ | ⟨kb, kc, kd⟩ | ⟨kb, kc, kd⟩ | ⟨kb, kc, kd⟩ | ⟨kb, kc, kd⟩ | ⟨kb, kc, kd⟩ | ⟨kb, kc, kd⟩ | ⟨kb, kc, kd⟩ | ⟨kb, kc, kd⟩ | ⟨kb, kc, kd⟩ | ⟨kb, kc, kd⟩ | ⟨kb, kc, kd⟩ | ⟨kb, kc, kd⟩ | ⟨kb, kc, kd⟩ | ⟨kb, kc, kd⟩ | ⟨kb, kc, kd⟩
    · exact pm_k0_2 R A B ka kb kc kd hc_z hm_z
    · exact pm_k1_2 R A B ka kb kc kd hc_z hm_z
    · exact pm_k2_2 R A B ka kb kc kd hc_z hm_z
    · exact pm_k3_2 R A B ka kb kc kd hc_z hm_z
    · exact pm_k4_2 R A B ka kb kc kd hc_z hm_z
    · exact pm_k5_2 R A B ka kb kc kd hc_z hm_z
    · exact pm_k6_2 R A B ka kb kc kd hc_z hm_z
    · exact pm_k7_2 R A B ka kb kc kd hc_z hm_z
    · exact pm_k8_2 R A B ka kb kc kd hc_z hm_z
    · exact pm_k9_2 R A B ka kb kc kd hc_z hm_z
    · exact pm_k10_2 R A B ka kb kc kd hc_z hm_z
    · exact pm_k11_2 R A B ka kb kc kd hc_z hm_z
    · exact pm_k12_2 R A B ka kb kc kd hc_z hm_z
    · exact pm_k13_2 R A B ka kb kc kd hc_z hm_z
    · exact pm_k14_2 R A B ka kb kc kd hc_z hm_z
    · exact pm_k15_2 R A B ka kb kc kd hc_z hm_z
    · exact pm_k16_2 R A B ka kb kc kd hc_z hm_z
  · exact pm_kn_2 R A B ka hc_z hm_z
theorem pm_kn_23 {T : Nat → Int32} {S x p : Int32} {n n' : Nat} {h h' g g' : am_H} {r r' : Option Value} (R : rq T S x p 23 h g) (A : rp 23 h g) (B : rp_t h g) (ka : ¬ rg_v h 44 10 = 2) (hc_z : rn n am_m26 0 (lv_args 0 [.ref 44]) [] h r h') (hm_z : rn n' am_m157 0 (lv_args 0 [.ref 164]) [] g r' g') : pm_Q T S x 23 h' g' r' := by
  have z1_z : (1 : Int32).toInt = 1 := by decide
  have z2_z : (2 : Int32).toInt = 2 := by decide
  have z8_z : (8 : Int32).toInt = 8 := by decide
  have g0_z : am_get (lv_args 0 [.ref 44]) 0 = some (.ref 44) := rfl
  have g0m : am_get (lv_args 0 [.ref 164]) 0 = some (.ref 164) := rfl
  have R5 := R.2.2.2.2.1
  have R6 := R.2.2.2.2.2.1
  replace hc_z := rn_aload_n (am_cur_of (i := (0, 1, .aload_n 0, (0, 0, 0), 0)) (by decide +kernel)) g0_z hc_z
  replace hc_z := rn_getI (v := rg_v h 44 10) (am_cur_of (i := (1, 3, .getfield 60, (4, 10, 419), 0)) (by decide +kernel)) (by decide +kernel) rfl hc_z
  replace hc_z := rn_iconst (w := 2) (am_cur_of (i := (4, 1, .iconst 2, (0, 0, 0), 0)) (by decide +kernel)) (by decide) hc_z
  replace hc_z := rn_cmp (am_cur_of (i := (5, 3, .if_icmp .ne 10, (7, 0, 0), 0)) (by decide +kernel)) hc_z
  rcases hc_z with ⟨b516_z, hc_z⟩ | ⟨b516_z, hc_z⟩
  · replace b516_z : ¬ (rg_v h 44 10) = (2 : Int32) ∧ ¬ (rg_v h 44 10).toInt = (2 : Int32).toInt := b516_z
    replace hc_z := rn_iconst (w := (-1)) (am_cur_of (i := (15, 1, .iconst (-1), (0, 0, 0), 0)) (by decide +kernel)) (by decide) hc_z
    replace hc_z := rn_swO (a := 36) (am_cur_of (i := (16, 52, .tableswitch 115 0 8 #[52, 59, 66, 73, 80, 87, 94, 101, 108], (0, 0, 0), 0)) (by decide +kernel)) (by decide) (by decide +kernel) hc_z
    replace hc_z := rn_aload_n (am_cur_of (i := (131, 1, .aload_n 0, (0, 0, 0), 0)) (by decide +kernel)) g0_z hc_z
    replace hc_z := rn_iconst (w := 1) (am_cur_of (i := (132, 1, .iconst 1, (0, 0, 0), 0)) (by decide +kernel)) (by decide) hc_z
    replace hc_z := rn_callV (M' := am_m29) (o := 44) (ar := [.int 1]) (rest := []) (L := lv_args 0 [.ref 44, .int 1]) (am_cur_of (i := (133, 3, .invokevirtual 108, (29, 769, 3), 0)) (by decide +kernel)) rfl rfl rfl rfl hc_z
    obtain ⟨r517_z, h518_z, q519_z, hc_z⟩ := hc_z
    obtain ⟨rfl, yq519_z⟩ := rp_fail R.2.2.2.1 q519_z
    subst yq519_z
    replace hc_z : rn _ _ _ _ [] _ _ _ := hc_z
    have K := rs_stick (w := 1) (a := 26) (by decide) (by decide) rfl (by decide) rfl rfl hc_z
    replace hm_z := rn_aload_n (am_cur_of (i := (0, 1, .aload_n 0, (0, 0, 0), 0)) (by decide +kernel)) g0m hm_z
    replace hm_z := rn_getI (v := rg_v g 164 8) (am_cur_of (i := (1, 3, .getfield 157, (12, 8, 1392), 0)) (by decide +kernel)) (by decide +kernel) rfl hm_z
    replace hm_z := rn_iconst (w := 1) (am_cur_of (i := (4, 1, .iconst 1, (0, 0, 0), 0)) (by decide +kernel)) (by decide) hm_z
    replace hm_z := rn_cmp (am_cur_of (i := (5, 3, .if_icmp .ne 12, (8, 0, 0), 0)) (by decide +kernel)) hm_z
    rcases hm_z with ⟨b520_z, hm_z⟩ | ⟨b520_z, hm_z⟩
    · replace b520_z : ¬ (rg_v g 164 8) = (1 : Int32) ∧ ¬ (rg_v g 164 8).toInt = (1 : Int32).toInt := b520_z
      replace hm_z := rn_aload_n (am_cur_of (i := (17, 1, .aload_n 0, (0, 0, 0), 0)) (by decide +kernel)) g0m hm_z
      replace hm_z := rn_iconst (w := 1) (am_cur_of (i := (18, 1, .iconst 1, (0, 0, 0), 0)) (by decide +kernel)) (by decide) hm_z
      replace hm_z := rn_callV (M' := am_m158) (o := 164) (ar := [.int 1]) (rest := []) (L := lv_args 0 [.ref 164, .int 1]) (am_cur_of (i := (19, 3, .invokevirtual 181, (158, 1665, 3), 0)) (by decide +kernel)) rfl rfl rfl rfl hm_z
      obtain ⟨r521_z, h522_z, q523_z, hm_z⟩ := hm_z
      obtain ⟨rfl, yq523_z⟩ := rp_wrong q523_z
      subst yq523_z
      replace hm_z : rn _ _ _ _ [.int 0] _ _ _ := hm_z
      replace hm_z := rn_iret (am_cur_of (i := (22, 1, .ireturn, (0, 0, 0), 0)) (by decide +kernel)) hm_z
      obtain ⟨e524_z, e525_z⟩ := hm_z
      subst e524_z e525_z
      exact Or.inr (Or.inl ⟨rfl, _, 1, by decide, K.1, K.2.trans R5, rfl, R6⟩)
    · replace b520_z : (rg_v g 164 8) = (1 : Int32) ∧ (rg_v g 164 8).toInt = (1 : Int32).toInt := b520_z
      have k11_z := tk_nw R.2.2.2.2.2.2.2.2.2 ka b520_z.1
      replace hm_z := rn_aload_n (am_cur_of (i := (8, 1, .aload_n 0, (0, 0, 0), 0)) (by decide +kernel)) g0m hm_z
      replace hm_z := rn_getI (v := rg_v g 164 9) (am_cur_of (i := (9, 3, .getfield 168, (12, 9, 1393), 0)) (by decide +kernel)) (by decide +kernel) rfl hm_z
      replace hm_z := rn_bipush (w := 8) (am_cur_of (i := (12, 2, .bipush 8, (0, 0, 0), 0)) (by decide +kernel)) (by decide) hm_z
      replace hm_z := rn_cmp (am_cur_of (i := (14, 3, .if_icmp .le 9, (12, 0, 0), 0)) (by decide +kernel)) hm_z
      rcases hm_z with ⟨b526_z, hm_z⟩ | ⟨b526_z, hm_z⟩
      · replace b526_z : (rg_v g 164 9).toInt ≤ (8 : Int32).toInt := b526_z
        omega
      · replace b526_z : (8 : Int32).toInt < (rg_v g 164 9).toInt := b526_z
        replace hm_z := rn_aload_n (am_cur_of (i := (17, 1, .aload_n 0, (0, 0, 0), 0)) (by decide +kernel)) g0m hm_z
        replace hm_z := rn_iconst (w := 1) (am_cur_of (i := (18, 1, .iconst 1, (0, 0, 0), 0)) (by decide +kernel)) (by decide) hm_z
        replace hm_z := rn_callV (M' := am_m158) (o := 164) (ar := [.int 1]) (rest := []) (L := lv_args 0 [.ref 164, .int 1]) (am_cur_of (i := (19, 3, .invokevirtual 181, (158, 1665, 3), 0)) (by decide +kernel)) rfl rfl rfl rfl hm_z
        obtain ⟨r527_z, h528_z, q529_z, hm_z⟩ := hm_z
        obtain ⟨rfl, yq529_z⟩ := rp_wrong q529_z
        subst yq529_z
        replace hm_z : rn _ _ _ _ [.int 0] _ _ _ := hm_z
        replace hm_z := rn_iret (am_cur_of (i := (22, 1, .ireturn, (0, 0, 0), 0)) (by decide +kernel)) hm_z
        obtain ⟨e530_z, e531_z⟩ := hm_z
        subst e530_z e531_z
        exact Or.inr (Or.inl ⟨rfl, _, 1, by decide, K.1, K.2.trans R5, rfl, R6⟩)
  · replace b516_z : (rg_v h 44 10) = (2 : Int32) ∧ (rg_v h 44 10).toInt = (2 : Int32).toInt := b516_z
    exact absurd b516_z.1 ka
theorem pm_k0_23 {T : Nat → Int32} {S x p : Int32} {n n' : Nat} {h h' g g' : am_H} {r r' : Option Value} (R : rq T S x p 23 h g) (A : rp 23 h g) (B : rp_t h g) (ka : rg_v h 44 10 = 2) (kb : rg_v h 44 11 = 0) (kc : rg_v g 164 8 = 1) (kd : rg_v g 164 9 = 0) (hc_z : rn n am_m26 0 (lv_args 0 [.ref 44]) [] h r h') (hm_z : rn n' am_m157 0 (lv_args 0 [.ref 164]) [] g r' g') : pm_Q T S x 23 h' g' r' := by
  have g0_z : am_get (lv_args 0 [.ref 44]) 0 = some (.ref 44) := rfl
  have g0m : am_get (lv_args 0 [.ref 164]) 0 = some (.ref 164) := rfl
  have R5 := R.2.2.2.2.1
  have R6 := R.2.2.2.2.2.1
  replace hc_z := rn_aload_n (am_cur_of (i := (0, 1, .aload_n 0, (0, 0, 0), 0)) (by decide +kernel)) g0_z hc_z
  replace hc_z := rn_getI (v := 2) (am_cur_of (i := (1, 3, .getfield 60, (4, 10, 419), 0)) (by decide +kernel)) (by decide +kernel) ka hc_z
  replace hc_z := rn_iconst (w := 2) (am_cur_of (i := (4, 1, .iconst 2, (0, 0, 0), 0)) (by decide +kernel)) (by decide) hc_z
  replace hc_z := rn_cmpF (am_cur_of (i := (5, 3, .if_icmp .ne 10, (7, 0, 0), 0)) (by decide +kernel)) (by decide) hc_z
  replace hc_z := rn_aload_n (am_cur_of (i := (8, 1, .aload_n 0, (0, 0, 0), 0)) (by decide +kernel)) g0_z hc_z
  replace hc_z := rn_getI (v := 0) (am_cur_of (i := (9, 3, .getfield 91, (4, 11, 420), 0)) (by decide +kernel)) (by decide +kernel) kb hc_z
  replace hc_z := rn_goto (am_cur_of (i := (12, 3, .goto 4, (8, 0, 0), 0)) (by decide +kernel)) hc_z
  replace hc_z := rn_swI (off := 52) (a := 9) (am_cur_of (i := (16, 52, .tableswitch 115 0 8 #[52, 59, 66, 73, 80, 87, 94, 101, 108], (0, 0, 0), 0)) (by decide +kernel)) (by decide) (by decide) (by decide +kernel) hc_z
  replace hc_z := rn_aload_n (am_cur_of (i := (68, 1, .aload_n 0, (0, 0, 0), 0)) (by decide +kernel)) g0_z hc_z
  replace hc_z := rn_callV (M' := am_m27) (o := 44) (ar := []) (rest := []) (L := lv_args 0 [.ref 44]) (am_cur_of (i := (69, 3, .invokevirtual 112, (27, 761, 3), 0)) (by decide +kernel)) rfl rfl rfl rfl hc_z
  obtain ⟨r532_z, h533_z, q534_z, hc_z⟩ := hc_z
  have vo := rn_void rfl q534_z
  subst vo
  replace hc_z : rn _ _ _ _ [] _ _ _ := hc_z
  replace hc_z := rn_goto (am_cur_of (i := (72, 3, .goto 64, (39, 0, 0), 0)) (by decide +kernel)) hc_z
  replace hc_z := rn_vret (am_cur_of (i := (136, 1, .return_, (0, 0, 0), 0)) (by decide +kernel)) hc_z
  obtain ⟨e535_z, e536_z⟩ := hc_z
  replace e536_z := e536_z.symm
  subst e536_z
  replace hm_z := rn_aload_n (am_cur_of (i := (0, 1, .aload_n 0, (0, 0, 0), 0)) (by decide +kernel)) g0m hm_z
  replace hm_z := rn_getI (v := 1) (am_cur_of (i := (1, 3, .getfield 157, (12, 8, 1392), 0)) (by decide +kernel)) (by decide +kernel) kc hm_z
  replace hm_z := rn_iconst (w := 1) (am_cur_of (i := (4, 1, .iconst 1, (0, 0, 0), 0)) (by decide +kernel)) (by decide) hm_z
  replace hm_z := rn_cmpF (am_cur_of (i := (5, 3, .if_icmp .ne 12, (8, 0, 0), 0)) (by decide +kernel)) (by decide) hm_z
  replace hm_z := rn_aload_n (am_cur_of (i := (8, 1, .aload_n 0, (0, 0, 0), 0)) (by decide +kernel)) g0m hm_z
  replace hm_z := rn_getI (v := 0) (am_cur_of (i := (9, 3, .getfield 168, (12, 9, 1393), 0)) (by decide +kernel)) (by decide +kernel) kd hm_z
  replace hm_z := rn_bipush (w := 8) (am_cur_of (i := (12, 2, .bipush 8, (0, 0, 0), 0)) (by decide +kernel)) (by decide) hm_z
  replace hm_z := rn_cmpT (am_cur_of (i := (14, 3, .if_icmp .le 9, (12, 0, 0), 0)) (by decide +kernel)) (by decide) hm_z
  replace hm_z := rn_aload_n (am_cur_of (i := (23, 1, .aload_n 0, (0, 0, 0), 0)) (by decide +kernel)) g0m hm_z
  replace hm_z := rn_getI (v := 0) (am_cur_of (i := (24, 3, .getfield 168, (12, 9, 1393), 0)) (by decide +kernel)) (by decide +kernel) kd hm_z
  replace hm_z := rn_swI (off := 45) (a := 15) (am_cur_of (i := (27, 45, .tableswitch 178 0 7 #[45, 53, 61, 69, 77, 85, 93, 136], (0, 0, 0), 0)) (by decide +kernel)) (by decide) (by decide) (by decide +kernel) hm_z
  replace hm_z := rn_aload_n (am_cur_of (i := (72, 1, .aload_n 0, (0, 0, 0), 0)) (by decide +kernel)) g0m hm_z
  replace hm_z := rn_callV (M' := am_m159) (o := 164) (ar := []) (rest := []) (L := lv_args 0 [.ref 164]) (am_cur_of (i := (73, 3, .invokevirtual 252, (159, 1669, 3), 0)) (by decide +kernel)) rfl rfl rfl rfl hm_z
  obtain ⟨r537_z, h538_z, q539_z, hm_z⟩ := hm_z
  rcases pl_bed23 R A B q534_z q539_z with ⟨rfl, x2_z, p2_z, R2, le2_z, A2, B2⟩ | ⟨rfl, FF⟩
  · replace hm_z : rn _ _ _ _ [.int 1] _ _ _ := hm_z
    replace hm_z := rn_istore_n (am_cur_of (i := (76, 1, .istore_n 1, (0, 0, 0), 0)) (by decide +kernel)) hm_z
    obtain ⟨_, s540_z, s541_z, g1m, hm_z⟩ := hm_z
    replace g0m := s540_z 0 _ (by decide) rfl g0m
    clear s540_z s541_z
    replace hm_z := rn_goto (am_cur_of (i := (77, 3, .goto 225, (139, 0, 0), 0)) (by decide +kernel)) hm_z
    exact Or.inl ⟨x2_z, p2_z, _, _, _, R2, le2_z, A2, B2, g0m, g1m, hm_z⟩
  · replace hm_z : rn _ _ _ _ [.int 0] _ _ _ := hm_z
    replace hm_z := rn_istore_n (am_cur_of (i := (76, 1, .istore_n 1, (0, 0, 0), 0)) (by decide +kernel)) hm_z
    obtain ⟨_, s542_z, s543_z, g1m, hm_z⟩ := hm_z
    replace g0m := s542_z 0 _ (by decide) rfl g0m
    clear s542_z s543_z
    replace hm_z := rn_goto (am_cur_of (i := (77, 3, .goto 225, (139, 0, 0), 0)) (by decide +kernel)) hm_z
    replace hm_z := rn_iload_n (am_cur_of (i := (302, 1, .iload_n 1, (0, 0, 0), 0)) (by decide +kernel)) g1m hm_z
    replace hm_z := rn_ifF (am_cur_of (i := (303, 3, .ifCond .ne 5, (143, 0, 0), 0)) (by decide +kernel)) (by decide) hm_z
    replace hm_z := rn_iconst (w := 0) (am_cur_of (i := (306, 1, .iconst 0, (0, 0, 0), 0)) (by decide +kernel)) (by decide) hm_z
    replace hm_z := rn_iret (am_cur_of (i := (307, 1, .ireturn, (0, 0, 0), 0)) (by decide +kernel)) hm_z
    obtain ⟨e544_z, e545_z⟩ := hm_z
    subst e544_z e545_z
    exact Or.inr (Or.inl ⟨rfl, FF⟩)
theorem pm_k1_23 {T : Nat → Int32} {S x p : Int32} {n n' : Nat} {h h' g g' : am_H} {r r' : Option Value} (R : rq T S x p 23 h g) (A : rp 23 h g) (B : rp_t h g) (ka : rg_v h 44 10 = 2) (kb : rg_v h 44 11 = 1) (kc : rg_v g 164 8 = 1) (kd : rg_v g 164 9 = 1) (hc_z : rn n am_m26 0 (lv_args 0 [.ref 44]) [] h r h') (hm_z : rn n' am_m157 0 (lv_args 0 [.ref 164]) [] g r' g') : pm_Q T S x 23 h' g' r' := by
  have g0_z : am_get (lv_args 0 [.ref 44]) 0 = some (.ref 44) := rfl
  have g0m : am_get (lv_args 0 [.ref 164]) 0 = some (.ref 164) := rfl
  have R5 := R.2.2.2.2.1
  have R6 := R.2.2.2.2.2.1
  replace hc_z := rn_aload_n (am_cur_of (i := (0, 1, .aload_n 0, (0, 0, 0), 0)) (by decide +kernel)) g0_z hc_z
  replace hc_z := rn_getI (v := 2) (am_cur_of (i := (1, 3, .getfield 60, (4, 10, 419), 0)) (by decide +kernel)) (by decide +kernel) ka hc_z
  replace hc_z := rn_iconst (w := 2) (am_cur_of (i := (4, 1, .iconst 2, (0, 0, 0), 0)) (by decide +kernel)) (by decide) hc_z
  replace hc_z := rn_cmpF (am_cur_of (i := (5, 3, .if_icmp .ne 10, (7, 0, 0), 0)) (by decide +kernel)) (by decide) hc_z
  replace hc_z := rn_aload_n (am_cur_of (i := (8, 1, .aload_n 0, (0, 0, 0), 0)) (by decide +kernel)) g0_z hc_z
  replace hc_z := rn_getI (v := 1) (am_cur_of (i := (9, 3, .getfield 91, (4, 11, 420), 0)) (by decide +kernel)) (by decide +kernel) kb hc_z
  replace hc_z := rn_goto (am_cur_of (i := (12, 3, .goto 4, (8, 0, 0), 0)) (by decide +kernel)) hc_z
  replace hc_z := rn_swI (off := 59) (a := 12) (am_cur_of (i := (16, 52, .tableswitch 115 0 8 #[52, 59, 66, 73, 80, 87, 94, 101, 108], (0, 0, 0), 0)) (by decide +kernel)) (by decide) (by decide) (by decide +kernel) hc_z
  replace hc_z := rn_aload_n (am_cur_of (i := (75, 1, .aload_n 0, (0, 0, 0), 0)) (by decide +kernel)) g0_z hc_z
  replace hc_z := rn_callV (M' := am_m31) (o := 44) (ar := []) (rest := []) (L := lv_args 0 [.ref 44]) (am_cur_of (i := (76, 3, .invokevirtual 115, (31, 777, 3), 0)) (by decide +kernel)) rfl rfl rfl rfl hc_z
  obtain ⟨r546_z, h547_z, q548_z, hc_z⟩ := hc_z
  have vo := rn_void rfl q548_z
  subst vo
  replace hc_z : rn _ _ _ _ [] _ _ _ := hc_z
  replace hc_z := rn_goto (am_cur_of (i := (79, 3, .goto 57, (39, 0, 0), 0)) (by decide +kernel)) hc_z
  replace hc_z := rn_vret (am_cur_of (i := (136, 1, .return_, (0, 0, 0), 0)) (by decide +kernel)) hc_z
  obtain ⟨e549_z, e550_z⟩ := hc_z
  replace e550_z := e550_z.symm
  subst e550_z
  replace hm_z := rn_aload_n (am_cur_of (i := (0, 1, .aload_n 0, (0, 0, 0), 0)) (by decide +kernel)) g0m hm_z
  replace hm_z := rn_getI (v := 1) (am_cur_of (i := (1, 3, .getfield 157, (12, 8, 1392), 0)) (by decide +kernel)) (by decide +kernel) kc hm_z
  replace hm_z := rn_iconst (w := 1) (am_cur_of (i := (4, 1, .iconst 1, (0, 0, 0), 0)) (by decide +kernel)) (by decide) hm_z
  replace hm_z := rn_cmpF (am_cur_of (i := (5, 3, .if_icmp .ne 12, (8, 0, 0), 0)) (by decide +kernel)) (by decide) hm_z
  replace hm_z := rn_aload_n (am_cur_of (i := (8, 1, .aload_n 0, (0, 0, 0), 0)) (by decide +kernel)) g0m hm_z
  replace hm_z := rn_getI (v := 1) (am_cur_of (i := (9, 3, .getfield 168, (12, 9, 1393), 0)) (by decide +kernel)) (by decide +kernel) kd hm_z
  replace hm_z := rn_bipush (w := 8) (am_cur_of (i := (12, 2, .bipush 8, (0, 0, 0), 0)) (by decide +kernel)) (by decide) hm_z
  replace hm_z := rn_cmpT (am_cur_of (i := (14, 3, .if_icmp .le 9, (12, 0, 0), 0)) (by decide +kernel)) (by decide) hm_z
  replace hm_z := rn_aload_n (am_cur_of (i := (23, 1, .aload_n 0, (0, 0, 0), 0)) (by decide +kernel)) g0m hm_z
  replace hm_z := rn_getI (v := 1) (am_cur_of (i := (24, 3, .getfield 168, (12, 9, 1393), 0)) (by decide +kernel)) (by decide +kernel) kd hm_z
  replace hm_z := rn_swI (off := 53) (a := 19) (am_cur_of (i := (27, 45, .tableswitch 178 0 7 #[45, 53, 61, 69, 77, 85, 93, 136], (0, 0, 0), 0)) (by decide +kernel)) (by decide) (by decide) (by decide +kernel) hm_z
  replace hm_z := rn_aload_n (am_cur_of (i := (80, 1, .aload_n 0, (0, 0, 0), 0)) (by decide +kernel)) g0m hm_z
  replace hm_z := rn_callV (M' := am_m163) (o := 164) (ar := []) (rest := []) (L := lv_args 0 [.ref 164]) (am_cur_of (i := (81, 3, .invokevirtual 256, (163, 1684, 3), 0)) (by decide +kernel)) rfl rfl rfl rfl hm_z
  obtain ⟨r551_z, h552_z, q553_z, hm_z⟩ := hm_z
  rcases pl_blower23 R A B q548_z q553_z with ⟨rfl, x2_z, p2_z, R2, le2_z, A2, B2⟩ | ⟨rfl, FF⟩
  · replace hm_z : rn _ _ _ _ [.int 1] _ _ _ := hm_z
    replace hm_z := rn_istore_n (am_cur_of (i := (84, 1, .istore_n 1, (0, 0, 0), 0)) (by decide +kernel)) hm_z
    obtain ⟨_, s554_z, s555_z, g1m, hm_z⟩ := hm_z
    replace g0m := s554_z 0 _ (by decide) rfl g0m
    clear s554_z s555_z
    replace hm_z := rn_goto (am_cur_of (i := (85, 3, .goto 217, (139, 0, 0), 0)) (by decide +kernel)) hm_z
    exact Or.inl ⟨x2_z, p2_z, _, _, _, R2, le2_z, A2, B2, g0m, g1m, hm_z⟩
  · replace hm_z : rn _ _ _ _ [.int 0] _ _ _ := hm_z
    replace hm_z := rn_istore_n (am_cur_of (i := (84, 1, .istore_n 1, (0, 0, 0), 0)) (by decide +kernel)) hm_z
    obtain ⟨_, s556_z, s557_z, g1m, hm_z⟩ := hm_z
    replace g0m := s556_z 0 _ (by decide) rfl g0m
    clear s556_z s557_z
    replace hm_z := rn_goto (am_cur_of (i := (85, 3, .goto 217, (139, 0, 0), 0)) (by decide +kernel)) hm_z
    replace hm_z := rn_iload_n (am_cur_of (i := (302, 1, .iload_n 1, (0, 0, 0), 0)) (by decide +kernel)) g1m hm_z
    replace hm_z := rn_ifF (am_cur_of (i := (303, 3, .ifCond .ne 5, (143, 0, 0), 0)) (by decide +kernel)) (by decide) hm_z
    replace hm_z := rn_iconst (w := 0) (am_cur_of (i := (306, 1, .iconst 0, (0, 0, 0), 0)) (by decide +kernel)) (by decide) hm_z
    replace hm_z := rn_iret (am_cur_of (i := (307, 1, .ireturn, (0, 0, 0), 0)) (by decide +kernel)) hm_z
    obtain ⟨e558_z, e559_z⟩ := hm_z
    subst e558_z e559_z
    exact Or.inr (Or.inl ⟨rfl, FF⟩)
theorem pm_k2_23 {T : Nat → Int32} {S x p : Int32} {n n' : Nat} {h h' g g' : am_H} {r r' : Option Value} (R : rq T S x p 23 h g) (A : rp 23 h g) (B : rp_t h g) (ka : rg_v h 44 10 = 2) (kb : rg_v h 44 11 = 2) (kc : rg_v g 164 8 = 1) (kd : rg_v g 164 9 = 2) (hc_z : rn n am_m26 0 (lv_args 0 [.ref 44]) [] h r h') (hm_z : rn n' am_m157 0 (lv_args 0 [.ref 164]) [] g r' g') : pm_Q T S x 23 h' g' r' := by
  have g0_z : am_get (lv_args 0 [.ref 44]) 0 = some (.ref 44) := rfl
  have g0m : am_get (lv_args 0 [.ref 164]) 0 = some (.ref 164) := rfl
  have R5 := R.2.2.2.2.1
  have R6 := R.2.2.2.2.2.1
  replace hc_z := rn_aload_n (am_cur_of (i := (0, 1, .aload_n 0, (0, 0, 0), 0)) (by decide +kernel)) g0_z hc_z
  replace hc_z := rn_getI (v := 2) (am_cur_of (i := (1, 3, .getfield 60, (4, 10, 419), 0)) (by decide +kernel)) (by decide +kernel) ka hc_z
  replace hc_z := rn_iconst (w := 2) (am_cur_of (i := (4, 1, .iconst 2, (0, 0, 0), 0)) (by decide +kernel)) (by decide) hc_z
  replace hc_z := rn_cmpF (am_cur_of (i := (5, 3, .if_icmp .ne 10, (7, 0, 0), 0)) (by decide +kernel)) (by decide) hc_z
  replace hc_z := rn_aload_n (am_cur_of (i := (8, 1, .aload_n 0, (0, 0, 0), 0)) (by decide +kernel)) g0_z hc_z
  replace hc_z := rn_getI (v := 2) (am_cur_of (i := (9, 3, .getfield 91, (4, 11, 420), 0)) (by decide +kernel)) (by decide +kernel) kb hc_z
  replace hc_z := rn_goto (am_cur_of (i := (12, 3, .goto 4, (8, 0, 0), 0)) (by decide +kernel)) hc_z
  replace hc_z := rn_swI (off := 66) (a := 15) (am_cur_of (i := (16, 52, .tableswitch 115 0 8 #[52, 59, 66, 73, 80, 87, 94, 101, 108], (0, 0, 0), 0)) (by decide +kernel)) (by decide) (by decide) (by decide +kernel) hc_z
  replace hc_z := rn_aload_n (am_cur_of (i := (82, 1, .aload_n 0, (0, 0, 0), 0)) (by decide +kernel)) g0_z hc_z
  replace hc_z := rn_callV (M' := am_m35) (o := 44) (ar := []) (rest := []) (L := lv_args 0 [.ref 44]) (am_cur_of (i := (83, 3, .invokevirtual 118, (35, 793, 3), 0)) (by decide +kernel)) rfl rfl rfl rfl hc_z
  obtain ⟨r560_z, h561_z, q562_z, hc_z⟩ := hc_z
  have vo := rn_void rfl q562_z
  subst vo
  replace hc_z : rn _ _ _ _ [] _ _ _ := hc_z
  replace hc_z := rn_goto (am_cur_of (i := (86, 3, .goto 50, (39, 0, 0), 0)) (by decide +kernel)) hc_z
  replace hc_z := rn_vret (am_cur_of (i := (136, 1, .return_, (0, 0, 0), 0)) (by decide +kernel)) hc_z
  obtain ⟨e563_z, e564_z⟩ := hc_z
  replace e564_z := e564_z.symm
  subst e564_z
  replace hm_z := rn_aload_n (am_cur_of (i := (0, 1, .aload_n 0, (0, 0, 0), 0)) (by decide +kernel)) g0m hm_z
  replace hm_z := rn_getI (v := 1) (am_cur_of (i := (1, 3, .getfield 157, (12, 8, 1392), 0)) (by decide +kernel)) (by decide +kernel) kc hm_z
  replace hm_z := rn_iconst (w := 1) (am_cur_of (i := (4, 1, .iconst 1, (0, 0, 0), 0)) (by decide +kernel)) (by decide) hm_z
  replace hm_z := rn_cmpF (am_cur_of (i := (5, 3, .if_icmp .ne 12, (8, 0, 0), 0)) (by decide +kernel)) (by decide) hm_z
  replace hm_z := rn_aload_n (am_cur_of (i := (8, 1, .aload_n 0, (0, 0, 0), 0)) (by decide +kernel)) g0m hm_z
  replace hm_z := rn_getI (v := 2) (am_cur_of (i := (9, 3, .getfield 168, (12, 9, 1393), 0)) (by decide +kernel)) (by decide +kernel) kd hm_z
  replace hm_z := rn_bipush (w := 8) (am_cur_of (i := (12, 2, .bipush 8, (0, 0, 0), 0)) (by decide +kernel)) (by decide) hm_z
  replace hm_z := rn_cmpT (am_cur_of (i := (14, 3, .if_icmp .le 9, (12, 0, 0), 0)) (by decide +kernel)) (by decide) hm_z
  replace hm_z := rn_aload_n (am_cur_of (i := (23, 1, .aload_n 0, (0, 0, 0), 0)) (by decide +kernel)) g0m hm_z
  replace hm_z := rn_getI (v := 2) (am_cur_of (i := (24, 3, .getfield 168, (12, 9, 1393), 0)) (by decide +kernel)) (by decide +kernel) kd hm_z
  replace hm_z := rn_swI (off := 61) (a := 23) (am_cur_of (i := (27, 45, .tableswitch 178 0 7 #[45, 53, 61, 69, 77, 85, 93, 136], (0, 0, 0), 0)) (by decide +kernel)) (by decide) (by decide) (by decide +kernel) hm_z
  replace hm_z := rn_aload_n (am_cur_of (i := (88, 1, .aload_n 0, (0, 0, 0), 0)) (by decide +kernel)) g0m hm_z
  replace hm_z := rn_callV (M' := am_m166) (o := 164) (ar := []) (rest := []) (L := lv_args 0 [.ref 164]) (am_cur_of (i := (89, 3, .invokevirtual 259, (166, 1695, 3), 0)) (by decide +kernel)) rfl rfl rfl rfl hm_z
  obtain ⟨r565_z, h566_z, q567_z, hm_z⟩ := hm_z
  rcases pl_turn23 R A B q562_z q567_z with ⟨rfl, x2_z, p2_z, R2, le2_z, A2, B2⟩ | ⟨rfl, FF⟩
  · replace hm_z : rn _ _ _ _ [.int 1] _ _ _ := hm_z
    replace hm_z := rn_istore_n (am_cur_of (i := (92, 1, .istore_n 1, (0, 0, 0), 0)) (by decide +kernel)) hm_z
    obtain ⟨_, s568_z, s569_z, g1m, hm_z⟩ := hm_z
    replace g0m := s568_z 0 _ (by decide) rfl g0m
    clear s568_z s569_z
    replace hm_z := rn_goto (am_cur_of (i := (93, 3, .goto 209, (139, 0, 0), 0)) (by decide +kernel)) hm_z
    exact Or.inl ⟨x2_z, p2_z, _, _, _, R2, le2_z, A2, B2, g0m, g1m, hm_z⟩
  · replace hm_z : rn _ _ _ _ [.int 0] _ _ _ := hm_z
    replace hm_z := rn_istore_n (am_cur_of (i := (92, 1, .istore_n 1, (0, 0, 0), 0)) (by decide +kernel)) hm_z
    obtain ⟨_, s570_z, s571_z, g1m, hm_z⟩ := hm_z
    replace g0m := s570_z 0 _ (by decide) rfl g0m
    clear s570_z s571_z
    replace hm_z := rn_goto (am_cur_of (i := (93, 3, .goto 209, (139, 0, 0), 0)) (by decide +kernel)) hm_z
    replace hm_z := rn_iload_n (am_cur_of (i := (302, 1, .iload_n 1, (0, 0, 0), 0)) (by decide +kernel)) g1m hm_z
    replace hm_z := rn_ifF (am_cur_of (i := (303, 3, .ifCond .ne 5, (143, 0, 0), 0)) (by decide +kernel)) (by decide) hm_z
    replace hm_z := rn_iconst (w := 0) (am_cur_of (i := (306, 1, .iconst 0, (0, 0, 0), 0)) (by decide +kernel)) (by decide) hm_z
    replace hm_z := rn_iret (am_cur_of (i := (307, 1, .ireturn, (0, 0, 0), 0)) (by decide +kernel)) hm_z
    obtain ⟨e572_z, e573_z⟩ := hm_z
    subst e572_z e573_z
    exact Or.inr (Or.inl ⟨rfl, FF⟩)
theorem pm_k3_23 {T : Nat → Int32} {S x p : Int32} {n n' : Nat} {h h' g g' : am_H} {r r' : Option Value} (R : rq T S x p 23 h g) (A : rp 23 h g) (B : rp_t h g) (ka : rg_v h 44 10 = 2) (kb : rg_v h 44 11 = 3) (kc : rg_v g 164 8 = 1) (kd : rg_v g 164 9 = 3) (hc_z : rn n am_m26 0 (lv_args 0 [.ref 44]) [] h r h') (hm_z : rn n' am_m157 0 (lv_args 0 [.ref 164]) [] g r' g') : pm_Q T S x 23 h' g' r' := by
  have g0_z : am_get (lv_args 0 [.ref 44]) 0 = some (.ref 44) := rfl
  have g0m : am_get (lv_args 0 [.ref 164]) 0 = some (.ref 164) := rfl
  have R5 := R.2.2.2.2.1
  have R6 := R.2.2.2.2.2.1
  replace hc_z := rn_aload_n (am_cur_of (i := (0, 1, .aload_n 0, (0, 0, 0), 0)) (by decide +kernel)) g0_z hc_z
  replace hc_z := rn_getI (v := 2) (am_cur_of (i := (1, 3, .getfield 60, (4, 10, 419), 0)) (by decide +kernel)) (by decide +kernel) ka hc_z
  replace hc_z := rn_iconst (w := 2) (am_cur_of (i := (4, 1, .iconst 2, (0, 0, 0), 0)) (by decide +kernel)) (by decide) hc_z
  replace hc_z := rn_cmpF (am_cur_of (i := (5, 3, .if_icmp .ne 10, (7, 0, 0), 0)) (by decide +kernel)) (by decide) hc_z
  replace hc_z := rn_aload_n (am_cur_of (i := (8, 1, .aload_n 0, (0, 0, 0), 0)) (by decide +kernel)) g0_z hc_z
  replace hc_z := rn_getI (v := 3) (am_cur_of (i := (9, 3, .getfield 91, (4, 11, 420), 0)) (by decide +kernel)) (by decide +kernel) kb hc_z
  replace hc_z := rn_goto (am_cur_of (i := (12, 3, .goto 4, (8, 0, 0), 0)) (by decide +kernel)) hc_z
  replace hc_z := rn_swI (off := 73) (a := 18) (am_cur_of (i := (16, 52, .tableswitch 115 0 8 #[52, 59, 66, 73, 80, 87, 94, 101, 108], (0, 0, 0), 0)) (by decide +kernel)) (by decide) (by decide) (by decide +kernel) hc_z
  replace hc_z := rn_aload_n (am_cur_of (i := (89, 1, .aload_n 0, (0, 0, 0), 0)) (by decide +kernel)) g0_z hc_z
  replace hc_z := rn_callV (M' := am_m36) (o := 44) (ar := []) (rest := []) (L := lv_args 0 [.ref 44]) (am_cur_of (i := (90, 3, .invokevirtual 121, (36, 797, 3), 0)) (by decide +kernel)) rfl rfl rfl rfl hc_z
  obtain ⟨r574_z, h575_z, q576_z, hc_z⟩ := hc_z
  have vo := rn_void rfl q576_z
  subst vo
  replace hc_z : rn _ _ _ _ [] _ _ _ := hc_z
  replace hc_z := rn_goto (am_cur_of (i := (93, 3, .goto 43, (39, 0, 0), 0)) (by decide +kernel)) hc_z
  replace hc_z := rn_vret (am_cur_of (i := (136, 1, .return_, (0, 0, 0), 0)) (by decide +kernel)) hc_z
  obtain ⟨e577_z, e578_z⟩ := hc_z
  replace e578_z := e578_z.symm
  subst e578_z
  replace hm_z := rn_aload_n (am_cur_of (i := (0, 1, .aload_n 0, (0, 0, 0), 0)) (by decide +kernel)) g0m hm_z
  replace hm_z := rn_getI (v := 1) (am_cur_of (i := (1, 3, .getfield 157, (12, 8, 1392), 0)) (by decide +kernel)) (by decide +kernel) kc hm_z
  replace hm_z := rn_iconst (w := 1) (am_cur_of (i := (4, 1, .iconst 1, (0, 0, 0), 0)) (by decide +kernel)) (by decide) hm_z
  replace hm_z := rn_cmpF (am_cur_of (i := (5, 3, .if_icmp .ne 12, (8, 0, 0), 0)) (by decide +kernel)) (by decide) hm_z
  replace hm_z := rn_aload_n (am_cur_of (i := (8, 1, .aload_n 0, (0, 0, 0), 0)) (by decide +kernel)) g0m hm_z
  replace hm_z := rn_getI (v := 3) (am_cur_of (i := (9, 3, .getfield 168, (12, 9, 1393), 0)) (by decide +kernel)) (by decide +kernel) kd hm_z
  replace hm_z := rn_bipush (w := 8) (am_cur_of (i := (12, 2, .bipush 8, (0, 0, 0), 0)) (by decide +kernel)) (by decide) hm_z
  replace hm_z := rn_cmpT (am_cur_of (i := (14, 3, .if_icmp .le 9, (12, 0, 0), 0)) (by decide +kernel)) (by decide) hm_z
  replace hm_z := rn_aload_n (am_cur_of (i := (23, 1, .aload_n 0, (0, 0, 0), 0)) (by decide +kernel)) g0m hm_z
  replace hm_z := rn_getI (v := 3) (am_cur_of (i := (24, 3, .getfield 168, (12, 9, 1393), 0)) (by decide +kernel)) (by decide +kernel) kd hm_z
  replace hm_z := rn_swI (off := 69) (a := 27) (am_cur_of (i := (27, 45, .tableswitch 178 0 7 #[45, 53, 61, 69, 77, 85, 93, 136], (0, 0, 0), 0)) (by decide +kernel)) (by decide) (by decide) (by decide +kernel) hm_z
  replace hm_z := rn_aload_n (am_cur_of (i := (96, 1, .aload_n 0, (0, 0, 0), 0)) (by decide +kernel)) g0m hm_z
  replace hm_z := rn_callV (M' := am_m167) (o := 164) (ar := []) (rest := []) (L := lv_args 0 [.ref 164]) (am_cur_of (i := (97, 3, .invokevirtual 262, (167, 1699, 3), 0)) (by decide +kernel)) rfl rfl rfl rfl hm_z
  obtain ⟨r579_z, h580_z, q581_z, hm_z⟩ := hm_z
  rcases pl_pump23 R A B q576_z q581_z with ⟨rfl, x2_z, p2_z, R2, le2_z, A2, B2⟩ | ⟨rfl, FF⟩
  · replace hm_z : rn _ _ _ _ [.int 1] _ _ _ := hm_z
    replace hm_z := rn_istore_n (am_cur_of (i := (100, 1, .istore_n 1, (0, 0, 0), 0)) (by decide +kernel)) hm_z
    obtain ⟨_, s582_z, s583_z, g1m, hm_z⟩ := hm_z
    replace g0m := s582_z 0 _ (by decide) rfl g0m
    clear s582_z s583_z
    replace hm_z := rn_goto (am_cur_of (i := (101, 3, .goto 201, (139, 0, 0), 0)) (by decide +kernel)) hm_z
    exact Or.inl ⟨x2_z, p2_z, _, _, _, R2, le2_z, A2, B2, g0m, g1m, hm_z⟩
  · replace hm_z : rn _ _ _ _ [.int 0] _ _ _ := hm_z
    replace hm_z := rn_istore_n (am_cur_of (i := (100, 1, .istore_n 1, (0, 0, 0), 0)) (by decide +kernel)) hm_z
    obtain ⟨_, s584_z, s585_z, g1m, hm_z⟩ := hm_z
    replace g0m := s584_z 0 _ (by decide) rfl g0m
    clear s584_z s585_z
    replace hm_z := rn_goto (am_cur_of (i := (101, 3, .goto 201, (139, 0, 0), 0)) (by decide +kernel)) hm_z
    replace hm_z := rn_iload_n (am_cur_of (i := (302, 1, .iload_n 1, (0, 0, 0), 0)) (by decide +kernel)) g1m hm_z
    replace hm_z := rn_ifF (am_cur_of (i := (303, 3, .ifCond .ne 5, (143, 0, 0), 0)) (by decide +kernel)) (by decide) hm_z
    replace hm_z := rn_iconst (w := 0) (am_cur_of (i := (306, 1, .iconst 0, (0, 0, 0), 0)) (by decide +kernel)) (by decide) hm_z
    replace hm_z := rn_iret (am_cur_of (i := (307, 1, .ireturn, (0, 0, 0), 0)) (by decide +kernel)) hm_z
    obtain ⟨e586_z, e587_z⟩ := hm_z
    subst e586_z e587_z
    exact Or.inr (Or.inl ⟨rfl, FF⟩)
theorem pm_k4_23 {T : Nat → Int32} {S x p : Int32} {n n' : Nat} {h h' g g' : am_H} {r r' : Option Value} (R : rq T S x p 23 h g) (A : rp 23 h g) (B : rp_t h g) (ka : rg_v h 44 10 = 2) (kb : rg_v h 44 11 = 4) (kc : rg_v g 164 8 = 1) (kd : rg_v g 164 9 = 4) (hc_z : rn n am_m26 0 (lv_args 0 [.ref 44]) [] h r h') (hm_z : rn n' am_m157 0 (lv_args 0 [.ref 164]) [] g r' g') : pm_Q T S x 23 h' g' r' := by
  have g0_z : am_get (lv_args 0 [.ref 44]) 0 = some (.ref 44) := rfl
  have g0m : am_get (lv_args 0 [.ref 164]) 0 = some (.ref 164) := rfl
  have R5 := R.2.2.2.2.1
  have R6 := R.2.2.2.2.2.1
  replace hc_z := rn_aload_n (am_cur_of (i := (0, 1, .aload_n 0, (0, 0, 0), 0)) (by decide +kernel)) g0_z hc_z
  replace hc_z := rn_getI (v := 2) (am_cur_of (i := (1, 3, .getfield 60, (4, 10, 419), 0)) (by decide +kernel)) (by decide +kernel) ka hc_z
  replace hc_z := rn_iconst (w := 2) (am_cur_of (i := (4, 1, .iconst 2, (0, 0, 0), 0)) (by decide +kernel)) (by decide) hc_z
  replace hc_z := rn_cmpF (am_cur_of (i := (5, 3, .if_icmp .ne 10, (7, 0, 0), 0)) (by decide +kernel)) (by decide) hc_z
  replace hc_z := rn_aload_n (am_cur_of (i := (8, 1, .aload_n 0, (0, 0, 0), 0)) (by decide +kernel)) g0_z hc_z
  replace hc_z := rn_getI (v := 4) (am_cur_of (i := (9, 3, .getfield 91, (4, 11, 420), 0)) (by decide +kernel)) (by decide +kernel) kb hc_z
  replace hc_z := rn_goto (am_cur_of (i := (12, 3, .goto 4, (8, 0, 0), 0)) (by decide +kernel)) hc_z
  replace hc_z := rn_swI (off := 80) (a := 21) (am_cur_of (i := (16, 52, .tableswitch 115 0 8 #[52, 59, 66, 73, 80, 87, 94, 101, 108], (0, 0, 0), 0)) (by decide +kernel)) (by decide) (by decide) (by decide +kernel) hc_z
  replace hc_z := rn_aload_n (am_cur_of (i := (96, 1, .aload_n 0, (0, 0, 0), 0)) (by decide +kernel)) g0_z hc_z
  replace hc_z := rn_callV (M' := am_m37) (o := 44) (ar := []) (rest := []) (L := lv_args 0 [.ref 44]) (am_cur_of (i := (97, 3, .invokevirtual 124, (37, 801, 3), 0)) (by decide +kernel)) rfl rfl rfl rfl hc_z
  obtain ⟨r588_z, h589_z, q590_z, hc_z⟩ := hc_z
  have vo := rn_void rfl q590_z
  subst vo
  replace hc_z : rn _ _ _ _ [] _ _ _ := hc_z
  replace hc_z := rn_goto (am_cur_of (i := (100, 3, .goto 36, (39, 0, 0), 0)) (by decide +kernel)) hc_z
  replace hc_z := rn_vret (am_cur_of (i := (136, 1, .return_, (0, 0, 0), 0)) (by decide +kernel)) hc_z
  obtain ⟨e591_z, e592_z⟩ := hc_z
  replace e592_z := e592_z.symm
  subst e592_z
  replace hm_z := rn_aload_n (am_cur_of (i := (0, 1, .aload_n 0, (0, 0, 0), 0)) (by decide +kernel)) g0m hm_z
  replace hm_z := rn_getI (v := 1) (am_cur_of (i := (1, 3, .getfield 157, (12, 8, 1392), 0)) (by decide +kernel)) (by decide +kernel) kc hm_z
  replace hm_z := rn_iconst (w := 1) (am_cur_of (i := (4, 1, .iconst 1, (0, 0, 0), 0)) (by decide +kernel)) (by decide) hm_z
  replace hm_z := rn_cmpF (am_cur_of (i := (5, 3, .if_icmp .ne 12, (8, 0, 0), 0)) (by decide +kernel)) (by decide) hm_z
  replace hm_z := rn_aload_n (am_cur_of (i := (8, 1, .aload_n 0, (0, 0, 0), 0)) (by decide +kernel)) g0m hm_z
  replace hm_z := rn_getI (v := 4) (am_cur_of (i := (9, 3, .getfield 168, (12, 9, 1393), 0)) (by decide +kernel)) (by decide +kernel) kd hm_z
  replace hm_z := rn_bipush (w := 8) (am_cur_of (i := (12, 2, .bipush 8, (0, 0, 0), 0)) (by decide +kernel)) (by decide) hm_z
  replace hm_z := rn_cmpT (am_cur_of (i := (14, 3, .if_icmp .le 9, (12, 0, 0), 0)) (by decide +kernel)) (by decide) hm_z
  replace hm_z := rn_aload_n (am_cur_of (i := (23, 1, .aload_n 0, (0, 0, 0), 0)) (by decide +kernel)) g0m hm_z
  replace hm_z := rn_getI (v := 4) (am_cur_of (i := (24, 3, .getfield 168, (12, 9, 1393), 0)) (by decide +kernel)) (by decide +kernel) kd hm_z
  replace hm_z := rn_swI (off := 77) (a := 31) (am_cur_of (i := (27, 45, .tableswitch 178 0 7 #[45, 53, 61, 69, 77, 85, 93, 136], (0, 0, 0), 0)) (by decide +kernel)) (by decide) (by decide) (by decide +kernel) hm_z
  replace hm_z := rn_aload_n (am_cur_of (i := (104, 1, .aload_n 0, (0, 0, 0), 0)) (by decide +kernel)) g0m hm_z
  replace hm_z := rn_callV (M' := am_m168) (o := 164) (ar := []) (rest := []) (L := lv_args 0 [.ref 164]) (am_cur_of (i := (105, 3, .invokevirtual 265, (168, 1703, 3), 0)) (by decide +kernel)) rfl rfl rfl rfl hm_z
  obtain ⟨r593_z, h594_z, q595_z, hm_z⟩ := hm_z
  rcases pl_leak23 R A B q590_z q595_z with ⟨rfl, x2_z, p2_z, R2, le2_z, A2, B2⟩ | ⟨rfl, FF⟩
  · replace hm_z : rn _ _ _ _ [.int 1] _ _ _ := hm_z
    replace hm_z := rn_istore_n (am_cur_of (i := (108, 1, .istore_n 1, (0, 0, 0), 0)) (by decide +kernel)) hm_z
    obtain ⟨_, s596_z, s597_z, g1m, hm_z⟩ := hm_z
    replace g0m := s596_z 0 _ (by decide) rfl g0m
    clear s596_z s597_z
    replace hm_z := rn_goto (am_cur_of (i := (109, 3, .goto 193, (139, 0, 0), 0)) (by decide +kernel)) hm_z
    exact Or.inl ⟨x2_z, p2_z, _, _, _, R2, le2_z, A2, B2, g0m, g1m, hm_z⟩
  · replace hm_z : rn _ _ _ _ [.int 0] _ _ _ := hm_z
    replace hm_z := rn_istore_n (am_cur_of (i := (108, 1, .istore_n 1, (0, 0, 0), 0)) (by decide +kernel)) hm_z
    obtain ⟨_, s598_z, s599_z, g1m, hm_z⟩ := hm_z
    replace g0m := s598_z 0 _ (by decide) rfl g0m
    clear s598_z s599_z
    replace hm_z := rn_goto (am_cur_of (i := (109, 3, .goto 193, (139, 0, 0), 0)) (by decide +kernel)) hm_z
    replace hm_z := rn_iload_n (am_cur_of (i := (302, 1, .iload_n 1, (0, 0, 0), 0)) (by decide +kernel)) g1m hm_z
    replace hm_z := rn_ifF (am_cur_of (i := (303, 3, .ifCond .ne 5, (143, 0, 0), 0)) (by decide +kernel)) (by decide) hm_z
    replace hm_z := rn_iconst (w := 0) (am_cur_of (i := (306, 1, .iconst 0, (0, 0, 0), 0)) (by decide +kernel)) (by decide) hm_z
    replace hm_z := rn_iret (am_cur_of (i := (307, 1, .ireturn, (0, 0, 0), 0)) (by decide +kernel)) hm_z
    obtain ⟨e600_z, e601_z⟩ := hm_z
    subst e600_z e601_z
    exact Or.inr (Or.inl ⟨rfl, FF⟩)
theorem pm_k5_23 {T : Nat → Int32} {S x p : Int32} {n n' : Nat} {h h' g g' : am_H} {r r' : Option Value} (R : rq T S x p 23 h g) (A : rp 23 h g) (B : rp_t h g) (ka : rg_v h 44 10 = 2) (kb : rg_v h 44 11 = 5) (kc : rg_v g 164 8 = 1) (kd : rg_v g 164 9 = 5) (hc_z : rn n am_m26 0 (lv_args 0 [.ref 44]) [] h r h') (hm_z : rn n' am_m157 0 (lv_args 0 [.ref 164]) [] g r' g') : pm_Q T S x 23 h' g' r' := by
  have g0_z : am_get (lv_args 0 [.ref 44]) 0 = some (.ref 44) := rfl
  have g0m : am_get (lv_args 0 [.ref 164]) 0 = some (.ref 164) := rfl
  have R5 := R.2.2.2.2.1
  have R6 := R.2.2.2.2.2.1
  replace hc_z := rn_aload_n (am_cur_of (i := (0, 1, .aload_n 0, (0, 0, 0), 0)) (by decide +kernel)) g0_z hc_z
  replace hc_z := rn_getI (v := 2) (am_cur_of (i := (1, 3, .getfield 60, (4, 10, 419), 0)) (by decide +kernel)) (by decide +kernel) ka hc_z
  replace hc_z := rn_iconst (w := 2) (am_cur_of (i := (4, 1, .iconst 2, (0, 0, 0), 0)) (by decide +kernel)) (by decide) hc_z
  replace hc_z := rn_cmpF (am_cur_of (i := (5, 3, .if_icmp .ne 10, (7, 0, 0), 0)) (by decide +kernel)) (by decide) hc_z
  replace hc_z := rn_aload_n (am_cur_of (i := (8, 1, .aload_n 0, (0, 0, 0), 0)) (by decide +kernel)) g0_z hc_z
  replace hc_z := rn_getI (v := 5) (am_cur_of (i := (9, 3, .getfield 91, (4, 11, 420), 0)) (by decide +kernel)) (by decide +kernel) kb hc_z
  replace hc_z := rn_goto (am_cur_of (i := (12, 3, .goto 4, (8, 0, 0), 0)) (by decide +kernel)) hc_z
  replace hc_z := rn_swI (off := 87) (a := 24) (am_cur_of (i := (16, 52, .tableswitch 115 0 8 #[52, 59, 66, 73, 80, 87, 94, 101, 108], (0, 0, 0), 0)) (by decide +kernel)) (by decide) (by decide) (by decide +kernel) hc_z
  replace hc_z := rn_aload_n (am_cur_of (i := (103, 1, .aload_n 0, (0, 0, 0), 0)) (by decide +kernel)) g0_z hc_z
  replace hc_z := rn_callV (M' := am_m38) (o := 44) (ar := []) (rest := []) (L := lv_args 0 [.ref 44]) (am_cur_of (i := (104, 3, .invokevirtual 127, (38, 805, 3), 0)) (by decide +kernel)) rfl rfl rfl rfl hc_z
  obtain ⟨r602_z, h603_z, q604_z, hc_z⟩ := hc_z
  have vo := rn_void rfl q604_z
  subst vo
  replace hc_z : rn _ _ _ _ [] _ _ _ := hc_z
  replace hc_z := rn_goto (am_cur_of (i := (107, 3, .goto 29, (39, 0, 0), 0)) (by decide +kernel)) hc_z
  replace hc_z := rn_vret (am_cur_of (i := (136, 1, .return_, (0, 0, 0), 0)) (by decide +kernel)) hc_z
  obtain ⟨e605_z, e606_z⟩ := hc_z
  replace e606_z := e606_z.symm
  subst e606_z
  replace hm_z := rn_aload_n (am_cur_of (i := (0, 1, .aload_n 0, (0, 0, 0), 0)) (by decide +kernel)) g0m hm_z
  replace hm_z := rn_getI (v := 1) (am_cur_of (i := (1, 3, .getfield 157, (12, 8, 1392), 0)) (by decide +kernel)) (by decide +kernel) kc hm_z
  replace hm_z := rn_iconst (w := 1) (am_cur_of (i := (4, 1, .iconst 1, (0, 0, 0), 0)) (by decide +kernel)) (by decide) hm_z
  replace hm_z := rn_cmpF (am_cur_of (i := (5, 3, .if_icmp .ne 12, (8, 0, 0), 0)) (by decide +kernel)) (by decide) hm_z
  replace hm_z := rn_aload_n (am_cur_of (i := (8, 1, .aload_n 0, (0, 0, 0), 0)) (by decide +kernel)) g0m hm_z
  replace hm_z := rn_getI (v := 5) (am_cur_of (i := (9, 3, .getfield 168, (12, 9, 1393), 0)) (by decide +kernel)) (by decide +kernel) kd hm_z
  replace hm_z := rn_bipush (w := 8) (am_cur_of (i := (12, 2, .bipush 8, (0, 0, 0), 0)) (by decide +kernel)) (by decide) hm_z
  replace hm_z := rn_cmpT (am_cur_of (i := (14, 3, .if_icmp .le 9, (12, 0, 0), 0)) (by decide +kernel)) (by decide) hm_z
  replace hm_z := rn_aload_n (am_cur_of (i := (23, 1, .aload_n 0, (0, 0, 0), 0)) (by decide +kernel)) g0m hm_z
  replace hm_z := rn_getI (v := 5) (am_cur_of (i := (24, 3, .getfield 168, (12, 9, 1393), 0)) (by decide +kernel)) (by decide +kernel) kd hm_z
  replace hm_z := rn_swI (off := 85) (a := 35) (am_cur_of (i := (27, 45, .tableswitch 178 0 7 #[45, 53, 61, 69, 77, 85, 93, 136], (0, 0, 0), 0)) (by decide +kernel)) (by decide) (by decide) (by decide +kernel) hm_z
  replace hm_z := rn_aload_n (am_cur_of (i := (112, 1, .aload_n 0, (0, 0, 0), 0)) (by decide +kernel)) g0m hm_z
  replace hm_z := rn_callV (M' := am_m169) (o := 164) (ar := []) (rest := []) (L := lv_args 0 [.ref 164]) (am_cur_of (i := (113, 3, .invokevirtual 268, (169, 1707, 3), 0)) (by decide +kernel)) rfl rfl rfl rfl hm_z
  obtain ⟨r607_z, h608_z, q609_z, hm_z⟩ := hm_z
  rcases pl_trial23 R A B q604_z q609_z with ⟨rfl, x2_z, p2_z, R2, le2_z, A2, B2⟩ | ⟨rfl, FF⟩
  · replace hm_z : rn _ _ _ _ [.int 1] _ _ _ := hm_z
    replace hm_z := rn_istore_n (am_cur_of (i := (116, 1, .istore_n 1, (0, 0, 0), 0)) (by decide +kernel)) hm_z
    obtain ⟨_, s610_z, s611_z, g1m, hm_z⟩ := hm_z
    replace g0m := s610_z 0 _ (by decide) rfl g0m
    clear s610_z s611_z
    replace hm_z := rn_goto (am_cur_of (i := (117, 3, .goto 185, (139, 0, 0), 0)) (by decide +kernel)) hm_z
    exact Or.inl ⟨x2_z, p2_z, _, _, _, R2, le2_z, A2, B2, g0m, g1m, hm_z⟩
  · replace hm_z : rn _ _ _ _ [.int 0] _ _ _ := hm_z
    replace hm_z := rn_istore_n (am_cur_of (i := (116, 1, .istore_n 1, (0, 0, 0), 0)) (by decide +kernel)) hm_z
    obtain ⟨_, s612_z, s613_z, g1m, hm_z⟩ := hm_z
    replace g0m := s612_z 0 _ (by decide) rfl g0m
    clear s612_z s613_z
    replace hm_z := rn_goto (am_cur_of (i := (117, 3, .goto 185, (139, 0, 0), 0)) (by decide +kernel)) hm_z
    replace hm_z := rn_iload_n (am_cur_of (i := (302, 1, .iload_n 1, (0, 0, 0), 0)) (by decide +kernel)) g1m hm_z
    replace hm_z := rn_ifF (am_cur_of (i := (303, 3, .ifCond .ne 5, (143, 0, 0), 0)) (by decide +kernel)) (by decide) hm_z
    replace hm_z := rn_iconst (w := 0) (am_cur_of (i := (306, 1, .iconst 0, (0, 0, 0), 0)) (by decide +kernel)) (by decide) hm_z
    replace hm_z := rn_iret (am_cur_of (i := (307, 1, .ireturn, (0, 0, 0), 0)) (by decide +kernel)) hm_z
    obtain ⟨e614_z, e615_z⟩ := hm_z
    subst e614_z e615_z
    exact Or.inr (Or.inl ⟨rfl, FF⟩)
theorem pm_k6_23 {T : Nat → Int32} {S x p : Int32} {n n' : Nat} {h h' g g' : am_H} {r r' : Option Value} (R : rq T S x p 23 h g) (A : rp 23 h g) (B : rp_t h g) (ka : rg_v h 44 10 = 2) (kb : rg_v h 44 11 = 6) (kc : rg_v g 164 8 = 1) (kd : rg_v g 164 9 = 6) (hc_z : rn n am_m26 0 (lv_args 0 [.ref 44]) [] h r h') (hm_z : rn n' am_m157 0 (lv_args 0 [.ref 164]) [] g r' g') : pm_Q T S x 23 h' g' r' := by
  have g0_z : am_get (lv_args 0 [.ref 44]) 0 = some (.ref 44) := rfl
  have g0m : am_get (lv_args 0 [.ref 164]) 0 = some (.ref 164) := rfl
  have R5 := R.2.2.2.2.1
  have R6 := R.2.2.2.2.2.1
  replace hc_z := rn_aload_n (am_cur_of (i := (0, 1, .aload_n 0, (0, 0, 0), 0)) (by decide +kernel)) g0_z hc_z
  replace hc_z := rn_getI (v := 2) (am_cur_of (i := (1, 3, .getfield 60, (4, 10, 419), 0)) (by decide +kernel)) (by decide +kernel) ka hc_z
  replace hc_z := rn_iconst (w := 2) (am_cur_of (i := (4, 1, .iconst 2, (0, 0, 0), 0)) (by decide +kernel)) (by decide) hc_z
  replace hc_z := rn_cmpF (am_cur_of (i := (5, 3, .if_icmp .ne 10, (7, 0, 0), 0)) (by decide +kernel)) (by decide) hc_z
  replace hc_z := rn_aload_n (am_cur_of (i := (8, 1, .aload_n 0, (0, 0, 0), 0)) (by decide +kernel)) g0_z hc_z
  replace hc_z := rn_getI (v := 6) (am_cur_of (i := (9, 3, .getfield 91, (4, 11, 420), 0)) (by decide +kernel)) (by decide +kernel) kb hc_z
  replace hc_z := rn_goto (am_cur_of (i := (12, 3, .goto 4, (8, 0, 0), 0)) (by decide +kernel)) hc_z
  replace hc_z := rn_swI (off := 94) (a := 27) (am_cur_of (i := (16, 52, .tableswitch 115 0 8 #[52, 59, 66, 73, 80, 87, 94, 101, 108], (0, 0, 0), 0)) (by decide +kernel)) (by decide) (by decide) (by decide +kernel) hc_z
  replace hc_z := rn_aload_n (am_cur_of (i := (110, 1, .aload_n 0, (0, 0, 0), 0)) (by decide +kernel)) g0_z hc_z
  replace hc_z := rn_callV (M' := am_m40) (o := 44) (ar := []) (rest := []) (L := lv_args 0 [.ref 44]) (am_cur_of (i := (111, 3, .invokevirtual 130, (40, 813, 3), 0)) (by decide +kernel)) rfl rfl rfl rfl hc_z
  obtain ⟨r616_z, h617_z, q618_z, hc_z⟩ := hc_z
  have vo := rn_void rfl q618_z
  subst vo
  replace hc_z : rn _ _ _ _ [] _ _ _ := hc_z
  replace hc_z := rn_goto (am_cur_of (i := (114, 3, .goto 22, (39, 0, 0), 0)) (by decide +kernel)) hc_z
  replace hc_z := rn_vret (am_cur_of (i := (136, 1, .return_, (0, 0, 0), 0)) (by decide +kernel)) hc_z
  obtain ⟨e619_z, e620_z⟩ := hc_z
  replace e620_z := e620_z.symm
  subst e620_z
  replace hm_z := rn_aload_n (am_cur_of (i := (0, 1, .aload_n 0, (0, 0, 0), 0)) (by decide +kernel)) g0m hm_z
  replace hm_z := rn_getI (v := 1) (am_cur_of (i := (1, 3, .getfield 157, (12, 8, 1392), 0)) (by decide +kernel)) (by decide +kernel) kc hm_z
  replace hm_z := rn_iconst (w := 1) (am_cur_of (i := (4, 1, .iconst 1, (0, 0, 0), 0)) (by decide +kernel)) (by decide) hm_z
  replace hm_z := rn_cmpF (am_cur_of (i := (5, 3, .if_icmp .ne 12, (8, 0, 0), 0)) (by decide +kernel)) (by decide) hm_z
  replace hm_z := rn_aload_n (am_cur_of (i := (8, 1, .aload_n 0, (0, 0, 0), 0)) (by decide +kernel)) g0m hm_z
  replace hm_z := rn_getI (v := 6) (am_cur_of (i := (9, 3, .getfield 168, (12, 9, 1393), 0)) (by decide +kernel)) (by decide +kernel) kd hm_z
  replace hm_z := rn_bipush (w := 8) (am_cur_of (i := (12, 2, .bipush 8, (0, 0, 0), 0)) (by decide +kernel)) (by decide) hm_z
  replace hm_z := rn_cmpT (am_cur_of (i := (14, 3, .if_icmp .le 9, (12, 0, 0), 0)) (by decide +kernel)) (by decide) hm_z
  replace hm_z := rn_aload_n (am_cur_of (i := (23, 1, .aload_n 0, (0, 0, 0), 0)) (by decide +kernel)) g0m hm_z
  replace hm_z := rn_getI (v := 6) (am_cur_of (i := (24, 3, .getfield 168, (12, 9, 1393), 0)) (by decide +kernel)) (by decide +kernel) kd hm_z
  replace hm_z := rn_swI (off := 93) (a := 39) (am_cur_of (i := (27, 45, .tableswitch 178 0 7 #[45, 53, 61, 69, 77, 85, 93, 136], (0, 0, 0), 0)) (by decide +kernel)) (by decide) (by decide) (by decide +kernel) hm_z
  exact pl_slip23 R A B g0m q618_z hm_z
theorem pm_k7_23 {T : Nat → Int32} {S x p : Int32} {n n' : Nat} {h h' g g' : am_H} {r r' : Option Value} (R : rq T S x p 23 h g) (A : rp 23 h g) (B : rp_t h g) (ka : rg_v h 44 10 = 2) (kb : rg_v h 44 11 = 7) (kc : rg_v g 164 8 = 1) (kd : rg_v g 164 9 = 7) (hc_z : rn n am_m26 0 (lv_args 0 [.ref 44]) [] h r h') (hm_z : rn n' am_m157 0 (lv_args 0 [.ref 164]) [] g r' g') : pm_Q T S x 23 h' g' r' := by
  have g0_z : am_get (lv_args 0 [.ref 44]) 0 = some (.ref 44) := rfl
  have g0m : am_get (lv_args 0 [.ref 164]) 0 = some (.ref 164) := rfl
  have R5 := R.2.2.2.2.1
  have R6 := R.2.2.2.2.2.1
  replace hc_z := rn_aload_n (am_cur_of (i := (0, 1, .aload_n 0, (0, 0, 0), 0)) (by decide +kernel)) g0_z hc_z
  replace hc_z := rn_getI (v := 2) (am_cur_of (i := (1, 3, .getfield 60, (4, 10, 419), 0)) (by decide +kernel)) (by decide +kernel) ka hc_z
  replace hc_z := rn_iconst (w := 2) (am_cur_of (i := (4, 1, .iconst 2, (0, 0, 0), 0)) (by decide +kernel)) (by decide) hc_z
  replace hc_z := rn_cmpF (am_cur_of (i := (5, 3, .if_icmp .ne 10, (7, 0, 0), 0)) (by decide +kernel)) (by decide) hc_z
  replace hc_z := rn_aload_n (am_cur_of (i := (8, 1, .aload_n 0, (0, 0, 0), 0)) (by decide +kernel)) g0_z hc_z
  replace hc_z := rn_getI (v := 7) (am_cur_of (i := (9, 3, .getfield 91, (4, 11, 420), 0)) (by decide +kernel)) (by decide +kernel) kb hc_z
  replace hc_z := rn_goto (am_cur_of (i := (12, 3, .goto 4, (8, 0, 0), 0)) (by decide +kernel)) hc_z
  replace hc_z := rn_swI (off := 101) (a := 30) (am_cur_of (i := (16, 52, .tableswitch 115 0 8 #[52, 59, 66, 73, 80, 87, 94, 101, 108], (0, 0, 0), 0)) (by decide +kernel)) (by decide) (by decide) (by decide +kernel) hc_z
  replace hc_z := rn_aload_n (am_cur_of (i := (117, 1, .aload_n 0, (0, 0, 0), 0)) (by decide +kernel)) g0_z hc_z
  replace hc_z := rn_callV (M' := am_m41) (o := 44) (ar := []) (rest := []) (L := lv_args 0 [.ref 44]) (am_cur_of (i := (118, 3, .invokevirtual 133, (41, 817, 3), 0)) (by decide +kernel)) rfl rfl rfl rfl hc_z
  obtain ⟨r621_z, h622_z, q623_z, hc_z⟩ := hc_z
  have vo := rn_void rfl q623_z
  subst vo
  replace hc_z : rn _ _ _ _ [] _ _ _ := hc_z
  replace hc_z := rn_goto (am_cur_of (i := (121, 3, .goto 15, (39, 0, 0), 0)) (by decide +kernel)) hc_z
  replace hc_z := rn_vret (am_cur_of (i := (136, 1, .return_, (0, 0, 0), 0)) (by decide +kernel)) hc_z
  obtain ⟨e624_z, e625_z⟩ := hc_z
  replace e625_z := e625_z.symm
  subst e625_z
  replace hm_z := rn_aload_n (am_cur_of (i := (0, 1, .aload_n 0, (0, 0, 0), 0)) (by decide +kernel)) g0m hm_z
  replace hm_z := rn_getI (v := 1) (am_cur_of (i := (1, 3, .getfield 157, (12, 8, 1392), 0)) (by decide +kernel)) (by decide +kernel) kc hm_z
  replace hm_z := rn_iconst (w := 1) (am_cur_of (i := (4, 1, .iconst 1, (0, 0, 0), 0)) (by decide +kernel)) (by decide) hm_z
  replace hm_z := rn_cmpF (am_cur_of (i := (5, 3, .if_icmp .ne 12, (8, 0, 0), 0)) (by decide +kernel)) (by decide) hm_z
  replace hm_z := rn_aload_n (am_cur_of (i := (8, 1, .aload_n 0, (0, 0, 0), 0)) (by decide +kernel)) g0m hm_z
  replace hm_z := rn_getI (v := 7) (am_cur_of (i := (9, 3, .getfield 168, (12, 9, 1393), 0)) (by decide +kernel)) (by decide +kernel) kd hm_z
  replace hm_z := rn_bipush (w := 8) (am_cur_of (i := (12, 2, .bipush 8, (0, 0, 0), 0)) (by decide +kernel)) (by decide) hm_z
  replace hm_z := rn_cmpT (am_cur_of (i := (14, 3, .if_icmp .le 9, (12, 0, 0), 0)) (by decide +kernel)) (by decide) hm_z
  replace hm_z := rn_aload_n (am_cur_of (i := (23, 1, .aload_n 0, (0, 0, 0), 0)) (by decide +kernel)) g0m hm_z
  replace hm_z := rn_getI (v := 7) (am_cur_of (i := (24, 3, .getfield 168, (12, 9, 1393), 0)) (by decide +kernel)) (by decide +kernel) kd hm_z
  replace hm_z := rn_swI (off := 136) (a := 61) (am_cur_of (i := (27, 45, .tableswitch 178 0 7 #[45, 53, 61, 69, 77, 85, 93, 136], (0, 0, 0), 0)) (by decide +kernel)) (by decide) (by decide) (by decide +kernel) hm_z
  exact pl_seed23 R A B g0m q623_z hm_z
theorem pm_k8_23 {T : Nat → Int32} {S x p : Int32} {n n' : Nat} {h h' g g' : am_H} {r r' : Option Value} (R : rq T S x p 23 h g) (A : rp 23 h g) (B : rp_t h g) (ka : rg_v h 44 10 = 2) (kb : rg_v h 44 11 = 8) (kc : rg_v g 164 8 = 1) (kd : rg_v g 164 9 = 8) (hc_z : rn n am_m26 0 (lv_args 0 [.ref 44]) [] h r h') (hm_z : rn n' am_m157 0 (lv_args 0 [.ref 164]) [] g r' g') : pm_Q T S x 23 h' g' r' := by
  have g0_z : am_get (lv_args 0 [.ref 44]) 0 = some (.ref 44) := rfl
  have g0m : am_get (lv_args 0 [.ref 164]) 0 = some (.ref 164) := rfl
  have R5 := R.2.2.2.2.1
  have R6 := R.2.2.2.2.2.1
  replace hc_z := rn_aload_n (am_cur_of (i := (0, 1, .aload_n 0, (0, 0, 0), 0)) (by decide +kernel)) g0_z hc_z
  replace hc_z := rn_getI (v := 2) (am_cur_of (i := (1, 3, .getfield 60, (4, 10, 419), 0)) (by decide +kernel)) (by decide +kernel) ka hc_z
  replace hc_z := rn_iconst (w := 2) (am_cur_of (i := (4, 1, .iconst 2, (0, 0, 0), 0)) (by decide +kernel)) (by decide) hc_z
  replace hc_z := rn_cmpF (am_cur_of (i := (5, 3, .if_icmp .ne 10, (7, 0, 0), 0)) (by decide +kernel)) (by decide) hc_z
  replace hc_z := rn_aload_n (am_cur_of (i := (8, 1, .aload_n 0, (0, 0, 0), 0)) (by decide +kernel)) g0_z hc_z
  replace hc_z := rn_getI (v := 8) (am_cur_of (i := (9, 3, .getfield 91, (4, 11, 420), 0)) (by decide +kernel)) (by decide +kernel) kb hc_z
  replace hc_z := rn_goto (am_cur_of (i := (12, 3, .goto 4, (8, 0, 0), 0)) (by decide +kernel)) hc_z
  replace hc_z := rn_swI (off := 108) (a := 33) (am_cur_of (i := (16, 52, .tableswitch 115 0 8 #[52, 59, 66, 73, 80, 87, 94, 101, 108], (0, 0, 0), 0)) (by decide +kernel)) (by decide) (by decide) (by decide +kernel) hc_z
  replace hc_z := rn_aload_n (am_cur_of (i := (124, 1, .aload_n 0, (0, 0, 0), 0)) (by decide +kernel)) g0_z hc_z
  replace hc_z := rn_callV (M' := am_m42) (o := 44) (ar := []) (rest := []) (L := lv_args 0 [.ref 44]) (am_cur_of (i := (125, 3, .invokevirtual 136, (42, 822, 3), 0)) (by decide +kernel)) rfl rfl rfl rfl hc_z
  obtain ⟨r626_z, h627_z, q628_z, hc_z⟩ := hc_z
  have vo := rn_void rfl q628_z
  subst vo
  replace hc_z : rn _ _ _ _ [] _ _ _ := hc_z
  replace hc_z := rn_goto (am_cur_of (i := (128, 3, .goto 8, (39, 0, 0), 0)) (by decide +kernel)) hc_z
  replace hc_z := rn_vret (am_cur_of (i := (136, 1, .return_, (0, 0, 0), 0)) (by decide +kernel)) hc_z
  obtain ⟨e629_z, e630_z⟩ := hc_z
  replace e630_z := e630_z.symm
  subst e630_z
  replace hm_z := rn_aload_n (am_cur_of (i := (0, 1, .aload_n 0, (0, 0, 0), 0)) (by decide +kernel)) g0m hm_z
  replace hm_z := rn_getI (v := 1) (am_cur_of (i := (1, 3, .getfield 157, (12, 8, 1392), 0)) (by decide +kernel)) (by decide +kernel) kc hm_z
  replace hm_z := rn_iconst (w := 1) (am_cur_of (i := (4, 1, .iconst 1, (0, 0, 0), 0)) (by decide +kernel)) (by decide) hm_z
  replace hm_z := rn_cmpF (am_cur_of (i := (5, 3, .if_icmp .ne 12, (8, 0, 0), 0)) (by decide +kernel)) (by decide) hm_z
  replace hm_z := rn_aload_n (am_cur_of (i := (8, 1, .aload_n 0, (0, 0, 0), 0)) (by decide +kernel)) g0m hm_z
  replace hm_z := rn_getI (v := 8) (am_cur_of (i := (9, 3, .getfield 168, (12, 9, 1393), 0)) (by decide +kernel)) (by decide +kernel) kd hm_z
  replace hm_z := rn_bipush (w := 8) (am_cur_of (i := (12, 2, .bipush 8, (0, 0, 0), 0)) (by decide +kernel)) (by decide) hm_z
  replace hm_z := rn_cmpT (am_cur_of (i := (14, 3, .if_icmp .le 9, (12, 0, 0), 0)) (by decide +kernel)) (by decide) hm_z
  replace hm_z := rn_aload_n (am_cur_of (i := (23, 1, .aload_n 0, (0, 0, 0), 0)) (by decide +kernel)) g0m hm_z
  replace hm_z := rn_getI (v := 8) (am_cur_of (i := (24, 3, .getfield 168, (12, 9, 1393), 0)) (by decide +kernel)) (by decide +kernel) kd hm_z
  replace hm_z := rn_swO (a := 83) (am_cur_of (i := (27, 45, .tableswitch 178 0 7 #[45, 53, 61, 69, 77, 85, 93, 136], (0, 0, 0), 0)) (by decide +kernel)) (by decide) (by decide +kernel) hm_z
  exact pl_law_23 R A B g0m q628_z hm_z
theorem pm_k9_23 {T : Nat → Int32} {S x p : Int32} {n n' : Nat} {h h' g g' : am_H} {r r' : Option Value} (R : rq T S x p 23 h g) (A : rp 23 h g) (B : rp_t h g) (ka : rg_v h 44 10 = 2) (kb : rg_v h 44 11 = 9) (kc : rg_v g 164 8 = 1) (kd : rg_v g 164 9 = 9) (hc_z : rn n am_m26 0 (lv_args 0 [.ref 44]) [] h r h') (hm_z : rn n' am_m157 0 (lv_args 0 [.ref 164]) [] g r' g') : pm_Q T S x 23 h' g' r' := by
  have g0_z : am_get (lv_args 0 [.ref 44]) 0 = some (.ref 44) := rfl
  have g0m : am_get (lv_args 0 [.ref 164]) 0 = some (.ref 164) := rfl
  have R5 := R.2.2.2.2.1
  have R6 := R.2.2.2.2.2.1
  replace hc_z := rn_aload_n (am_cur_of (i := (0, 1, .aload_n 0, (0, 0, 0), 0)) (by decide +kernel)) g0_z hc_z
  replace hc_z := rn_getI (v := 2) (am_cur_of (i := (1, 3, .getfield 60, (4, 10, 419), 0)) (by decide +kernel)) (by decide +kernel) ka hc_z
  replace hc_z := rn_iconst (w := 2) (am_cur_of (i := (4, 1, .iconst 2, (0, 0, 0), 0)) (by decide +kernel)) (by decide) hc_z
  replace hc_z := rn_cmpF (am_cur_of (i := (5, 3, .if_icmp .ne 10, (7, 0, 0), 0)) (by decide +kernel)) (by decide) hc_z
  replace hc_z := rn_aload_n (am_cur_of (i := (8, 1, .aload_n 0, (0, 0, 0), 0)) (by decide +kernel)) g0_z hc_z
  replace hc_z := rn_getI (v := 9) (am_cur_of (i := (9, 3, .getfield 91, (4, 11, 420), 0)) (by decide +kernel)) (by decide +kernel) kb hc_z
  replace hc_z := rn_goto (am_cur_of (i := (12, 3, .goto 4, (8, 0, 0), 0)) (by decide +kernel)) hc_z
  replace hc_z := rn_swO (a := 36) (am_cur_of (i := (16, 52, .tableswitch 115 0 8 #[52, 59, 66, 73, 80, 87, 94, 101, 108], (0, 0, 0), 0)) (by decide +kernel)) (by decide) (by decide +kernel) hc_z
  replace hc_z := rn_aload_n (am_cur_of (i := (131, 1, .aload_n 0, (0, 0, 0), 0)) (by decide +kernel)) g0_z hc_z
  replace hc_z := rn_iconst (w := 1) (am_cur_of (i := (132, 1, .iconst 1, (0, 0, 0), 0)) (by decide +kernel)) (by decide) hc_z
  replace hc_z := rn_callV (M' := am_m29) (o := 44) (ar := [.int 1]) (rest := []) (L := lv_args 0 [.ref 44, .int 1]) (am_cur_of (i := (133, 3, .invokevirtual 108, (29, 769, 3), 0)) (by decide +kernel)) rfl rfl rfl rfl hc_z
  obtain ⟨r631_z, h632_z, q633_z, hc_z⟩ := hc_z
  obtain ⟨rfl, yq633_z⟩ := rp_fail R.2.2.2.1 q633_z
  subst yq633_z
  replace hc_z : rn _ _ _ _ [] _ _ _ := hc_z
  have K := rs_stick (w := 1) (a := 26) (by decide) (by decide) rfl (by decide) rfl rfl hc_z
  replace hm_z := rn_aload_n (am_cur_of (i := (0, 1, .aload_n 0, (0, 0, 0), 0)) (by decide +kernel)) g0m hm_z
  replace hm_z := rn_getI (v := 1) (am_cur_of (i := (1, 3, .getfield 157, (12, 8, 1392), 0)) (by decide +kernel)) (by decide +kernel) kc hm_z
  replace hm_z := rn_iconst (w := 1) (am_cur_of (i := (4, 1, .iconst 1, (0, 0, 0), 0)) (by decide +kernel)) (by decide) hm_z
  replace hm_z := rn_cmpF (am_cur_of (i := (5, 3, .if_icmp .ne 12, (8, 0, 0), 0)) (by decide +kernel)) (by decide) hm_z
  replace hm_z := rn_aload_n (am_cur_of (i := (8, 1, .aload_n 0, (0, 0, 0), 0)) (by decide +kernel)) g0m hm_z
  replace hm_z := rn_getI (v := 9) (am_cur_of (i := (9, 3, .getfield 168, (12, 9, 1393), 0)) (by decide +kernel)) (by decide +kernel) kd hm_z
  replace hm_z := rn_bipush (w := 8) (am_cur_of (i := (12, 2, .bipush 8, (0, 0, 0), 0)) (by decide +kernel)) (by decide) hm_z
  replace hm_z := rn_cmpF (am_cur_of (i := (14, 3, .if_icmp .le 9, (12, 0, 0), 0)) (by decide +kernel)) (by decide) hm_z
  replace hm_z := rn_aload_n (am_cur_of (i := (17, 1, .aload_n 0, (0, 0, 0), 0)) (by decide +kernel)) g0m hm_z
  replace hm_z := rn_iconst (w := 1) (am_cur_of (i := (18, 1, .iconst 1, (0, 0, 0), 0)) (by decide +kernel)) (by decide) hm_z
  replace hm_z := rn_callV (M' := am_m158) (o := 164) (ar := [.int 1]) (rest := []) (L := lv_args 0 [.ref 164, .int 1]) (am_cur_of (i := (19, 3, .invokevirtual 181, (158, 1665, 3), 0)) (by decide +kernel)) rfl rfl rfl rfl hm_z
  obtain ⟨r634_z, h635_z, q636_z, hm_z⟩ := hm_z
  obtain ⟨rfl, yq636_z⟩ := rp_wrong q636_z
  subst yq636_z
  replace hm_z : rn _ _ _ _ [.int 0] _ _ _ := hm_z
  replace hm_z := rn_iret (am_cur_of (i := (22, 1, .ireturn, (0, 0, 0), 0)) (by decide +kernel)) hm_z
  obtain ⟨e637_z, e638_z⟩ := hm_z
  subst e637_z e638_z
  exact Or.inr (Or.inl ⟨rfl, _, 1, by decide, K.1, K.2.trans R5, rfl, R6⟩)
theorem pm_k10_23 {T : Nat → Int32} {S x p : Int32} {n n' : Nat} {h h' g g' : am_H} {r r' : Option Value} (R : rq T S x p 23 h g) (A : rp 23 h g) (B : rp_t h g) (ka : rg_v h 44 10 = 2) (kb : rg_v h 44 11 = 10) (kc : rg_v g 164 8 = 1) (kd : rg_v g 164 9 = 10) (hc_z : rn n am_m26 0 (lv_args 0 [.ref 44]) [] h r h') (hm_z : rn n' am_m157 0 (lv_args 0 [.ref 164]) [] g r' g') : pm_Q T S x 23 h' g' r' := by
  have g0_z : am_get (lv_args 0 [.ref 44]) 0 = some (.ref 44) := rfl
  have g0m : am_get (lv_args 0 [.ref 164]) 0 = some (.ref 164) := rfl
  have R5 := R.2.2.2.2.1
  have R6 := R.2.2.2.2.2.1
  replace hc_z := rn_aload_n (am_cur_of (i := (0, 1, .aload_n 0, (0, 0, 0), 0)) (by decide +kernel)) g0_z hc_z
  replace hc_z := rn_getI (v := 2) (am_cur_of (i := (1, 3, .getfield 60, (4, 10, 419), 0)) (by decide +kernel)) (by decide +kernel) ka hc_z
  replace hc_z := rn_iconst (w := 2) (am_cur_of (i := (4, 1, .iconst 2, (0, 0, 0), 0)) (by decide +kernel)) (by decide) hc_z
  replace hc_z := rn_cmpF (am_cur_of (i := (5, 3, .if_icmp .ne 10, (7, 0, 0), 0)) (by decide +kernel)) (by decide) hc_z
  replace hc_z := rn_aload_n (am_cur_of (i := (8, 1, .aload_n 0, (0, 0, 0), 0)) (by decide +kernel)) g0_z hc_z
  replace hc_z := rn_getI (v := 10) (am_cur_of (i := (9, 3, .getfield 91, (4, 11, 420), 0)) (by decide +kernel)) (by decide +kernel) kb hc_z
  replace hc_z := rn_goto (am_cur_of (i := (12, 3, .goto 4, (8, 0, 0), 0)) (by decide +kernel)) hc_z
  replace hc_z := rn_swO (a := 36) (am_cur_of (i := (16, 52, .tableswitch 115 0 8 #[52, 59, 66, 73, 80, 87, 94, 101, 108], (0, 0, 0), 0)) (by decide +kernel)) (by decide) (by decide +kernel) hc_z
  replace hc_z := rn_aload_n (am_cur_of (i := (131, 1, .aload_n 0, (0, 0, 0), 0)) (by decide +kernel)) g0_z hc_z
  replace hc_z := rn_iconst (w := 1) (am_cur_of (i := (132, 1, .iconst 1, (0, 0, 0), 0)) (by decide +kernel)) (by decide) hc_z
  replace hc_z := rn_callV (M' := am_m29) (o := 44) (ar := [.int 1]) (rest := []) (L := lv_args 0 [.ref 44, .int 1]) (am_cur_of (i := (133, 3, .invokevirtual 108, (29, 769, 3), 0)) (by decide +kernel)) rfl rfl rfl rfl hc_z
  obtain ⟨r639_z, h640_z, q641_z, hc_z⟩ := hc_z
  obtain ⟨rfl, yq641_z⟩ := rp_fail R.2.2.2.1 q641_z
  subst yq641_z
  replace hc_z : rn _ _ _ _ [] _ _ _ := hc_z
  have K := rs_stick (w := 1) (a := 26) (by decide) (by decide) rfl (by decide) rfl rfl hc_z
  replace hm_z := rn_aload_n (am_cur_of (i := (0, 1, .aload_n 0, (0, 0, 0), 0)) (by decide +kernel)) g0m hm_z
  replace hm_z := rn_getI (v := 1) (am_cur_of (i := (1, 3, .getfield 157, (12, 8, 1392), 0)) (by decide +kernel)) (by decide +kernel) kc hm_z
  replace hm_z := rn_iconst (w := 1) (am_cur_of (i := (4, 1, .iconst 1, (0, 0, 0), 0)) (by decide +kernel)) (by decide) hm_z
  replace hm_z := rn_cmpF (am_cur_of (i := (5, 3, .if_icmp .ne 12, (8, 0, 0), 0)) (by decide +kernel)) (by decide) hm_z
  replace hm_z := rn_aload_n (am_cur_of (i := (8, 1, .aload_n 0, (0, 0, 0), 0)) (by decide +kernel)) g0m hm_z
  replace hm_z := rn_getI (v := 10) (am_cur_of (i := (9, 3, .getfield 168, (12, 9, 1393), 0)) (by decide +kernel)) (by decide +kernel) kd hm_z
  replace hm_z := rn_bipush (w := 8) (am_cur_of (i := (12, 2, .bipush 8, (0, 0, 0), 0)) (by decide +kernel)) (by decide) hm_z
  replace hm_z := rn_cmpF (am_cur_of (i := (14, 3, .if_icmp .le 9, (12, 0, 0), 0)) (by decide +kernel)) (by decide) hm_z
  replace hm_z := rn_aload_n (am_cur_of (i := (17, 1, .aload_n 0, (0, 0, 0), 0)) (by decide +kernel)) g0m hm_z
  replace hm_z := rn_iconst (w := 1) (am_cur_of (i := (18, 1, .iconst 1, (0, 0, 0), 0)) (by decide +kernel)) (by decide) hm_z
  replace hm_z := rn_callV (M' := am_m158) (o := 164) (ar := [.int 1]) (rest := []) (L := lv_args 0 [.ref 164, .int 1]) (am_cur_of (i := (19, 3, .invokevirtual 181, (158, 1665, 3), 0)) (by decide +kernel)) rfl rfl rfl rfl hm_z
  obtain ⟨r642_z, h643_z, q644_z, hm_z⟩ := hm_z
  obtain ⟨rfl, yq644_z⟩ := rp_wrong q644_z
  subst yq644_z
  replace hm_z : rn _ _ _ _ [.int 0] _ _ _ := hm_z
  replace hm_z := rn_iret (am_cur_of (i := (22, 1, .ireturn, (0, 0, 0), 0)) (by decide +kernel)) hm_z
  obtain ⟨e645_z, e646_z⟩ := hm_z
  subst e645_z e646_z
  exact Or.inr (Or.inl ⟨rfl, _, 1, by decide, K.1, K.2.trans R5, rfl, R6⟩)
theorem pm_k11_23 {T : Nat → Int32} {S x p : Int32} {n n' : Nat} {h h' g g' : am_H} {r r' : Option Value} (R : rq T S x p 23 h g) (A : rp 23 h g) (B : rp_t h g) (ka : rg_v h 44 10 = 2) (kb : rg_v h 44 11 = 11) (kc : rg_v g 164 8 = 1) (kd : rg_v g 164 9 = 11) (hc_z : rn n am_m26 0 (lv_args 0 [.ref 44]) [] h r h') (hm_z : rn n' am_m157 0 (lv_args 0 [.ref 164]) [] g r' g') : pm_Q T S x 23 h' g' r' := by
  have g0_z : am_get (lv_args 0 [.ref 44]) 0 = some (.ref 44) := rfl
  have g0m : am_get (lv_args 0 [.ref 164]) 0 = some (.ref 164) := rfl
  have R5 := R.2.2.2.2.1
  have R6 := R.2.2.2.2.2.1
  replace hc_z := rn_aload_n (am_cur_of (i := (0, 1, .aload_n 0, (0, 0, 0), 0)) (by decide +kernel)) g0_z hc_z
  replace hc_z := rn_getI (v := 2) (am_cur_of (i := (1, 3, .getfield 60, (4, 10, 419), 0)) (by decide +kernel)) (by decide +kernel) ka hc_z
  replace hc_z := rn_iconst (w := 2) (am_cur_of (i := (4, 1, .iconst 2, (0, 0, 0), 0)) (by decide +kernel)) (by decide) hc_z
  replace hc_z := rn_cmpF (am_cur_of (i := (5, 3, .if_icmp .ne 10, (7, 0, 0), 0)) (by decide +kernel)) (by decide) hc_z
  replace hc_z := rn_aload_n (am_cur_of (i := (8, 1, .aload_n 0, (0, 0, 0), 0)) (by decide +kernel)) g0_z hc_z
  replace hc_z := rn_getI (v := 11) (am_cur_of (i := (9, 3, .getfield 91, (4, 11, 420), 0)) (by decide +kernel)) (by decide +kernel) kb hc_z
  replace hc_z := rn_goto (am_cur_of (i := (12, 3, .goto 4, (8, 0, 0), 0)) (by decide +kernel)) hc_z
  replace hc_z := rn_swO (a := 36) (am_cur_of (i := (16, 52, .tableswitch 115 0 8 #[52, 59, 66, 73, 80, 87, 94, 101, 108], (0, 0, 0), 0)) (by decide +kernel)) (by decide) (by decide +kernel) hc_z
  replace hc_z := rn_aload_n (am_cur_of (i := (131, 1, .aload_n 0, (0, 0, 0), 0)) (by decide +kernel)) g0_z hc_z
  replace hc_z := rn_iconst (w := 1) (am_cur_of (i := (132, 1, .iconst 1, (0, 0, 0), 0)) (by decide +kernel)) (by decide) hc_z
  replace hc_z := rn_callV (M' := am_m29) (o := 44) (ar := [.int 1]) (rest := []) (L := lv_args 0 [.ref 44, .int 1]) (am_cur_of (i := (133, 3, .invokevirtual 108, (29, 769, 3), 0)) (by decide +kernel)) rfl rfl rfl rfl hc_z
  obtain ⟨r647_z, h648_z, q649_z, hc_z⟩ := hc_z
  obtain ⟨rfl, yq649_z⟩ := rp_fail R.2.2.2.1 q649_z
  subst yq649_z
  replace hc_z : rn _ _ _ _ [] _ _ _ := hc_z
  have K := rs_stick (w := 1) (a := 26) (by decide) (by decide) rfl (by decide) rfl rfl hc_z
  replace hm_z := rn_aload_n (am_cur_of (i := (0, 1, .aload_n 0, (0, 0, 0), 0)) (by decide +kernel)) g0m hm_z
  replace hm_z := rn_getI (v := 1) (am_cur_of (i := (1, 3, .getfield 157, (12, 8, 1392), 0)) (by decide +kernel)) (by decide +kernel) kc hm_z
  replace hm_z := rn_iconst (w := 1) (am_cur_of (i := (4, 1, .iconst 1, (0, 0, 0), 0)) (by decide +kernel)) (by decide) hm_z
  replace hm_z := rn_cmpF (am_cur_of (i := (5, 3, .if_icmp .ne 12, (8, 0, 0), 0)) (by decide +kernel)) (by decide) hm_z
  replace hm_z := rn_aload_n (am_cur_of (i := (8, 1, .aload_n 0, (0, 0, 0), 0)) (by decide +kernel)) g0m hm_z
  replace hm_z := rn_getI (v := 11) (am_cur_of (i := (9, 3, .getfield 168, (12, 9, 1393), 0)) (by decide +kernel)) (by decide +kernel) kd hm_z
  replace hm_z := rn_bipush (w := 8) (am_cur_of (i := (12, 2, .bipush 8, (0, 0, 0), 0)) (by decide +kernel)) (by decide) hm_z
  replace hm_z := rn_cmpF (am_cur_of (i := (14, 3, .if_icmp .le 9, (12, 0, 0), 0)) (by decide +kernel)) (by decide) hm_z
  replace hm_z := rn_aload_n (am_cur_of (i := (17, 1, .aload_n 0, (0, 0, 0), 0)) (by decide +kernel)) g0m hm_z
  replace hm_z := rn_iconst (w := 1) (am_cur_of (i := (18, 1, .iconst 1, (0, 0, 0), 0)) (by decide +kernel)) (by decide) hm_z
  replace hm_z := rn_callV (M' := am_m158) (o := 164) (ar := [.int 1]) (rest := []) (L := lv_args 0 [.ref 164, .int 1]) (am_cur_of (i := (19, 3, .invokevirtual 181, (158, 1665, 3), 0)) (by decide +kernel)) rfl rfl rfl rfl hm_z
  obtain ⟨r650_z, h651_z, q652_z, hm_z⟩ := hm_z
  obtain ⟨rfl, yq652_z⟩ := rp_wrong q652_z
  subst yq652_z
  replace hm_z : rn _ _ _ _ [.int 0] _ _ _ := hm_z
  replace hm_z := rn_iret (am_cur_of (i := (22, 1, .ireturn, (0, 0, 0), 0)) (by decide +kernel)) hm_z
  obtain ⟨e653_z, e654_z⟩ := hm_z
  subst e653_z e654_z
  exact Or.inr (Or.inl ⟨rfl, _, 1, by decide, K.1, K.2.trans R5, rfl, R6⟩)
theorem pm_k12_23 {T : Nat → Int32} {S x p : Int32} {n n' : Nat} {h h' g g' : am_H} {r r' : Option Value} (R : rq T S x p 23 h g) (A : rp 23 h g) (B : rp_t h g) (ka : rg_v h 44 10 = 2) (kb : rg_v h 44 11 = 12) (kc : rg_v g 164 8 = 1) (kd : rg_v g 164 9 = 15) (hc_z : rn n am_m26 0 (lv_args 0 [.ref 44]) [] h r h') (hm_z : rn n' am_m157 0 (lv_args 0 [.ref 164]) [] g r' g') : pm_Q T S x 23 h' g' r' := by
  have g0_z : am_get (lv_args 0 [.ref 44]) 0 = some (.ref 44) := rfl
  have g0m : am_get (lv_args 0 [.ref 164]) 0 = some (.ref 164) := rfl
  have R5 := R.2.2.2.2.1
  have R6 := R.2.2.2.2.2.1
  replace hc_z := rn_aload_n (am_cur_of (i := (0, 1, .aload_n 0, (0, 0, 0), 0)) (by decide +kernel)) g0_z hc_z
  replace hc_z := rn_getI (v := 2) (am_cur_of (i := (1, 3, .getfield 60, (4, 10, 419), 0)) (by decide +kernel)) (by decide +kernel) ka hc_z
  replace hc_z := rn_iconst (w := 2) (am_cur_of (i := (4, 1, .iconst 2, (0, 0, 0), 0)) (by decide +kernel)) (by decide) hc_z
  replace hc_z := rn_cmpF (am_cur_of (i := (5, 3, .if_icmp .ne 10, (7, 0, 0), 0)) (by decide +kernel)) (by decide) hc_z
  replace hc_z := rn_aload_n (am_cur_of (i := (8, 1, .aload_n 0, (0, 0, 0), 0)) (by decide +kernel)) g0_z hc_z
  replace hc_z := rn_getI (v := 12) (am_cur_of (i := (9, 3, .getfield 91, (4, 11, 420), 0)) (by decide +kernel)) (by decide +kernel) kb hc_z
  replace hc_z := rn_goto (am_cur_of (i := (12, 3, .goto 4, (8, 0, 0), 0)) (by decide +kernel)) hc_z
  replace hc_z := rn_swO (a := 36) (am_cur_of (i := (16, 52, .tableswitch 115 0 8 #[52, 59, 66, 73, 80, 87, 94, 101, 108], (0, 0, 0), 0)) (by decide +kernel)) (by decide) (by decide +kernel) hc_z
  replace hc_z := rn_aload_n (am_cur_of (i := (131, 1, .aload_n 0, (0, 0, 0), 0)) (by decide +kernel)) g0_z hc_z
  replace hc_z := rn_iconst (w := 1) (am_cur_of (i := (132, 1, .iconst 1, (0, 0, 0), 0)) (by decide +kernel)) (by decide) hc_z
  replace hc_z := rn_callV (M' := am_m29) (o := 44) (ar := [.int 1]) (rest := []) (L := lv_args 0 [.ref 44, .int 1]) (am_cur_of (i := (133, 3, .invokevirtual 108, (29, 769, 3), 0)) (by decide +kernel)) rfl rfl rfl rfl hc_z
  obtain ⟨r655_z, h656_z, q657_z, hc_z⟩ := hc_z
  obtain ⟨rfl, yq657_z⟩ := rp_fail R.2.2.2.1 q657_z
  subst yq657_z
  replace hc_z : rn _ _ _ _ [] _ _ _ := hc_z
  have K := rs_stick (w := 1) (a := 26) (by decide) (by decide) rfl (by decide) rfl rfl hc_z
  replace hm_z := rn_aload_n (am_cur_of (i := (0, 1, .aload_n 0, (0, 0, 0), 0)) (by decide +kernel)) g0m hm_z
  replace hm_z := rn_getI (v := 1) (am_cur_of (i := (1, 3, .getfield 157, (12, 8, 1392), 0)) (by decide +kernel)) (by decide +kernel) kc hm_z
  replace hm_z := rn_iconst (w := 1) (am_cur_of (i := (4, 1, .iconst 1, (0, 0, 0), 0)) (by decide +kernel)) (by decide) hm_z
  replace hm_z := rn_cmpF (am_cur_of (i := (5, 3, .if_icmp .ne 12, (8, 0, 0), 0)) (by decide +kernel)) (by decide) hm_z
  replace hm_z := rn_aload_n (am_cur_of (i := (8, 1, .aload_n 0, (0, 0, 0), 0)) (by decide +kernel)) g0m hm_z
  replace hm_z := rn_getI (v := 15) (am_cur_of (i := (9, 3, .getfield 168, (12, 9, 1393), 0)) (by decide +kernel)) (by decide +kernel) kd hm_z
  replace hm_z := rn_bipush (w := 8) (am_cur_of (i := (12, 2, .bipush 8, (0, 0, 0), 0)) (by decide +kernel)) (by decide) hm_z
  replace hm_z := rn_cmpF (am_cur_of (i := (14, 3, .if_icmp .le 9, (12, 0, 0), 0)) (by decide +kernel)) (by decide) hm_z
  replace hm_z := rn_aload_n (am_cur_of (i := (17, 1, .aload_n 0, (0, 0, 0), 0)) (by decide +kernel)) g0m hm_z
  replace hm_z := rn_iconst (w := 1) (am_cur_of (i := (18, 1, .iconst 1, (0, 0, 0), 0)) (by decide +kernel)) (by decide) hm_z
  replace hm_z := rn_callV (M' := am_m158) (o := 164) (ar := [.int 1]) (rest := []) (L := lv_args 0 [.ref 164, .int 1]) (am_cur_of (i := (19, 3, .invokevirtual 181, (158, 1665, 3), 0)) (by decide +kernel)) rfl rfl rfl rfl hm_z
  obtain ⟨r658_z, h659_z, q660_z, hm_z⟩ := hm_z
  obtain ⟨rfl, yq660_z⟩ := rp_wrong q660_z
  subst yq660_z
  replace hm_z : rn _ _ _ _ [.int 0] _ _ _ := hm_z
  replace hm_z := rn_iret (am_cur_of (i := (22, 1, .ireturn, (0, 0, 0), 0)) (by decide +kernel)) hm_z
  obtain ⟨e661_z, e662_z⟩ := hm_z
  subst e661_z e662_z
  exact Or.inr (Or.inl ⟨rfl, _, 1, by decide, K.1, K.2.trans R5, rfl, R6⟩)
theorem pm_k13_23 {T : Nat → Int32} {S x p : Int32} {n n' : Nat} {h h' g g' : am_H} {r r' : Option Value} (R : rq T S x p 23 h g) (A : rp 23 h g) (B : rp_t h g) (ka : rg_v h 44 10 = 2) (kb : rg_v h 44 11 = 13) (kc : rg_v g 164 8 = 1) (kd : rg_v g 164 9 = 16) (hc_z : rn n am_m26 0 (lv_args 0 [.ref 44]) [] h r h') (hm_z : rn n' am_m157 0 (lv_args 0 [.ref 164]) [] g r' g') : pm_Q T S x 23 h' g' r' := by
  have g0_z : am_get (lv_args 0 [.ref 44]) 0 = some (.ref 44) := rfl
  have g0m : am_get (lv_args 0 [.ref 164]) 0 = some (.ref 164) := rfl
  have R5 := R.2.2.2.2.1
  have R6 := R.2.2.2.2.2.1
  replace hc_z := rn_aload_n (am_cur_of (i := (0, 1, .aload_n 0, (0, 0, 0), 0)) (by decide +kernel)) g0_z hc_z
  replace hc_z := rn_getI (v := 2) (am_cur_of (i := (1, 3, .getfield 60, (4, 10, 419), 0)) (by decide +kernel)) (by decide +kernel) ka hc_z
  replace hc_z := rn_iconst (w := 2) (am_cur_of (i := (4, 1, .iconst 2, (0, 0, 0), 0)) (by decide +kernel)) (by decide) hc_z
  replace hc_z := rn_cmpF (am_cur_of (i := (5, 3, .if_icmp .ne 10, (7, 0, 0), 0)) (by decide +kernel)) (by decide) hc_z
  replace hc_z := rn_aload_n (am_cur_of (i := (8, 1, .aload_n 0, (0, 0, 0), 0)) (by decide +kernel)) g0_z hc_z
  replace hc_z := rn_getI (v := 13) (am_cur_of (i := (9, 3, .getfield 91, (4, 11, 420), 0)) (by decide +kernel)) (by decide +kernel) kb hc_z
  replace hc_z := rn_goto (am_cur_of (i := (12, 3, .goto 4, (8, 0, 0), 0)) (by decide +kernel)) hc_z
  replace hc_z := rn_swO (a := 36) (am_cur_of (i := (16, 52, .tableswitch 115 0 8 #[52, 59, 66, 73, 80, 87, 94, 101, 108], (0, 0, 0), 0)) (by decide +kernel)) (by decide) (by decide +kernel) hc_z
  replace hc_z := rn_aload_n (am_cur_of (i := (131, 1, .aload_n 0, (0, 0, 0), 0)) (by decide +kernel)) g0_z hc_z
  replace hc_z := rn_iconst (w := 1) (am_cur_of (i := (132, 1, .iconst 1, (0, 0, 0), 0)) (by decide +kernel)) (by decide) hc_z
  replace hc_z := rn_callV (M' := am_m29) (o := 44) (ar := [.int 1]) (rest := []) (L := lv_args 0 [.ref 44, .int 1]) (am_cur_of (i := (133, 3, .invokevirtual 108, (29, 769, 3), 0)) (by decide +kernel)) rfl rfl rfl rfl hc_z
  obtain ⟨r663_z, h664_z, q665_z, hc_z⟩ := hc_z
  obtain ⟨rfl, yq665_z⟩ := rp_fail R.2.2.2.1 q665_z
  subst yq665_z
  replace hc_z : rn _ _ _ _ [] _ _ _ := hc_z
  have K := rs_stick (w := 1) (a := 26) (by decide) (by decide) rfl (by decide) rfl rfl hc_z
  replace hm_z := rn_aload_n (am_cur_of (i := (0, 1, .aload_n 0, (0, 0, 0), 0)) (by decide +kernel)) g0m hm_z
  replace hm_z := rn_getI (v := 1) (am_cur_of (i := (1, 3, .getfield 157, (12, 8, 1392), 0)) (by decide +kernel)) (by decide +kernel) kc hm_z
  replace hm_z := rn_iconst (w := 1) (am_cur_of (i := (4, 1, .iconst 1, (0, 0, 0), 0)) (by decide +kernel)) (by decide) hm_z
  replace hm_z := rn_cmpF (am_cur_of (i := (5, 3, .if_icmp .ne 12, (8, 0, 0), 0)) (by decide +kernel)) (by decide) hm_z
  replace hm_z := rn_aload_n (am_cur_of (i := (8, 1, .aload_n 0, (0, 0, 0), 0)) (by decide +kernel)) g0m hm_z
  replace hm_z := rn_getI (v := 16) (am_cur_of (i := (9, 3, .getfield 168, (12, 9, 1393), 0)) (by decide +kernel)) (by decide +kernel) kd hm_z
  replace hm_z := rn_bipush (w := 8) (am_cur_of (i := (12, 2, .bipush 8, (0, 0, 0), 0)) (by decide +kernel)) (by decide) hm_z
  replace hm_z := rn_cmpF (am_cur_of (i := (14, 3, .if_icmp .le 9, (12, 0, 0), 0)) (by decide +kernel)) (by decide) hm_z
  replace hm_z := rn_aload_n (am_cur_of (i := (17, 1, .aload_n 0, (0, 0, 0), 0)) (by decide +kernel)) g0m hm_z
  replace hm_z := rn_iconst (w := 1) (am_cur_of (i := (18, 1, .iconst 1, (0, 0, 0), 0)) (by decide +kernel)) (by decide) hm_z
  replace hm_z := rn_callV (M' := am_m158) (o := 164) (ar := [.int 1]) (rest := []) (L := lv_args 0 [.ref 164, .int 1]) (am_cur_of (i := (19, 3, .invokevirtual 181, (158, 1665, 3), 0)) (by decide +kernel)) rfl rfl rfl rfl hm_z
  obtain ⟨r666_z, h667_z, q668_z, hm_z⟩ := hm_z
  obtain ⟨rfl, yq668_z⟩ := rp_wrong q668_z
  subst yq668_z
  replace hm_z : rn _ _ _ _ [.int 0] _ _ _ := hm_z
  replace hm_z := rn_iret (am_cur_of (i := (22, 1, .ireturn, (0, 0, 0), 0)) (by decide +kernel)) hm_z
  obtain ⟨e669_z, e670_z⟩ := hm_z
  subst e669_z e670_z
  exact Or.inr (Or.inl ⟨rfl, _, 1, by decide, K.1, K.2.trans R5, rfl, R6⟩)
theorem pm_k14_23 {T : Nat → Int32} {S x p : Int32} {n n' : Nat} {h h' g g' : am_H} {r r' : Option Value} (R : rq T S x p 23 h g) (A : rp 23 h g) (B : rp_t h g) (ka : rg_v h 44 10 = 2) (kb : rg_v h 44 11 = 14) (kc : rg_v g 164 8 = 1) (kd : rg_v g 164 9 = 17) (hc_z : rn n am_m26 0 (lv_args 0 [.ref 44]) [] h r h') (hm_z : rn n' am_m157 0 (lv_args 0 [.ref 164]) [] g r' g') : pm_Q T S x 23 h' g' r' := by
  have g0_z : am_get (lv_args 0 [.ref 44]) 0 = some (.ref 44) := rfl
  have g0m : am_get (lv_args 0 [.ref 164]) 0 = some (.ref 164) := rfl
  have R5 := R.2.2.2.2.1
  have R6 := R.2.2.2.2.2.1
  replace hc_z := rn_aload_n (am_cur_of (i := (0, 1, .aload_n 0, (0, 0, 0), 0)) (by decide +kernel)) g0_z hc_z
  replace hc_z := rn_getI (v := 2) (am_cur_of (i := (1, 3, .getfield 60, (4, 10, 419), 0)) (by decide +kernel)) (by decide +kernel) ka hc_z
  replace hc_z := rn_iconst (w := 2) (am_cur_of (i := (4, 1, .iconst 2, (0, 0, 0), 0)) (by decide +kernel)) (by decide) hc_z
  replace hc_z := rn_cmpF (am_cur_of (i := (5, 3, .if_icmp .ne 10, (7, 0, 0), 0)) (by decide +kernel)) (by decide) hc_z
  replace hc_z := rn_aload_n (am_cur_of (i := (8, 1, .aload_n 0, (0, 0, 0), 0)) (by decide +kernel)) g0_z hc_z
  replace hc_z := rn_getI (v := 14) (am_cur_of (i := (9, 3, .getfield 91, (4, 11, 420), 0)) (by decide +kernel)) (by decide +kernel) kb hc_z
  replace hc_z := rn_goto (am_cur_of (i := (12, 3, .goto 4, (8, 0, 0), 0)) (by decide +kernel)) hc_z
  replace hc_z := rn_swO (a := 36) (am_cur_of (i := (16, 52, .tableswitch 115 0 8 #[52, 59, 66, 73, 80, 87, 94, 101, 108], (0, 0, 0), 0)) (by decide +kernel)) (by decide) (by decide +kernel) hc_z
  replace hc_z := rn_aload_n (am_cur_of (i := (131, 1, .aload_n 0, (0, 0, 0), 0)) (by decide +kernel)) g0_z hc_z
  replace hc_z := rn_iconst (w := 1) (am_cur_of (i := (132, 1, .iconst 1, (0, 0, 0), 0)) (by decide +kernel)) (by decide) hc_z
  replace hc_z := rn_callV (M' := am_m29) (o := 44) (ar := [.int 1]) (rest := []) (L := lv_args 0 [.ref 44, .int 1]) (am_cur_of (i := (133, 3, .invokevirtual 108, (29, 769, 3), 0)) (by decide +kernel)) rfl rfl rfl rfl hc_z
  obtain ⟨r671_z, h672_z, q673_z, hc_z⟩ := hc_z
  obtain ⟨rfl, yq673_z⟩ := rp_fail R.2.2.2.1 q673_z
  subst yq673_z
  replace hc_z : rn _ _ _ _ [] _ _ _ := hc_z
  have K := rs_stick (w := 1) (a := 26) (by decide) (by decide) rfl (by decide) rfl rfl hc_z
  replace hm_z := rn_aload_n (am_cur_of (i := (0, 1, .aload_n 0, (0, 0, 0), 0)) (by decide +kernel)) g0m hm_z
  replace hm_z := rn_getI (v := 1) (am_cur_of (i := (1, 3, .getfield 157, (12, 8, 1392), 0)) (by decide +kernel)) (by decide +kernel) kc hm_z
  replace hm_z := rn_iconst (w := 1) (am_cur_of (i := (4, 1, .iconst 1, (0, 0, 0), 0)) (by decide +kernel)) (by decide) hm_z
  replace hm_z := rn_cmpF (am_cur_of (i := (5, 3, .if_icmp .ne 12, (8, 0, 0), 0)) (by decide +kernel)) (by decide) hm_z
  replace hm_z := rn_aload_n (am_cur_of (i := (8, 1, .aload_n 0, (0, 0, 0), 0)) (by decide +kernel)) g0m hm_z
  replace hm_z := rn_getI (v := 17) (am_cur_of (i := (9, 3, .getfield 168, (12, 9, 1393), 0)) (by decide +kernel)) (by decide +kernel) kd hm_z
  replace hm_z := rn_bipush (w := 8) (am_cur_of (i := (12, 2, .bipush 8, (0, 0, 0), 0)) (by decide +kernel)) (by decide) hm_z
  replace hm_z := rn_cmpF (am_cur_of (i := (14, 3, .if_icmp .le 9, (12, 0, 0), 0)) (by decide +kernel)) (by decide) hm_z
  replace hm_z := rn_aload_n (am_cur_of (i := (17, 1, .aload_n 0, (0, 0, 0), 0)) (by decide +kernel)) g0m hm_z
  replace hm_z := rn_iconst (w := 1) (am_cur_of (i := (18, 1, .iconst 1, (0, 0, 0), 0)) (by decide +kernel)) (by decide) hm_z
  replace hm_z := rn_callV (M' := am_m158) (o := 164) (ar := [.int 1]) (rest := []) (L := lv_args 0 [.ref 164, .int 1]) (am_cur_of (i := (19, 3, .invokevirtual 181, (158, 1665, 3), 0)) (by decide +kernel)) rfl rfl rfl rfl hm_z
  obtain ⟨r674_z, h675_z, q676_z, hm_z⟩ := hm_z
  obtain ⟨rfl, yq676_z⟩ := rp_wrong q676_z
  subst yq676_z
  replace hm_z : rn _ _ _ _ [.int 0] _ _ _ := hm_z
  replace hm_z := rn_iret (am_cur_of (i := (22, 1, .ireturn, (0, 0, 0), 0)) (by decide +kernel)) hm_z
  obtain ⟨e677_z, e678_z⟩ := hm_z
  subst e677_z e678_z
  exact Or.inr (Or.inl ⟨rfl, _, 1, by decide, K.1, K.2.trans R5, rfl, R6⟩)
theorem pm_k15_23 {T : Nat → Int32} {S x p : Int32} {n n' : Nat} {h h' g g' : am_H} {r r' : Option Value} (R : rq T S x p 23 h g) (A : rp 23 h g) (B : rp_t h g) (ka : rg_v h 44 10 = 2) (kb : rg_v h 44 11 = 15) (kc : rg_v g 164 8 = 1) (kd : rg_v g 164 9 = 18) (hc_z : rn n am_m26 0 (lv_args 0 [.ref 44]) [] h r h') (hm_z : rn n' am_m157 0 (lv_args 0 [.ref 164]) [] g r' g') : pm_Q T S x 23 h' g' r' := by
  have g0_z : am_get (lv_args 0 [.ref 44]) 0 = some (.ref 44) := rfl
  have g0m : am_get (lv_args 0 [.ref 164]) 0 = some (.ref 164) := rfl
  have R5 := R.2.2.2.2.1
  have R6 := R.2.2.2.2.2.1
  replace hc_z := rn_aload_n (am_cur_of (i := (0, 1, .aload_n 0, (0, 0, 0), 0)) (by decide +kernel)) g0_z hc_z
  replace hc_z := rn_getI (v := 2) (am_cur_of (i := (1, 3, .getfield 60, (4, 10, 419), 0)) (by decide +kernel)) (by decide +kernel) ka hc_z
  replace hc_z := rn_iconst (w := 2) (am_cur_of (i := (4, 1, .iconst 2, (0, 0, 0), 0)) (by decide +kernel)) (by decide) hc_z
  replace hc_z := rn_cmpF (am_cur_of (i := (5, 3, .if_icmp .ne 10, (7, 0, 0), 0)) (by decide +kernel)) (by decide) hc_z
  replace hc_z := rn_aload_n (am_cur_of (i := (8, 1, .aload_n 0, (0, 0, 0), 0)) (by decide +kernel)) g0_z hc_z
  replace hc_z := rn_getI (v := 15) (am_cur_of (i := (9, 3, .getfield 91, (4, 11, 420), 0)) (by decide +kernel)) (by decide +kernel) kb hc_z
  replace hc_z := rn_goto (am_cur_of (i := (12, 3, .goto 4, (8, 0, 0), 0)) (by decide +kernel)) hc_z
  replace hc_z := rn_swO (a := 36) (am_cur_of (i := (16, 52, .tableswitch 115 0 8 #[52, 59, 66, 73, 80, 87, 94, 101, 108], (0, 0, 0), 0)) (by decide +kernel)) (by decide) (by decide +kernel) hc_z
  replace hc_z := rn_aload_n (am_cur_of (i := (131, 1, .aload_n 0, (0, 0, 0), 0)) (by decide +kernel)) g0_z hc_z
  replace hc_z := rn_iconst (w := 1) (am_cur_of (i := (132, 1, .iconst 1, (0, 0, 0), 0)) (by decide +kernel)) (by decide) hc_z
  replace hc_z := rn_callV (M' := am_m29) (o := 44) (ar := [.int 1]) (rest := []) (L := lv_args 0 [.ref 44, .int 1]) (am_cur_of (i := (133, 3, .invokevirtual 108, (29, 769, 3), 0)) (by decide +kernel)) rfl rfl rfl rfl hc_z
  obtain ⟨r679_z, h680_z, q681_z, hc_z⟩ := hc_z
  obtain ⟨rfl, yq681_z⟩ := rp_fail R.2.2.2.1 q681_z
  subst yq681_z
  replace hc_z : rn _ _ _ _ [] _ _ _ := hc_z
  have K := rs_stick (w := 1) (a := 26) (by decide) (by decide) rfl (by decide) rfl rfl hc_z
  replace hm_z := rn_aload_n (am_cur_of (i := (0, 1, .aload_n 0, (0, 0, 0), 0)) (by decide +kernel)) g0m hm_z
  replace hm_z := rn_getI (v := 1) (am_cur_of (i := (1, 3, .getfield 157, (12, 8, 1392), 0)) (by decide +kernel)) (by decide +kernel) kc hm_z
  replace hm_z := rn_iconst (w := 1) (am_cur_of (i := (4, 1, .iconst 1, (0, 0, 0), 0)) (by decide +kernel)) (by decide) hm_z
  replace hm_z := rn_cmpF (am_cur_of (i := (5, 3, .if_icmp .ne 12, (8, 0, 0), 0)) (by decide +kernel)) (by decide) hm_z
  replace hm_z := rn_aload_n (am_cur_of (i := (8, 1, .aload_n 0, (0, 0, 0), 0)) (by decide +kernel)) g0m hm_z
  replace hm_z := rn_getI (v := 18) (am_cur_of (i := (9, 3, .getfield 168, (12, 9, 1393), 0)) (by decide +kernel)) (by decide +kernel) kd hm_z
  replace hm_z := rn_bipush (w := 8) (am_cur_of (i := (12, 2, .bipush 8, (0, 0, 0), 0)) (by decide +kernel)) (by decide) hm_z
  replace hm_z := rn_cmpF (am_cur_of (i := (14, 3, .if_icmp .le 9, (12, 0, 0), 0)) (by decide +kernel)) (by decide) hm_z
  replace hm_z := rn_aload_n (am_cur_of (i := (17, 1, .aload_n 0, (0, 0, 0), 0)) (by decide +kernel)) g0m hm_z
  replace hm_z := rn_iconst (w := 1) (am_cur_of (i := (18, 1, .iconst 1, (0, 0, 0), 0)) (by decide +kernel)) (by decide) hm_z
  replace hm_z := rn_callV (M' := am_m158) (o := 164) (ar := [.int 1]) (rest := []) (L := lv_args 0 [.ref 164, .int 1]) (am_cur_of (i := (19, 3, .invokevirtual 181, (158, 1665, 3), 0)) (by decide +kernel)) rfl rfl rfl rfl hm_z
  obtain ⟨r682_z, h683_z, q684_z, hm_z⟩ := hm_z
  obtain ⟨rfl, yq684_z⟩ := rp_wrong q684_z
  subst yq684_z
  replace hm_z : rn _ _ _ _ [.int 0] _ _ _ := hm_z
  replace hm_z := rn_iret (am_cur_of (i := (22, 1, .ireturn, (0, 0, 0), 0)) (by decide +kernel)) hm_z
  obtain ⟨e685_z, e686_z⟩ := hm_z
  subst e685_z e686_z
  exact Or.inr (Or.inl ⟨rfl, _, 1, by decide, K.1, K.2.trans R5, rfl, R6⟩)
theorem pm_k16_23 {T : Nat → Int32} {S x p : Int32} {n n' : Nat} {h h' g g' : am_H} {r r' : Option Value} (R : rq T S x p 23 h g) (A : rp 23 h g) (B : rp_t h g) (ka : rg_v h 44 10 = 2) (kb : rg_v h 44 11 = 16) (kc : rg_v g 164 8 = 1) (kd : rg_v g 164 9 = 19) (hc_z : rn n am_m26 0 (lv_args 0 [.ref 44]) [] h r h') (hm_z : rn n' am_m157 0 (lv_args 0 [.ref 164]) [] g r' g') : pm_Q T S x 23 h' g' r' := by
  have g0_z : am_get (lv_args 0 [.ref 44]) 0 = some (.ref 44) := rfl
  have g0m : am_get (lv_args 0 [.ref 164]) 0 = some (.ref 164) := rfl
  have R5 := R.2.2.2.2.1
  have R6 := R.2.2.2.2.2.1
  replace hc_z := rn_aload_n (am_cur_of (i := (0, 1, .aload_n 0, (0, 0, 0), 0)) (by decide +kernel)) g0_z hc_z
  replace hc_z := rn_getI (v := 2) (am_cur_of (i := (1, 3, .getfield 60, (4, 10, 419), 0)) (by decide +kernel)) (by decide +kernel) ka hc_z
  replace hc_z := rn_iconst (w := 2) (am_cur_of (i := (4, 1, .iconst 2, (0, 0, 0), 0)) (by decide +kernel)) (by decide) hc_z
  replace hc_z := rn_cmpF (am_cur_of (i := (5, 3, .if_icmp .ne 10, (7, 0, 0), 0)) (by decide +kernel)) (by decide) hc_z
  replace hc_z := rn_aload_n (am_cur_of (i := (8, 1, .aload_n 0, (0, 0, 0), 0)) (by decide +kernel)) g0_z hc_z
  replace hc_z := rn_getI (v := 16) (am_cur_of (i := (9, 3, .getfield 91, (4, 11, 420), 0)) (by decide +kernel)) (by decide +kernel) kb hc_z
  replace hc_z := rn_goto (am_cur_of (i := (12, 3, .goto 4, (8, 0, 0), 0)) (by decide +kernel)) hc_z
  replace hc_z := rn_swO (a := 36) (am_cur_of (i := (16, 52, .tableswitch 115 0 8 #[52, 59, 66, 73, 80, 87, 94, 101, 108], (0, 0, 0), 0)) (by decide +kernel)) (by decide) (by decide +kernel) hc_z
  replace hc_z := rn_aload_n (am_cur_of (i := (131, 1, .aload_n 0, (0, 0, 0), 0)) (by decide +kernel)) g0_z hc_z
  replace hc_z := rn_iconst (w := 1) (am_cur_of (i := (132, 1, .iconst 1, (0, 0, 0), 0)) (by decide +kernel)) (by decide) hc_z
  replace hc_z := rn_callV (M' := am_m29) (o := 44) (ar := [.int 1]) (rest := []) (L := lv_args 0 [.ref 44, .int 1]) (am_cur_of (i := (133, 3, .invokevirtual 108, (29, 769, 3), 0)) (by decide +kernel)) rfl rfl rfl rfl hc_z
  obtain ⟨r687_z, h688_z, q689_z, hc_z⟩ := hc_z
  obtain ⟨rfl, yq689_z⟩ := rp_fail R.2.2.2.1 q689_z
  subst yq689_z
  replace hc_z : rn _ _ _ _ [] _ _ _ := hc_z
  have K := rs_stick (w := 1) (a := 26) (by decide) (by decide) rfl (by decide) rfl rfl hc_z
  replace hm_z := rn_aload_n (am_cur_of (i := (0, 1, .aload_n 0, (0, 0, 0), 0)) (by decide +kernel)) g0m hm_z
  replace hm_z := rn_getI (v := 1) (am_cur_of (i := (1, 3, .getfield 157, (12, 8, 1392), 0)) (by decide +kernel)) (by decide +kernel) kc hm_z
  replace hm_z := rn_iconst (w := 1) (am_cur_of (i := (4, 1, .iconst 1, (0, 0, 0), 0)) (by decide +kernel)) (by decide) hm_z
  replace hm_z := rn_cmpF (am_cur_of (i := (5, 3, .if_icmp .ne 12, (8, 0, 0), 0)) (by decide +kernel)) (by decide) hm_z
  replace hm_z := rn_aload_n (am_cur_of (i := (8, 1, .aload_n 0, (0, 0, 0), 0)) (by decide +kernel)) g0m hm_z
  replace hm_z := rn_getI (v := 19) (am_cur_of (i := (9, 3, .getfield 168, (12, 9, 1393), 0)) (by decide +kernel)) (by decide +kernel) kd hm_z
  replace hm_z := rn_bipush (w := 8) (am_cur_of (i := (12, 2, .bipush 8, (0, 0, 0), 0)) (by decide +kernel)) (by decide) hm_z
  replace hm_z := rn_cmpF (am_cur_of (i := (14, 3, .if_icmp .le 9, (12, 0, 0), 0)) (by decide +kernel)) (by decide) hm_z
  replace hm_z := rn_aload_n (am_cur_of (i := (17, 1, .aload_n 0, (0, 0, 0), 0)) (by decide +kernel)) g0m hm_z
  replace hm_z := rn_iconst (w := 1) (am_cur_of (i := (18, 1, .iconst 1, (0, 0, 0), 0)) (by decide +kernel)) (by decide) hm_z
  replace hm_z := rn_callV (M' := am_m158) (o := 164) (ar := [.int 1]) (rest := []) (L := lv_args 0 [.ref 164, .int 1]) (am_cur_of (i := (19, 3, .invokevirtual 181, (158, 1665, 3), 0)) (by decide +kernel)) rfl rfl rfl rfl hm_z
  obtain ⟨r690_z, h691_z, q692_z, hm_z⟩ := hm_z
  obtain ⟨rfl, yq692_z⟩ := rp_wrong q692_z
  subst yq692_z
  replace hm_z : rn _ _ _ _ [.int 0] _ _ _ := hm_z
  replace hm_z := rn_iret (am_cur_of (i := (22, 1, .ireturn, (0, 0, 0), 0)) (by decide +kernel)) hm_z
  obtain ⟨e693_z, e694_z⟩ := hm_z
  subst e693_z e694_z
  exact Or.inr (Or.inl ⟨rfl, _, 1, by decide, K.1, K.2.trans R5, rfl, R6⟩)
theorem pm_all23 {T : Nat → Int32} {S x p : Int32} {n n' : Nat} {h h' g g' : am_H} {r r' : Option Value} (R : rq T S x p 23 h g) (A : rp 23 h g) (B : rp_t h g) (hc_z : rn n am_m26 0 (lv_args 0 [.ref 44]) [] h r h') (hm_z : rn n' am_m157 0 (lv_args 0 [.ref 164]) [] g r' g') : pm_Q T S x 23 h' g' r' := by
  by_cases ka : rg_v h 44 10 = 2
  · rcases tk_w17 R.2.2.2.2.2.2.2.2.2 ka with ⟨kb, kc, kd⟩ | ⟨kb, kc, kd⟩ | ⟨kb, kc, kd⟩ | ⟨kb, kc, kd⟩ | ⟨kb, kc, kd⟩ | ⟨kb, kc, kd⟩ | ⟨kb, kc, kd⟩ | ⟨kb, kc, kd⟩ | ⟨kb, kc, kd⟩ | ⟨kb, kc, kd⟩ | ⟨kb, kc, kd⟩ | ⟨kb, kc, kd⟩ | ⟨kb, kc, kd⟩ | ⟨kb, kc, kd⟩ | ⟨kb, kc, kd⟩ | ⟨kb, kc, kd⟩ | ⟨kb, kc, kd⟩
    · exact pm_k0_23 R A B ka kb kc kd hc_z hm_z
    · exact pm_k1_23 R A B ka kb kc kd hc_z hm_z
    · exact pm_k2_23 R A B ka kb kc kd hc_z hm_z
    · exact pm_k3_23 R A B ka kb kc kd hc_z hm_z
    · exact pm_k4_23 R A B ka kb kc kd hc_z hm_z
    · exact pm_k5_23 R A B ka kb kc kd hc_z hm_z
    · exact pm_k6_23 R A B ka kb kc kd hc_z hm_z
    · exact pm_k7_23 R A B ka kb kc kd hc_z hm_z
    · exact pm_k8_23 R A B ka kb kc kd hc_z hm_z
    · exact pm_k9_23 R A B ka kb kc kd hc_z hm_z
    · exact pm_k10_23 R A B ka kb kc kd hc_z hm_z
    · exact pm_k11_23 R A B ka kb kc kd hc_z hm_z
    · exact pm_k12_23 R A B ka kb kc kd hc_z hm_z
    · exact pm_k13_23 R A B ka kb kc kd hc_z hm_z
    · exact pm_k14_23 R A B ka kb kc kd hc_z hm_z
    · exact pm_k15_23 R A B ka kb kc kd hc_z hm_z
    · exact pm_k16_23 R A B ka kb kc kd hc_z hm_z
  · exact pm_kn_23 R A B ka hc_z hm_z
/-- a LINE with its end, of both -/
def ln_Q (T : Nat → Int32) (S p : Int32) (d : Nat) (h h' g' : am_H) (r' : Option Value) : Prop := (r' = some (.int 1) ∧ ∃ x2_z p2_z, rq T S x2_z p2_z d h' g' ∧ p.toInt < p2_z.toInt ∧ rp d h' g' ∧ rp_t h' g' ∧ rg_v h' 44 0 = rg_v h 44 0 + 1) ∨ (r' = some (.int 0) ∧ ∃ p2_z, rq_F p2_z h' g')
theorem rq0_ln {T : Nat → Int32} {S x p : Int32} {d : Nat} {h g : am_H} {v : Value} (R : rq T S x p d h g) : rq T S x p d (am_up h 44 0 v) g := by
  obtain ⟨⟨c1_z, c2_z, c3_z, c4_z, c5_z, c6_z, c7_z, c8_z⟩, R2, R3, R4, R5, R6, R7, R8, R9, R10⟩ := R
  exact ⟨⟨c1_z, c2_z, c3_z, c4_z, c5_z, c6_z, c7_z, c8_z⟩, R2, R3, R4, R5, R6, R7, R8, R9, R10⟩
theorem ln2_z {n1_z : Nat} {k : am_H} {r1_z : Option Value} {T : Nat → Int32} {S x p : Int32} {n n' : Nat} {h h' g g' : am_H} {r r' : Option Value} (R : rq T S x p 2 h g) (A : rp 2 h g) (B : rp_t h g) (kn : ¬ rg_v h 44 10 = 0) (hc_z : rn n am_m26 0 (lv_args 0 [.ref 44]) [] h r k) (he : rn n1_z am_m53 0 (lv_args 0 [.ref 44]) [] k r1_z h') (hm_z : rn n' am_m157 0 (lv_args 0 [.ref 164]) [] g r' g') : ln_Q T S p 2 h h' g' r' := by
  have px := R.2.2.2.2.2.2.2.1
  have pk := (R.2.2.2.2.2.2.2.2.1).resolve_left kn
  have k0_z := rl_keep (a := 26) (by decide) rfl hc_z
  rcases pm_all2 R A B hc_z hm_z with ⟨x2_z, p2_z, n2_z, g1_z, ls3_z, R2, le2_z, A2, B2, g0m, g1m, hm_z⟩ | ⟨rfl, p2_z, wv, v0_z, f1_z, f2_z, f3_z, f4_z⟩ | ⟨rfl, p2_z, u1_z, u2_z, u3_z, u4_z, u5_z⟩
  · have g0_z : am_get (lv_args 0 [.ref 44]) 0 = some (.ref 44) := rfl
    have px2_z := R2.2.2.2.2.2.2.2.1
    have R5 := R2.2.2.2.2.1
    have R6 := R2.2.2.2.2.2.1
    by_cases ks : rg_v k 44 10 = 5 ∧ rg_v k 44 11 = 59
    · have km := tk_semiC R2.2.2.2.2.2.2.2.2.2 ks.1 ks.2
      have pk2_z := (R2.2.2.2.2.2.2.2.2.1).resolve_left (fun q => absurd (ks.1.symm.trans q) (by decide))
      replace he := rn_aload_n (am_cur_of (i := (0, 1, .aload_n 0, (0, 0, 0), 0)) (by decide +kernel)) g0_z he
      replace he := rn_bipush (w := 59) (am_cur_of (i := (1, 2, .bipush 59, (0, 0, 0), 0)) (by decide +kernel)) (by decide) he
      replace he := rn_callV (M' := am_m45) (o := 44) (ar := [.int 59]) (rest := []) (L := lv_args 0 [.ref 44, .int 59]) (am_cur_of (i := (3, 3, .invokevirtual 105, (45, 834, 3), 0)) (by decide +kernel)) rfl rfl rfl rfl he
      obtain ⟨r695_z, h696_z, q697_z, he⟩ := he
      obtain ⟨rfl, yq697_z⟩ := rp_mkT ks.1 ks.2 q697_z
      subst yq697_z
      replace he : rn _ _ _ _ [.int 1] _ _ _ := he
      replace he := rn_ifT (am_cur_of (i := (6, 3, .ifCond .ne 8, (7, 0, 0), 0)) (by decide +kernel)) (by decide) he
      replace he := rn_aload_n (am_cur_of (i := (14, 1, .aload_n 0, (0, 0, 0), 0)) (by decide +kernel)) g0_z he
      replace he := rn_getI (v := 0) (am_cur_of (i := (15, 3, .getfield 51, (4, 1, 408), 0)) (by decide +kernel)) (by decide +kernel) R2.2.2.2.1 he
      replace he := rn_ifF (am_cur_of (i := (18, 3, .ifCond .ne 17, (18, 0, 0), 0)) (by decide +kernel)) (by decide) he
      replace he := rn_aload_n (am_cur_of (i := (21, 1, .aload_n 0, (0, 0, 0), 0)) (by decide +kernel)) g0_z he
      replace he := rn_callV (M' := am_m19) (o := 44) (ar := []) (rest := []) (L := lv_args 0 [.ref 44]) (am_cur_of (i := (22, 3, .invokevirtual 57, (19, 727, 3), 0)) (by decide +kernel)) rfl rfl rfl rfl he
      obtain ⟨r698_z, h699_z, q700_z, he⟩ := he
      have vo := rn_void rfl q700_z
      subst vo
      replace hm_z := rn_iload_n (am_cur_of (i := (302, 1, .iload_n 1, (0, 0, 0), 0)) (by decide +kernel)) g1m hm_z
      replace hm_z := rn_ifT (am_cur_of (i := (303, 3, .ifCond .ne 5, (143, 0, 0), 0)) (by decide +kernel)) (by decide) hm_z
      replace hm_z := rn_aload_n (am_cur_of (i := (308, 1, .aload_n 0, (0, 0, 0), 0)) (by decide +kernel)) g0m hm_z
      replace hm_z := rn_bipush (w := 59) (am_cur_of (i := (309, 2, .bipush 59, (0, 0, 0), 0)) (by decide +kernel)) (by decide) hm_z
      replace hm_z := rn_callV (M' := am_m171) (o := 164) (ar := [.int 59]) (rest := []) (L := lv_args 0 [.ref 164, .int 59]) (am_cur_of (i := (311, 3, .invokevirtual 194, (171, 1715, 3), 0)) (by decide +kernel)) rfl rfl rfl rfl hm_z
      obtain ⟨r701_z, h702_z, q703_z, hm_z⟩ := hm_z
      obtain ⟨rfl, yq703_z⟩ := rp_sgT km.1 km.2 q703_z
      subst yq703_z
      replace hm_z : rn _ _ _ _ [.int 1] _ _ _ := hm_z
      replace hm_z := rn_ifT (am_cur_of (i := (314, 3, .ifCond .ne 9, (151, 0, 0), 0)) (by decide +kernel)) (by decide) hm_z
      replace hm_z := rn_aload_n (am_cur_of (i := (323, 1, .aload_n 0, (0, 0, 0), 0)) (by decide +kernel)) g0m hm_z
      replace hm_z := rn_callV (M' := am_m151) (o := 164) (ar := []) (rest := []) (L := lv_args 0 [.ref 164]) (am_cur_of (i := (324, 3, .invokevirtual 191, (151, 1636, 3), 0)) (by decide +kernel)) rfl rfl rfl rfl hm_z
      obtain ⟨r704_z, h705_z, q706_z, hm_z⟩ := hm_z
      have vo := rn_void rfl q706_z
      subst vo
      obtain ⟨-, -, x3_z, p3_z, R3, le3_z, t5_z, t6_z⟩ := pr_tok (rq_0 R2) q700_z q706_z
      have A3 := rp_x (by decide) A2 (rx_C_f t5_z) (rx_M_f t6_z)
      have B3 := rp_tk B2 (rg_v_fr t5_z (by decide)) (fun k => rg_v_fr t6_z (rg_v_in (by decide) k)) (rx_M_f t6_z)
      have k2_z : rg_v h699_z 44 0 = rg_v h 44 0 := (rg_v_fr t5_z (by decide)).trans k0_z
      replace hm_z : rn _ _ _ _ [] _ _ _ := hm_z
      replace he : rn _ _ _ _ [] _ _ _ := he
      replace he := rn_aload_n (am_cur_of (i := (25, 1, .aload_n 0, (0, 0, 0), 0)) (by decide +kernel)) g0_z he
      replace he := rn_dup (am_cur_of (i := (26, 1, .dup, (0, 0, 0), 0)) (by decide +kernel)) he
      replace he := rn_getI (v := rg_v h 44 0) (am_cur_of (i := (27, 3, .getfield 48, (4, 0, 406), 0)) (by decide +kernel)) (by decide +kernel) k2_z he
      replace he := rn_iconst (w := 1) (am_cur_of (i := (30, 1, .iconst 1, (0, 0, 0), 0)) (by decide +kernel)) (by decide) he
      replace he := rn_iadd (w := (rg_v h 44 0) + 1) (am_cur_of (i := (31, 1, .iadd, (0, 0, 0), 0)) (by decide +kernel)) rfl he
      replace he := rn_put (am_cur_of (i := (32, 3, .putfield 48, (4, 0, 406), 0)) (by decide +kernel)) (by decide +kernel) he
      replace he := rn_vret (am_cur_of (i := (35, 1, .return_, (0, 0, 0), 0)) (by decide +kernel)) he
      obtain ⟨e707_z, e708_z⟩ := he
      subst e708_z
      replace hm_z := rn_iconst (w := 1) (am_cur_of (i := (327, 1, .iconst 1, (0, 0, 0), 0)) (by decide +kernel)) (by decide) hm_z
      replace hm_z := rn_iret (am_cur_of (i := (328, 1, .ireturn, (0, 0, 0), 0)) (by decide +kernel)) hm_z
      obtain ⟨e709_z, e710_z⟩ := hm_z
      replace e710_z := e710_z.symm
      subst e710_z
      exact Or.inl ⟨e709_z, x3_z, p3_z, rq0_ln R3, by omega, rp_x (by decide) A3 (rx_C_u (by decide) rx_C_r) rx_M_r, rp_tk B3 rfl (fun _ => rfl) rx_M_r, rfl⟩
    · have km : ¬ (rg_v g1_z 164 8 = 4 ∧ rg_v g1_z 164 9 = 59) := fun q => ks (tk_semiM R2.2.2.2.2.2.2.2.2.2 q.1 q.2)
      replace he := rn_aload_n (am_cur_of (i := (0, 1, .aload_n 0, (0, 0, 0), 0)) (by decide +kernel)) g0_z he
      replace he := rn_bipush (w := 59) (am_cur_of (i := (1, 2, .bipush 59, (0, 0, 0), 0)) (by decide +kernel)) (by decide) he
      replace he := rn_callV (M' := am_m45) (o := 44) (ar := [.int 59]) (rest := []) (L := lv_args 0 [.ref 44, .int 59]) (am_cur_of (i := (3, 3, .invokevirtual 105, (45, 834, 3), 0)) (by decide +kernel)) rfl rfl rfl rfl he
      obtain ⟨r711_z, h712_z, q713_z, he⟩ := he
      obtain ⟨rfl, yq713_z⟩ := rp_mkN ks q713_z
      subst yq713_z
      replace he : rn _ _ _ _ [.int 0] _ _ _ := he
      replace he := rn_ifF (am_cur_of (i := (6, 3, .ifCond .ne 8, (7, 0, 0), 0)) (by decide +kernel)) (by decide) he
      replace he := rn_aload_n (am_cur_of (i := (9, 1, .aload_n 0, (0, 0, 0), 0)) (by decide +kernel)) g0_z he
      replace he := rn_iconst (w := 1) (am_cur_of (i := (10, 1, .iconst 1, (0, 0, 0), 0)) (by decide +kernel)) (by decide) he
      replace he := rn_callV (M' := am_m29) (o := 44) (ar := [.int 1]) (rest := []) (L := lv_args 0 [.ref 44, .int 1]) (am_cur_of (i := (11, 3, .invokevirtual 108, (29, 769, 3), 0)) (by decide +kernel)) rfl rfl rfl rfl he
      obtain ⟨r714_z, h715_z, q716_z, he⟩ := he
      obtain ⟨rfl, yq716_z⟩ := rp_fail R2.2.2.2.1 q716_z
      subst yq716_z
      replace he : rn _ _ _ _ [] _ _ _ := he
      have K := rs_stick (w := 1) (a := 53) (by decide) (by decide) rfl (by decide) rfl rfl he
      replace hm_z := rn_iload_n (am_cur_of (i := (302, 1, .iload_n 1, (0, 0, 0), 0)) (by decide +kernel)) g1m hm_z
      replace hm_z := rn_ifT (am_cur_of (i := (303, 3, .ifCond .ne 5, (143, 0, 0), 0)) (by decide +kernel)) (by decide) hm_z
      replace hm_z := rn_aload_n (am_cur_of (i := (308, 1, .aload_n 0, (0, 0, 0), 0)) (by decide +kernel)) g0m hm_z
      replace hm_z := rn_bipush (w := 59) (am_cur_of (i := (309, 2, .bipush 59, (0, 0, 0), 0)) (by decide +kernel)) (by decide) hm_z
      replace hm_z := rn_callV (M' := am_m171) (o := 164) (ar := [.int 59]) (rest := []) (L := lv_args 0 [.ref 164, .int 59]) (am_cur_of (i := (311, 3, .invokevirtual 194, (171, 1715, 3), 0)) (by decide +kernel)) rfl rfl rfl rfl hm_z
      obtain ⟨r717_z, h718_z, q719_z, hm_z⟩ := hm_z
      obtain ⟨rfl, yq719_z⟩ := rp_sgN km q719_z
      subst yq719_z
      replace hm_z : rn _ _ _ _ [.int 0] _ _ _ := hm_z
      replace hm_z := rn_ifF (am_cur_of (i := (314, 3, .ifCond .ne 9, (151, 0, 0), 0)) (by decide +kernel)) (by decide) hm_z
      replace hm_z := rn_aload_n (am_cur_of (i := (317, 1, .aload_n 0, (0, 0, 0), 0)) (by decide +kernel)) g0m hm_z
      replace hm_z := rn_iconst (w := 1) (am_cur_of (i := (318, 1, .iconst 1, (0, 0, 0), 0)) (by decide +kernel)) (by decide) hm_z
      replace hm_z := rn_callV (M' := am_m158) (o := 164) (ar := [.int 1]) (rest := []) (L := lv_args 0 [.ref 164, .int 1]) (am_cur_of (i := (319, 3, .invokevirtual 181, (158, 1665, 3), 0)) (by decide +kernel)) rfl rfl rfl rfl hm_z
      obtain ⟨r720_z, h721_z, q722_z, hm_z⟩ := hm_z
      obtain ⟨rfl, yq722_z⟩ := rp_wrong q722_z
      subst yq722_z
      replace hm_z : rn _ _ _ _ [.int 0] _ _ _ := hm_z
      replace hm_z := rn_iret (am_cur_of (i := (322, 1, .ireturn, (0, 0, 0), 0)) (by decide +kernel)) hm_z
      obtain ⟨e723_z, e724_z⟩ := hm_z
      subst e723_z e724_z
      exact Or.inr ⟨rfl, p2_z, 1, by decide, K.1, K.2.trans R5, rfl, R6⟩
  · have K := rs_stick (a := 53) (by decide) (by decide) rfl v0_z f1_z f2_z he
    exact Or.inr ⟨rfl, p2_z, wv, v0_z, K.1, K.2, f3_z, f4_z⟩
  · have g0_z : am_get (lv_args 0 [.ref 44]) 0 = some (.ref 44) := rfl
    replace he := rn_aload_n (am_cur_of (i := (0, 1, .aload_n 0, (0, 0, 0), 0)) (by decide +kernel)) g0_z he
    replace he := rn_bipush (w := 59) (am_cur_of (i := (1, 2, .bipush 59, (0, 0, 0), 0)) (by decide +kernel)) (by decide) he
    replace he := rn_callV (M' := am_m45) (o := 44) (ar := [.int 59]) (rest := []) (L := lv_args 0 [.ref 44, .int 59]) (am_cur_of (i := (3, 3, .invokevirtual 105, (45, 834, 3), 0)) (by decide +kernel)) rfl rfl rfl rfl he
    obtain ⟨r725_z, h726_z, q727_z, he⟩ := he
    obtain ⟨rfl, yq727_z⟩ := rp_mkN u3_z q727_z
    subst yq727_z
    replace he : rn _ _ _ _ [.int 0] _ _ _ := he
    replace he := rn_ifF (am_cur_of (i := (6, 3, .ifCond .ne 8, (7, 0, 0), 0)) (by decide +kernel)) (by decide) he
    replace he := rn_aload_n (am_cur_of (i := (9, 1, .aload_n 0, (0, 0, 0), 0)) (by decide +kernel)) g0_z he
    replace he := rn_iconst (w := 1) (am_cur_of (i := (10, 1, .iconst 1, (0, 0, 0), 0)) (by decide +kernel)) (by decide) he
    replace he := rn_callV (M' := am_m29) (o := 44) (ar := [.int 1]) (rest := []) (L := lv_args 0 [.ref 44, .int 1]) (am_cur_of (i := (11, 3, .invokevirtual 108, (29, 769, 3), 0)) (by decide +kernel)) rfl rfl rfl rfl he
    obtain ⟨r728_z, h729_z, q730_z, he⟩ := he
    obtain ⟨rfl, yq730_z⟩ := rp_fail u1_z q730_z
    subst yq730_z
    replace he : rn _ _ _ _ [] _ _ _ := he
    have K := rs_stick (w := 1) (a := 53) (by decide) (by decide) rfl (by decide) rfl rfl he
    exact Or.inr ⟨rfl, p2_z, 1, by decide, K.1, K.2.trans u2_z, u4_z, u5_z⟩
theorem ln23_z {n1_z : Nat} {k : am_H} {r1_z : Option Value} {T : Nat → Int32} {S x p : Int32} {n n' : Nat} {h h' g g' : am_H} {r r' : Option Value} (R : rq T S x p 23 h g) (A : rp 23 h g) (B : rp_t h g) (kn : ¬ rg_v h 44 10 = 0) (hc_z : rn n am_m26 0 (lv_args 0 [.ref 44]) [] h r k) (he : rn n1_z am_m53 0 (lv_args 0 [.ref 44]) [] k r1_z h') (hm_z : rn n' am_m157 0 (lv_args 0 [.ref 164]) [] g r' g') : ln_Q T S p 23 h h' g' r' := by
  have px := R.2.2.2.2.2.2.2.1
  have pk := (R.2.2.2.2.2.2.2.2.1).resolve_left kn
  have k0_z := rl_keep (a := 26) (by decide) rfl hc_z
  rcases pm_all23 R A B hc_z hm_z with ⟨x2_z, p2_z, n2_z, g1_z, ls3_z, R2, le2_z, A2, B2, g0m, g1m, hm_z⟩ | ⟨rfl, p2_z, wv, v0_z, f1_z, f2_z, f3_z, f4_z⟩ | ⟨rfl, p2_z, u1_z, u2_z, u3_z, u4_z, u5_z⟩
  · have g0_z : am_get (lv_args 0 [.ref 44]) 0 = some (.ref 44) := rfl
    have px2_z := R2.2.2.2.2.2.2.2.1
    have R5 := R2.2.2.2.2.1
    have R6 := R2.2.2.2.2.2.1
    by_cases ks : rg_v k 44 10 = 5 ∧ rg_v k 44 11 = 59
    · have km := tk_semiC R2.2.2.2.2.2.2.2.2.2 ks.1 ks.2
      have pk2_z := (R2.2.2.2.2.2.2.2.2.1).resolve_left (fun q => absurd (ks.1.symm.trans q) (by decide))
      replace he := rn_aload_n (am_cur_of (i := (0, 1, .aload_n 0, (0, 0, 0), 0)) (by decide +kernel)) g0_z he
      replace he := rn_bipush (w := 59) (am_cur_of (i := (1, 2, .bipush 59, (0, 0, 0), 0)) (by decide +kernel)) (by decide) he
      replace he := rn_callV (M' := am_m45) (o := 44) (ar := [.int 59]) (rest := []) (L := lv_args 0 [.ref 44, .int 59]) (am_cur_of (i := (3, 3, .invokevirtual 105, (45, 834, 3), 0)) (by decide +kernel)) rfl rfl rfl rfl he
      obtain ⟨r731_z, h732_z, q733_z, he⟩ := he
      obtain ⟨rfl, yq733_z⟩ := rp_mkT ks.1 ks.2 q733_z
      subst yq733_z
      replace he : rn _ _ _ _ [.int 1] _ _ _ := he
      replace he := rn_ifT (am_cur_of (i := (6, 3, .ifCond .ne 8, (7, 0, 0), 0)) (by decide +kernel)) (by decide) he
      replace he := rn_aload_n (am_cur_of (i := (14, 1, .aload_n 0, (0, 0, 0), 0)) (by decide +kernel)) g0_z he
      replace he := rn_getI (v := 0) (am_cur_of (i := (15, 3, .getfield 51, (4, 1, 408), 0)) (by decide +kernel)) (by decide +kernel) R2.2.2.2.1 he
      replace he := rn_ifF (am_cur_of (i := (18, 3, .ifCond .ne 17, (18, 0, 0), 0)) (by decide +kernel)) (by decide) he
      replace he := rn_aload_n (am_cur_of (i := (21, 1, .aload_n 0, (0, 0, 0), 0)) (by decide +kernel)) g0_z he
      replace he := rn_callV (M' := am_m19) (o := 44) (ar := []) (rest := []) (L := lv_args 0 [.ref 44]) (am_cur_of (i := (22, 3, .invokevirtual 57, (19, 727, 3), 0)) (by decide +kernel)) rfl rfl rfl rfl he
      obtain ⟨r734_z, h735_z, q736_z, he⟩ := he
      have vo := rn_void rfl q736_z
      subst vo
      replace hm_z := rn_iload_n (am_cur_of (i := (302, 1, .iload_n 1, (0, 0, 0), 0)) (by decide +kernel)) g1m hm_z
      replace hm_z := rn_ifT (am_cur_of (i := (303, 3, .ifCond .ne 5, (143, 0, 0), 0)) (by decide +kernel)) (by decide) hm_z
      replace hm_z := rn_aload_n (am_cur_of (i := (308, 1, .aload_n 0, (0, 0, 0), 0)) (by decide +kernel)) g0m hm_z
      replace hm_z := rn_bipush (w := 59) (am_cur_of (i := (309, 2, .bipush 59, (0, 0, 0), 0)) (by decide +kernel)) (by decide) hm_z
      replace hm_z := rn_callV (M' := am_m171) (o := 164) (ar := [.int 59]) (rest := []) (L := lv_args 0 [.ref 164, .int 59]) (am_cur_of (i := (311, 3, .invokevirtual 194, (171, 1715, 3), 0)) (by decide +kernel)) rfl rfl rfl rfl hm_z
      obtain ⟨r737_z, h738_z, q739_z, hm_z⟩ := hm_z
      obtain ⟨rfl, yq739_z⟩ := rp_sgT km.1 km.2 q739_z
      subst yq739_z
      replace hm_z : rn _ _ _ _ [.int 1] _ _ _ := hm_z
      replace hm_z := rn_ifT (am_cur_of (i := (314, 3, .ifCond .ne 9, (151, 0, 0), 0)) (by decide +kernel)) (by decide) hm_z
      replace hm_z := rn_aload_n (am_cur_of (i := (323, 1, .aload_n 0, (0, 0, 0), 0)) (by decide +kernel)) g0m hm_z
      replace hm_z := rn_callV (M' := am_m151) (o := 164) (ar := []) (rest := []) (L := lv_args 0 [.ref 164]) (am_cur_of (i := (324, 3, .invokevirtual 191, (151, 1636, 3), 0)) (by decide +kernel)) rfl rfl rfl rfl hm_z
      obtain ⟨r740_z, h741_z, q742_z, hm_z⟩ := hm_z
      have vo := rn_void rfl q742_z
      subst vo
      obtain ⟨-, -, x3_z, p3_z, R3, le3_z, t5_z, t6_z⟩ := pr_tok (rq_0 R2) q736_z q742_z
      have A3 := rp_x (by decide) A2 (rx_C_f t5_z) (rx_M_f t6_z)
      have B3 := rp_tk B2 (rg_v_fr t5_z (by decide)) (fun k => rg_v_fr t6_z (rg_v_in (by decide) k)) (rx_M_f t6_z)
      have k2_z : rg_v h735_z 44 0 = rg_v h 44 0 := (rg_v_fr t5_z (by decide)).trans k0_z
      replace hm_z : rn _ _ _ _ [] _ _ _ := hm_z
      replace he : rn _ _ _ _ [] _ _ _ := he
      replace he := rn_aload_n (am_cur_of (i := (25, 1, .aload_n 0, (0, 0, 0), 0)) (by decide +kernel)) g0_z he
      replace he := rn_dup (am_cur_of (i := (26, 1, .dup, (0, 0, 0), 0)) (by decide +kernel)) he
      replace he := rn_getI (v := rg_v h 44 0) (am_cur_of (i := (27, 3, .getfield 48, (4, 0, 406), 0)) (by decide +kernel)) (by decide +kernel) k2_z he
      replace he := rn_iconst (w := 1) (am_cur_of (i := (30, 1, .iconst 1, (0, 0, 0), 0)) (by decide +kernel)) (by decide) he
      replace he := rn_iadd (w := (rg_v h 44 0) + 1) (am_cur_of (i := (31, 1, .iadd, (0, 0, 0), 0)) (by decide +kernel)) rfl he
      replace he := rn_put (am_cur_of (i := (32, 3, .putfield 48, (4, 0, 406), 0)) (by decide +kernel)) (by decide +kernel) he
      replace he := rn_vret (am_cur_of (i := (35, 1, .return_, (0, 0, 0), 0)) (by decide +kernel)) he
      obtain ⟨e743_z, e744_z⟩ := he
      subst e744_z
      replace hm_z := rn_iconst (w := 1) (am_cur_of (i := (327, 1, .iconst 1, (0, 0, 0), 0)) (by decide +kernel)) (by decide) hm_z
      replace hm_z := rn_iret (am_cur_of (i := (328, 1, .ireturn, (0, 0, 0), 0)) (by decide +kernel)) hm_z
      obtain ⟨e745_z, e746_z⟩ := hm_z
      replace e746_z := e746_z.symm
      subst e746_z
      exact Or.inl ⟨e745_z, x3_z, p3_z, rq0_ln R3, by omega, rp_x (by decide) A3 (rx_C_u (by decide) rx_C_r) rx_M_r, rp_tk B3 rfl (fun _ => rfl) rx_M_r, rfl⟩
    · have km : ¬ (rg_v g1_z 164 8 = 4 ∧ rg_v g1_z 164 9 = 59) := fun q => ks (tk_semiM R2.2.2.2.2.2.2.2.2.2 q.1 q.2)
      replace he := rn_aload_n (am_cur_of (i := (0, 1, .aload_n 0, (0, 0, 0), 0)) (by decide +kernel)) g0_z he
      replace he := rn_bipush (w := 59) (am_cur_of (i := (1, 2, .bipush 59, (0, 0, 0), 0)) (by decide +kernel)) (by decide) he
      replace he := rn_callV (M' := am_m45) (o := 44) (ar := [.int 59]) (rest := []) (L := lv_args 0 [.ref 44, .int 59]) (am_cur_of (i := (3, 3, .invokevirtual 105, (45, 834, 3), 0)) (by decide +kernel)) rfl rfl rfl rfl he
      obtain ⟨r747_z, h748_z, q749_z, he⟩ := he
      obtain ⟨rfl, yq749_z⟩ := rp_mkN ks q749_z
      subst yq749_z
      replace he : rn _ _ _ _ [.int 0] _ _ _ := he
      replace he := rn_ifF (am_cur_of (i := (6, 3, .ifCond .ne 8, (7, 0, 0), 0)) (by decide +kernel)) (by decide) he
      replace he := rn_aload_n (am_cur_of (i := (9, 1, .aload_n 0, (0, 0, 0), 0)) (by decide +kernel)) g0_z he
      replace he := rn_iconst (w := 1) (am_cur_of (i := (10, 1, .iconst 1, (0, 0, 0), 0)) (by decide +kernel)) (by decide) he
      replace he := rn_callV (M' := am_m29) (o := 44) (ar := [.int 1]) (rest := []) (L := lv_args 0 [.ref 44, .int 1]) (am_cur_of (i := (11, 3, .invokevirtual 108, (29, 769, 3), 0)) (by decide +kernel)) rfl rfl rfl rfl he
      obtain ⟨r750_z, h751_z, q752_z, he⟩ := he
      obtain ⟨rfl, yq752_z⟩ := rp_fail R2.2.2.2.1 q752_z
      subst yq752_z
      replace he : rn _ _ _ _ [] _ _ _ := he
      have K := rs_stick (w := 1) (a := 53) (by decide) (by decide) rfl (by decide) rfl rfl he
      replace hm_z := rn_iload_n (am_cur_of (i := (302, 1, .iload_n 1, (0, 0, 0), 0)) (by decide +kernel)) g1m hm_z
      replace hm_z := rn_ifT (am_cur_of (i := (303, 3, .ifCond .ne 5, (143, 0, 0), 0)) (by decide +kernel)) (by decide) hm_z
      replace hm_z := rn_aload_n (am_cur_of (i := (308, 1, .aload_n 0, (0, 0, 0), 0)) (by decide +kernel)) g0m hm_z
      replace hm_z := rn_bipush (w := 59) (am_cur_of (i := (309, 2, .bipush 59, (0, 0, 0), 0)) (by decide +kernel)) (by decide) hm_z
      replace hm_z := rn_callV (M' := am_m171) (o := 164) (ar := [.int 59]) (rest := []) (L := lv_args 0 [.ref 164, .int 59]) (am_cur_of (i := (311, 3, .invokevirtual 194, (171, 1715, 3), 0)) (by decide +kernel)) rfl rfl rfl rfl hm_z
      obtain ⟨r753_z, h754_z, q755_z, hm_z⟩ := hm_z
      obtain ⟨rfl, yq755_z⟩ := rp_sgN km q755_z
      subst yq755_z
      replace hm_z : rn _ _ _ _ [.int 0] _ _ _ := hm_z
      replace hm_z := rn_ifF (am_cur_of (i := (314, 3, .ifCond .ne 9, (151, 0, 0), 0)) (by decide +kernel)) (by decide) hm_z
      replace hm_z := rn_aload_n (am_cur_of (i := (317, 1, .aload_n 0, (0, 0, 0), 0)) (by decide +kernel)) g0m hm_z
      replace hm_z := rn_iconst (w := 1) (am_cur_of (i := (318, 1, .iconst 1, (0, 0, 0), 0)) (by decide +kernel)) (by decide) hm_z
      replace hm_z := rn_callV (M' := am_m158) (o := 164) (ar := [.int 1]) (rest := []) (L := lv_args 0 [.ref 164, .int 1]) (am_cur_of (i := (319, 3, .invokevirtual 181, (158, 1665, 3), 0)) (by decide +kernel)) rfl rfl rfl rfl hm_z
      obtain ⟨r756_z, h757_z, q758_z, hm_z⟩ := hm_z
      obtain ⟨rfl, yq758_z⟩ := rp_wrong q758_z
      subst yq758_z
      replace hm_z : rn _ _ _ _ [.int 0] _ _ _ := hm_z
      replace hm_z := rn_iret (am_cur_of (i := (322, 1, .ireturn, (0, 0, 0), 0)) (by decide +kernel)) hm_z
      obtain ⟨e759_z, e760_z⟩ := hm_z
      subst e759_z e760_z
      exact Or.inr ⟨rfl, p2_z, 1, by decide, K.1, K.2.trans R5, rfl, R6⟩
  · have K := rs_stick (a := 53) (by decide) (by decide) rfl v0_z f1_z f2_z he
    exact Or.inr ⟨rfl, p2_z, wv, v0_z, K.1, K.2, f3_z, f4_z⟩
  · have g0_z : am_get (lv_args 0 [.ref 44]) 0 = some (.ref 44) := rfl
    replace he := rn_aload_n (am_cur_of (i := (0, 1, .aload_n 0, (0, 0, 0), 0)) (by decide +kernel)) g0_z he
    replace he := rn_bipush (w := 59) (am_cur_of (i := (1, 2, .bipush 59, (0, 0, 0), 0)) (by decide +kernel)) (by decide) he
    replace he := rn_callV (M' := am_m45) (o := 44) (ar := [.int 59]) (rest := []) (L := lv_args 0 [.ref 44, .int 59]) (am_cur_of (i := (3, 3, .invokevirtual 105, (45, 834, 3), 0)) (by decide +kernel)) rfl rfl rfl rfl he
    obtain ⟨r761_z, h762_z, q763_z, he⟩ := he
    obtain ⟨rfl, yq763_z⟩ := rp_mkN u3_z q763_z
    subst yq763_z
    replace he : rn _ _ _ _ [.int 0] _ _ _ := he
    replace he := rn_ifF (am_cur_of (i := (6, 3, .ifCond .ne 8, (7, 0, 0), 0)) (by decide +kernel)) (by decide) he
    replace he := rn_aload_n (am_cur_of (i := (9, 1, .aload_n 0, (0, 0, 0), 0)) (by decide +kernel)) g0_z he
    replace he := rn_iconst (w := 1) (am_cur_of (i := (10, 1, .iconst 1, (0, 0, 0), 0)) (by decide +kernel)) (by decide) he
    replace he := rn_callV (M' := am_m29) (o := 44) (ar := [.int 1]) (rest := []) (L := lv_args 0 [.ref 44, .int 1]) (am_cur_of (i := (11, 3, .invokevirtual 108, (29, 769, 3), 0)) (by decide +kernel)) rfl rfl rfl rfl he
    obtain ⟨r764_z, h765_z, q766_z, he⟩ := he
    obtain ⟨rfl, yq766_z⟩ := rp_fail u1_z q766_z
    subst yq766_z
    replace he : rn _ _ _ _ [] _ _ _ := he
    have K := rs_stick (w := 1) (a := 53) (by decide) (by decide) rfl (by decide) rfl rfl he
    exact Or.inr ⟨rfl, p2_z, 1, by decide, K.1, K.2.trans u2_z, u4_z, u5_z⟩
