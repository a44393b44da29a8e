/-! ===== A LAW FROM ITS BEGINNING, in both readers (wip/r/gen99qw.py) ===== -/
/-- a LINE's own part, as the model stands at 139 of lineRead; or the fault; or the class saw no more signs -/
def pm_Q (T : Nat → Int32) (S x : Int32) (d : Nat) (h' g' : am_H) (r' : Option Value) : Prop := (∃ x2_z p2_z n2_z g1_z ls3_z, rq T S x2_z p2_z d h' g1_z ∧ x.toInt ≤ p2_z.toInt ∧ rp d h' g1_z ∧ rp_t h' g1_z ∧ am_get ls3_z 0 = some (.ref 164) ∧ am_get ls3_z 1 = some (.int 1) ∧ rn n2_z am_m157 139 ls3_z [] g1_z r' g') ∨ (r' = some (.int 0) ∧ ∃ p2_z, rq_F p2_z h' g') ∨ (r' = some (.int 0) ∧ ∃ p2_z, lw_3 p2_z h' g')
theorem rp_tc4 : ∀ b0_z b1_z b2_z b3_z b4_z b5_z b6_z : Bool, rp_tb b0_z b1_z b2_z b3_z b4_z b5_z b6_z ||| 512 = rp_tb b0_z b1_z b2_z b3_z true b5_z b6_z := by decide +kernel
theorem rp_tc5 : ∀ b0_z b1_z b2_z b3_z b4_z b5_z b6_z : Bool, rp_tb b0_z b1_z b2_z b3_z b4_z b5_z b6_z ||| 1024 = rp_tb b0_z b1_z b2_z b3_z b4_z true b6_z := by decide +kernel
theorem rp_tc6 : ∀ b0_z b1_z b2_z b3_z b4_z b5_z b6_z : Bool, rp_tb b0_z b1_z b2_z b3_z b4_z b5_z b6_z ||| 2048 = rp_tb b0_z b1_z b2_z b3_z b4_z b5_z true := by decide +kernel
theorem rq0_lw {T : Nat → Int32} {S x : Int32} {d : Nat} {h g : am_H} {v w : Value} {j : Nat} (R : rq0_z T S x d h g) : rq0_z T S x d (am_up h 44 7 v) (am_up g 178 j w) := by
  obtain ⟨⟨c1_z, c2_z, c3_z, c4_z, c5_z, c6_z, c7_z, c8_z⟩, ⟨m2_z, m3_z, m4_z, m5_z, m6_z, m7_z, m8_z⟩, R3, R4⟩ := R
  exact ⟨⟨c1_z, c2_z, c3_z, c4_z, c5_z, c6_z, c7_z, c8_z⟩, ⟨m2_z, m3_z, m4_z, m5_z, m6_z, m7_z, m8_z⟩, R3, R4⟩
theorem pm_le {T : Nat → Int32} {S x y : Int32} {d : Nat} {h' g' : am_H} {r' : Option Value} (hx_z : y.toInt ≤ x.toInt) (Q : pm_Q T S x d h' g' r') : pm_Q T S y d h' g' r' := by
  rcases Q with ⟨x2_z, p2_z, n2_z, g1_z, ls3_z, q1_z, q2_z, q3_z⟩ | Q | Q
  · exact Or.inl ⟨x2_z, p2_z, n2_z, g1_z, ls3_z, q1_z, by omega, q3_z⟩
  · exact Or.inr (Or.inl Q)
  · exact Or.inr (Or.inr Q)
theorem pl_lawn_2 {T : Nat → Int32} {S x p : Int32} {n n' : Nat} {h h' g g' : am_H} {r r' : Option Value} {ls ls2_z : am_L} (R : rq T S x p 2 h g) (A : rp 2 h g) (B : rp_t h g) (ka : ¬ rg_v h 44 10 = 2) (g0_z : am_get ls 0 = some (.ref 44)) (g0m : am_get ls2_z 0 = some (.ref 164)) (hc_z : rn n am_m42 2 ls [] h r h') (hm_z : rn n' am_m157 85 ls2_z [] g r' g') : pm_Q T S x 2 h' g' r' := by
  have z1_z : (1 : Int32).toInt = 1 := by decide
  have z2_z : (2 : Int32).toInt = 2 := by decide
  have z9_z : (9 : Int32).toInt = 9 := by decide
  have z11_z : (11 : Int32).toInt = 11 := by decide
  have R5 := R.2.2.2.2.1
  have R6 := R.2.2.2.2.2.1
  replace hc_z := rn_aload_n (am_cur_of (i := (4, 1, .aload_n 0, (0, 0, 0), 0)) (by decide +kernel)) g0_z hc_z
  replace hc_z := rn_getI (v := rg_v h 44 11) (am_cur_of (i := (5, 3, .getfield 91, (4, 11, 420), 0)) (by decide +kernel)) (by decide +kernel) rfl hc_z
  replace hc_z := rn_bipush (w := 9) (am_cur_of (i := (8, 2, .bipush 9, (0, 0, 0), 0)) (by decide +kernel)) (by decide) hc_z
  replace hc_z := rn_isub (w := (rg_v h 44 11) - 9) (am_cur_of (i := (10, 1, .isub, (0, 0, 0), 0)) (by decide +kernel)) rfl hc_z
  replace hc_z := rn_istore_n (am_cur_of (i := (11, 1, .istore_n 1, (0, 0, 0), 0)) (by decide +kernel)) hc_z
  obtain ⟨_, s237_z, s238_z, g1_z, hc_z⟩ := hc_z
  replace g0_z := s237_z 0 _ (by decide) rfl g0_z
  clear s237_z s238_z
  replace hc_z := rn_aload_n (am_cur_of (i := (12, 1, .aload_n 0, (0, 0, 0), 0)) (by decide +kernel)) g0_z hc_z
  replace hc_z := rn_getI (v := rg_v h 44 10) (am_cur_of (i := (13, 3, .getfield 60, (4, 10, 419), 0)) (by decide +kernel)) (by decide +kernel) rfl hc_z
  replace hc_z := rn_iconst (w := 2) (am_cur_of (i := (16, 1, .iconst 2, (0, 0, 0), 0)) (by decide +kernel)) (by decide) hc_z
  replace hc_z := rn_cmp (am_cur_of (i := (17, 3, .if_icmp .ne 12, (16, 0, 0), 0)) (by decide +kernel)) hc_z
  rcases hc_z with ⟨b239_z, hc_z⟩ | ⟨b239_z, hc_z⟩
  · replace b239_z : ¬ (rg_v h 44 10) = (2 : Int32) ∧ ¬ (rg_v h 44 10).toInt = (2 : Int32).toInt := b239_z
    replace hc_z := rn_aload_n (am_cur_of (i := (29, 1, .aload_n 0, (0, 0, 0), 0)) (by decide +kernel)) g0_z hc_z
    replace hc_z := rn_iconst (w := 1) (am_cur_of (i := (30, 1, .iconst 1, (0, 0, 0), 0)) (by decide +kernel)) (by decide) hc_z
    replace hc_z := rn_callV (M' := am_m29) (o := 44) (ar := [.int 1]) (rest := []) (L := lv_args 0 [.ref 44, .int 1]) (am_cur_of (i := (31, 3, .invokevirtual 108, (29, 769, 3), 0)) (by decide +kernel)) rfl rfl rfl rfl hc_z
    obtain ⟨r240_z, h241_z, q242_z, hc_z⟩ := hc_z
    obtain ⟨rfl, yq242_z⟩ := rp_fail R.2.2.2.1 q242_z
    subst yq242_z
    replace hc_z : rn _ _ _ _ [] _ _ _ := hc_z
    have K := rs_stick (w := 1) (a := 42) (by decide) (by decide) rfl (by decide) rfl rfl hc_z
    replace hm_z := rn_aload_n (am_cur_of (i := (209, 1, .aload_n 0, (0, 0, 0), 0)) (by decide +kernel)) g0m hm_z
    replace hm_z := rn_getI (v := rg_v g 164 8) (am_cur_of (i := (210, 3, .getfield 157, (12, 8, 1392), 0)) (by decide +kernel)) (by decide +kernel) rfl hm_z
    replace hm_z := rn_iconst (w := 1) (am_cur_of (i := (213, 1, .iconst 1, (0, 0, 0), 0)) (by decide +kernel)) (by decide) hm_z
    replace hm_z := rn_cmp (am_cur_of (i := (214, 3, .if_icmp .ne 21, (97, 0, 0), 0)) (by decide +kernel)) hm_z
    rcases hm_z with ⟨b243_z, hm_z⟩ | ⟨b243_z, hm_z⟩
    · replace b243_z : ¬ (rg_v g 164 8) = (1 : Int32) ∧ ¬ (rg_v g 164 8).toInt = (1 : Int32).toInt := b243_z
      replace hm_z := rn_aload_n (am_cur_of (i := (235, 1, .aload_n 0, (0, 0, 0), 0)) (by decide +kernel)) g0m hm_z
      replace hm_z := rn_iconst (w := 1) (am_cur_of (i := (236, 1, .iconst 1, (0, 0, 0), 0)) (by decide +kernel)) (by decide) hm_z
      replace hm_z := rn_callV (M' := am_m158) (o := 164) (ar := [.int 1]) (rest := []) (L := lv_args 0 [.ref 164, .int 1]) (am_cur_of (i := (237, 3, .invokevirtual 181, (158, 1665, 3), 0)) (by decide +kernel)) rfl rfl rfl rfl hm_z
      obtain ⟨r244_z, h245_z, q246_z, hm_z⟩ := hm_z
      obtain ⟨rfl, yq246_z⟩ := rp_wrong q246_z
      subst yq246_z
      replace hm_z : rn _ _ _ _ [.int 0] _ _ _ := hm_z
      replace hm_z := rn_iret (am_cur_of (i := (240, 1, .ireturn, (0, 0, 0), 0)) (by decide +kernel)) hm_z
      obtain ⟨e247_z, e248_z⟩ := hm_z
      subst e247_z e248_z
      exact Or.inr (Or.inl ⟨rfl, _, 1, by decide, K.1, K.2.trans R5, rfl, R6⟩)
    · replace b243_z : (rg_v g 164 8) = (1 : Int32) ∧ (rg_v g 164 8).toInt = (1 : Int32).toInt := b243_z
      have k11_z := tk_nw R.2.2.2.2.2.2.2.2.2 ka b243_z.1
      replace hm_z := rn_aload_n (am_cur_of (i := (217, 1, .aload_n 0, (0, 0, 0), 0)) (by decide +kernel)) g0m hm_z
      replace hm_z := rn_getI (v := rg_v g 164 9) (am_cur_of (i := (218, 3, .getfield 168, (12, 9, 1393), 0)) (by decide +kernel)) (by decide +kernel) rfl hm_z
      replace hm_z := rn_bipush (w := 9) (am_cur_of (i := (221, 2, .bipush 9, (0, 0, 0), 0)) (by decide +kernel)) (by decide) hm_z
      replace hm_z := rn_cmp (am_cur_of (i := (223, 3, .if_icmp .lt 12, (97, 0, 0), 0)) (by decide +kernel)) hm_z
      rcases hm_z with ⟨b249_z, hm_z⟩ | ⟨b249_z, hm_z⟩
      · replace b249_z : (rg_v g 164 9).toInt < (9 : Int32).toInt := b249_z
        replace hm_z := rn_aload_n (am_cur_of (i := (235, 1, .aload_n 0, (0, 0, 0), 0)) (by decide +kernel)) g0m hm_z
        replace hm_z := rn_iconst (w := 1) (am_cur_of (i := (236, 1, .iconst 1, (0, 0, 0), 0)) (by decide +kernel)) (by decide) hm_z
        replace hm_z := rn_callV (M' := am_m158) (o := 164) (ar := [.int 1]) (rest := []) (L := lv_args 0 [.ref 164, .int 1]) (am_cur_of (i := (237, 3, .invokevirtual 181, (158, 1665, 3), 0)) (by decide +kernel)) rfl rfl rfl rfl hm_z
        obtain ⟨r250_z, h251_z, q252_z, hm_z⟩ := hm_z
        obtain ⟨rfl, yq252_z⟩ := rp_wrong q252_z
        subst yq252_z
        replace hm_z : rn _ _ _ _ [.int 0] _ _ _ := hm_z
        replace hm_z := rn_iret (am_cur_of (i := (240, 1, .ireturn, (0, 0, 0), 0)) (by decide +kernel)) hm_z
        obtain ⟨e253_z, e254_z⟩ := hm_z
        subst e253_z e254_z
        exact Or.inr (Or.inl ⟨rfl, _, 1, by decide, K.1, K.2.trans R5, rfl, R6⟩)
      · replace b249_z : (9 : Int32).toInt ≤ (rg_v g 164 9).toInt := b249_z
        replace hm_z := rn_aload_n (am_cur_of (i := (226, 1, .aload_n 0, (0, 0, 0), 0)) (by decide +kernel)) g0m hm_z
        replace hm_z := rn_getI (v := rg_v g 164 9) (am_cur_of (i := (227, 3, .getfield 168, (12, 9, 1393), 0)) (by decide +kernel)) (by decide +kernel) rfl hm_z
        replace hm_z := rn_bipush (w := 11) (am_cur_of (i := (230, 2, .bipush 11, (0, 0, 0), 0)) (by decide +kernel)) (by decide) hm_z
        replace hm_z := rn_cmp (am_cur_of (i := (232, 3, .if_icmp .le 9, (101, 0, 0), 0)) (by decide +kernel)) hm_z
        rcases hm_z with ⟨b255_z, hm_z⟩ | ⟨b255_z, hm_z⟩
        · replace b255_z : (rg_v g 164 9).toInt ≤ (11 : Int32).toInt := b255_z
          omega
        · replace b255_z : (11 : Int32).toInt < (rg_v g 164 9).toInt := b255_z
          replace hm_z := rn_aload_n (am_cur_of (i := (235, 1, .aload_n 0, (0, 0, 0), 0)) (by decide +kernel)) g0m hm_z
          replace hm_z := rn_iconst (w := 1) (am_cur_of (i := (236, 1, .iconst 1, (0, 0, 0), 0)) (by decide +kernel)) (by decide) hm_z
          replace hm_z := rn_callV (M' := am_m158) (o := 164) (ar := [.int 1]) (rest := []) (L := lv_args 0 [.ref 164, .int 1]) (am_cur_of (i := (237, 3, .invokevirtual 181, (158, 1665, 3), 0)) (by decide +kernel)) rfl rfl rfl rfl hm_z
          obtain ⟨r256_z, h257_z, q258_z, hm_z⟩ := hm_z
          obtain ⟨rfl, yq258_z⟩ := rp_wrong q258_z
          subst yq258_z
          replace hm_z : rn _ _ _ _ [.int 0] _ _ _ := hm_z
          replace hm_z := rn_iret (am_cur_of (i := (240, 1, .ireturn, (0, 0, 0), 0)) (by decide +kernel)) hm_z
          obtain ⟨e259_z, e260_z⟩ := hm_z
          subst e259_z e260_z
          exact Or.inr (Or.inl ⟨rfl, _, 1, by decide, K.1, K.2.trans R5, rfl, R6⟩)
  · replace b239_z : (rg_v h 44 10) = (2 : Int32) ∧ (rg_v h 44 10).toInt = (2 : Int32).toInt := b239_z
    exact absurd b239_z.1 ka
theorem pl_law0_2 {T : Nat → Int32} {S x p : Int32} {n n' : Nat} {h h' g g' : am_H} {r r' : Option Value} {ls ls2_z : am_L} (R : rq T S x p 2 h g) (A : rp 2 h g) (B : rp_t h g) (ka : rg_v h 44 10 = 2) (kb : rg_v h 44 11 = 0) (kc : rg_v g 164 8 = 1) (kd : rg_v g 164 9 = 0) (g0_z : am_get ls 0 = some (.ref 44)) (g0m : am_get ls2_z 0 = some (.ref 164)) (hc_z : rn n am_m42 2 ls [] h r h') (hm_z : rn n' am_m157 85 ls2_z [] g r' g') : pm_Q T S x 2 h' g' r' := by
  have R5 := R.2.2.2.2.1
  have R6 := R.2.2.2.2.2.1
  replace hc_z := rn_aload_n (am_cur_of (i := (4, 1, .aload_n 0, (0, 0, 0), 0)) (by decide +kernel)) g0_z hc_z
  replace hc_z := rn_getI (v := 0) (am_cur_of (i := (5, 3, .getfield 91, (4, 11, 420), 0)) (by decide +kernel)) (by decide +kernel) kb hc_z
  replace hc_z := rn_bipush (w := 9) (am_cur_of (i := (8, 2, .bipush 9, (0, 0, 0), 0)) (by decide +kernel)) (by decide) hc_z
  replace hc_z := rn_isub (w := (-9)) (am_cur_of (i := (10, 1, .isub, (0, 0, 0), 0)) (by decide +kernel)) (by decide) hc_z
  replace hc_z := rn_istore_n (am_cur_of (i := (11, 1, .istore_n 1, (0, 0, 0), 0)) (by decide +kernel)) hc_z
  obtain ⟨_, s261_z, s262_z, g1_z, hc_z⟩ := hc_z
  replace g0_z := s261_z 0 _ (by decide) rfl g0_z
  clear s261_z s262_z
  replace hc_z := rn_aload_n (am_cur_of (i := (12, 1, .aload_n 0, (0, 0, 0), 0)) (by decide +kernel)) g0_z hc_z
  replace hc_z := rn_getI (v := 2) (am_cur_of (i := (13, 3, .getfield 60, (4, 10, 419), 0)) (by decide +kernel)) (by decide +kernel) ka hc_z
  replace hc_z := rn_iconst (w := 2) (am_cur_of (i := (16, 1, .iconst 2, (0, 0, 0), 0)) (by decide +kernel)) (by decide) hc_z
  replace hc_z := rn_cmpF (am_cur_of (i := (17, 3, .if_icmp .ne 12, (16, 0, 0), 0)) (by decide +kernel)) (by decide) hc_z
  replace hc_z := rn_iload_n (am_cur_of (i := (20, 1, .iload_n 1, (0, 0, 0), 0)) (by decide +kernel)) g1_z hc_z
  replace hc_z := rn_ifT (am_cur_of (i := (21, 3, .ifCond .lt 8, (16, 0, 0), 0)) (by decide +kernel)) (by decide) hc_z
  replace hc_z := rn_aload_n (am_cur_of (i := (29, 1, .aload_n 0, (0, 0, 0), 0)) (by decide +kernel)) g0_z hc_z
  replace hc_z := rn_iconst (w := 1) (am_cur_of (i := (30, 1, .iconst 1, (0, 0, 0), 0)) (by decide +kernel)) (by decide) hc_z
  replace hc_z := rn_callV (M' := am_m29) (o := 44) (ar := [.int 1]) (rest := []) (L := lv_args 0 [.ref 44, .int 1]) (am_cur_of (i := (31, 3, .invokevirtual 108, (29, 769, 3), 0)) (by decide +kernel)) rfl rfl rfl rfl hc_z
  obtain ⟨r263_z, h264_z, q265_z, hc_z⟩ := hc_z
  obtain ⟨rfl, yq265_z⟩ := rp_fail R.2.2.2.1 q265_z
  subst yq265_z
  replace hc_z : rn _ _ _ _ [] _ _ _ := hc_z
  have K := rs_stick (w := 1) (a := 42) (by decide) (by decide) rfl (by decide) rfl rfl hc_z
  replace hm_z := rn_aload_n (am_cur_of (i := (209, 1, .aload_n 0, (0, 0, 0), 0)) (by decide +kernel)) g0m hm_z
  replace hm_z := rn_getI (v := 1) (am_cur_of (i := (210, 3, .getfield 157, (12, 8, 1392), 0)) (by decide +kernel)) (by decide +kernel) kc hm_z
  replace hm_z := rn_iconst (w := 1) (am_cur_of (i := (213, 1, .iconst 1, (0, 0, 0), 0)) (by decide +kernel)) (by decide) hm_z
  replace hm_z := rn_cmpF (am_cur_of (i := (214, 3, .if_icmp .ne 21, (97, 0, 0), 0)) (by decide +kernel)) (by decide) hm_z
  replace hm_z := rn_aload_n (am_cur_of (i := (217, 1, .aload_n 0, (0, 0, 0), 0)) (by decide +kernel)) g0m hm_z
  replace hm_z := rn_getI (v := 0) (am_cur_of (i := (218, 3, .getfield 168, (12, 9, 1393), 0)) (by decide +kernel)) (by decide +kernel) kd hm_z
  replace hm_z := rn_bipush (w := 9) (am_cur_of (i := (221, 2, .bipush 9, (0, 0, 0), 0)) (by decide +kernel)) (by decide) hm_z
  replace hm_z := rn_cmpT (am_cur_of (i := (223, 3, .if_icmp .lt 12, (97, 0, 0), 0)) (by decide +kernel)) (by decide) hm_z
  replace hm_z := rn_aload_n (am_cur_of (i := (235, 1, .aload_n 0, (0, 0, 0), 0)) (by decide +kernel)) g0m hm_z
  replace hm_z := rn_iconst (w := 1) (am_cur_of (i := (236, 1, .iconst 1, (0, 0, 0), 0)) (by decide +kernel)) (by decide) hm_z
  replace hm_z := rn_callV (M' := am_m158) (o := 164) (ar := [.int 1]) (rest := []) (L := lv_args 0 [.ref 164, .int 1]) (am_cur_of (i := (237, 3, .invokevirtual 181, (158, 1665, 3), 0)) (by decide +kernel)) rfl rfl rfl rfl hm_z
  obtain ⟨r266_z, h267_z, q268_z, hm_z⟩ := hm_z
  obtain ⟨rfl, yq268_z⟩ := rp_wrong q268_z
  subst yq268_z
  replace hm_z : rn _ _ _ _ [.int 0] _ _ _ := hm_z
  replace hm_z := rn_iret (am_cur_of (i := (240, 1, .ireturn, (0, 0, 0), 0)) (by decide +kernel)) hm_z
  obtain ⟨e269_z, e270_z⟩ := hm_z
  subst e269_z e270_z
  exact Or.inr (Or.inl ⟨rfl, _, 1, by decide, K.1, K.2.trans R5, rfl, R6⟩)
theorem pl_law1_2 {T : Nat → Int32} {S x p : Int32} {n n' : Nat} {h h' g g' : am_H} {r r' : Option Value} {ls ls2_z : am_L} (R : rq T S x p 2 h g) (A : rp 2 h g) (B : rp_t h g) (ka : rg_v h 44 10 = 2) (kb : rg_v h 44 11 = 1) (kc : rg_v g 164 8 = 1) (kd : rg_v g 164 9 = 1) (g0_z : am_get ls 0 = some (.ref 44)) (g0m : am_get ls2_z 0 = some (.ref 164)) (hc_z : rn n am_m42 2 ls [] h r h') (hm_z : rn n' am_m157 85 ls2_z [] g r' g') : pm_Q T S x 2 h' g' r' := by
  have R5 := R.2.2.2.2.1
  have R6 := R.2.2.2.2.2.1
  replace hc_z := rn_aload_n (am_cur_of (i := (4, 1, .aload_n 0, (0, 0, 0), 0)) (by decide +kernel)) g0_z hc_z
  replace hc_z := rn_getI (v := 1) (am_cur_of (i := (5, 3, .getfield 91, (4, 11, 420), 0)) (by decide +kernel)) (by decide +kernel) kb hc_z
  replace hc_z := rn_bipush (w := 9) (am_cur_of (i := (8, 2, .bipush 9, (0, 0, 0), 0)) (by decide +kernel)) (by decide) hc_z
  replace hc_z := rn_isub (w := (-8)) (am_cur_of (i := (10, 1, .isub, (0, 0, 0), 0)) (by decide +kernel)) (by decide) hc_z
  replace hc_z := rn_istore_n (am_cur_of (i := (11, 1, .istore_n 1, (0, 0, 0), 0)) (by decide +kernel)) hc_z
  obtain ⟨_, s271_z, s272_z, g1_z, hc_z⟩ := hc_z
  replace g0_z := s271_z 0 _ (by decide) rfl g0_z
  clear s271_z s272_z
  replace hc_z := rn_aload_n (am_cur_of (i := (12, 1, .aload_n 0, (0, 0, 0), 0)) (by decide +kernel)) g0_z hc_z
  replace hc_z := rn_getI (v := 2) (am_cur_of (i := (13, 3, .getfield 60, (4, 10, 419), 0)) (by decide +kernel)) (by decide +kernel) ka hc_z
  replace hc_z := rn_iconst (w := 2) (am_cur_of (i := (16, 1, .iconst 2, (0, 0, 0), 0)) (by decide +kernel)) (by decide) hc_z
  replace hc_z := rn_cmpF (am_cur_of (i := (17, 3, .if_icmp .ne 12, (16, 0, 0), 0)) (by decide +kernel)) (by decide) hc_z
  replace hc_z := rn_iload_n (am_cur_of (i := (20, 1, .iload_n 1, (0, 0, 0), 0)) (by decide +kernel)) g1_z hc_z
  replace hc_z := rn_ifT (am_cur_of (i := (21, 3, .ifCond .lt 8, (16, 0, 0), 0)) (by decide +kernel)) (by decide) hc_z
  replace hc_z := rn_aload_n (am_cur_of (i := (29, 1, .aload_n 0, (0, 0, 0), 0)) (by decide +kernel)) g0_z hc_z
  replace hc_z := rn_iconst (w := 1) (am_cur_of (i := (30, 1, .iconst 1, (0, 0, 0), 0)) (by decide +kernel)) (by decide) hc_z
  replace hc_z := rn_callV (M' := am_m29) (o := 44) (ar := [.int 1]) (rest := []) (L := lv_args 0 [.ref 44, .int 1]) (am_cur_of (i := (31, 3, .invokevirtual 108, (29, 769, 3), 0)) (by decide +kernel)) rfl rfl rfl rfl hc_z
  obtain ⟨r273_z, h274_z, q275_z, hc_z⟩ := hc_z
  obtain ⟨rfl, yq275_z⟩ := rp_fail R.2.2.2.1 q275_z
  subst yq275_z
  replace hc_z : rn _ _ _ _ [] _ _ _ := hc_z
  have K := rs_stick (w := 1) (a := 42) (by decide) (by decide) rfl (by decide) rfl rfl hc_z
  replace hm_z := rn_aload_n (am_cur_of (i := (209, 1, .aload_n 0, (0, 0, 0), 0)) (by decide +kernel)) g0m hm_z
  replace hm_z := rn_getI (v := 1) (am_cur_of (i := (210, 3, .getfield 157, (12, 8, 1392), 0)) (by decide +kernel)) (by decide +kernel) kc hm_z
  replace hm_z := rn_iconst (w := 1) (am_cur_of (i := (213, 1, .iconst 1, (0, 0, 0), 0)) (by decide +kernel)) (by decide) hm_z
  replace hm_z := rn_cmpF (am_cur_of (i := (214, 3, .if_icmp .ne 21, (97, 0, 0), 0)) (by decide +kernel)) (by decide) hm_z
  replace hm_z := rn_aload_n (am_cur_of (i := (217, 1, .aload_n 0, (0, 0, 0), 0)) (by decide +kernel)) g0m hm_z
  replace hm_z := rn_getI (v := 1) (am_cur_of (i := (218, 3, .getfield 168, (12, 9, 1393), 0)) (by decide +kernel)) (by decide +kernel) kd hm_z
  replace hm_z := rn_bipush (w := 9) (am_cur_of (i := (221, 2, .bipush 9, (0, 0, 0), 0)) (by decide +kernel)) (by decide) hm_z
  replace hm_z := rn_cmpT (am_cur_of (i := (223, 3, .if_icmp .lt 12, (97, 0, 0), 0)) (by decide +kernel)) (by decide) hm_z
  replace hm_z := rn_aload_n (am_cur_of (i := (235, 1, .aload_n 0, (0, 0, 0), 0)) (by decide +kernel)) g0m hm_z
  replace hm_z := rn_iconst (w := 1) (am_cur_of (i := (236, 1, .iconst 1, (0, 0, 0), 0)) (by decide +kernel)) (by decide) hm_z
  replace hm_z := rn_callV (M' := am_m158) (o := 164) (ar := [.int 1]) (rest := []) (L := lv_args 0 [.ref 164, .int 1]) (am_cur_of (i := (237, 3, .invokevirtual 181, (158, 1665, 3), 0)) (by decide +kernel)) rfl rfl rfl rfl hm_z
  obtain ⟨r276_z, h277_z, q278_z, hm_z⟩ := hm_z
  obtain ⟨rfl, yq278_z⟩ := rp_wrong q278_z
  subst yq278_z
  replace hm_z : rn _ _ _ _ [.int 0] _ _ _ := hm_z
  replace hm_z := rn_iret (am_cur_of (i := (240, 1, .ireturn, (0, 0, 0), 0)) (by decide +kernel)) hm_z
  obtain ⟨e279_z, e280_z⟩ := hm_z
  subst e279_z e280_z
  exact Or.inr (Or.inl ⟨rfl, _, 1, by decide, K.1, K.2.trans R5, rfl, R6⟩)
theorem pl_law2_2 {T : Nat → Int32} {S x p : Int32} {n n' : Nat} {h h' g g' : am_H} {r r' : Option Value} {ls ls2_z : am_L} (R : rq T S x p 2 h g) (A : rp 2 h g) (B : rp_t h g) (ka : rg_v h 44 10 = 2) (kb : rg_v h 44 11 = 2) (kc : rg_v g 164 8 = 1) (kd : rg_v g 164 9 = 2) (g0_z : am_get ls 0 = some (.ref 44)) (g0m : am_get ls2_z 0 = some (.ref 164)) (hc_z : rn n am_m42 2 ls [] h r h') (hm_z : rn n' am_m157 85 ls2_z [] g r' g') : pm_Q T S x 2 h' g' r' := by
  have R5 := R.2.2.2.2.1
  have R6 := R.2.2.2.2.2.1
  replace hc_z := rn_aload_n (am_cur_of (i := (4, 1, .aload_n 0, (0, 0, 0), 0)) (by decide +kernel)) g0_z hc_z
  replace hc_z := rn_getI (v := 2) (am_cur_of (i := (5, 3, .getfield 91, (4, 11, 420), 0)) (by decide +kernel)) (by decide +kernel) kb hc_z
  replace hc_z := rn_bipush (w := 9) (am_cur_of (i := (8, 2, .bipush 9, (0, 0, 0), 0)) (by decide +kernel)) (by decide) hc_z
  replace hc_z := rn_isub (w := (-7)) (am_cur_of (i := (10, 1, .isub, (0, 0, 0), 0)) (by decide +kernel)) (by decide) hc_z
  replace hc_z := rn_istore_n (am_cur_of (i := (11, 1, .istore_n 1, (0, 0, 0), 0)) (by decide +kernel)) hc_z
  obtain ⟨_, s281_z, s282_z, g1_z, hc_z⟩ := hc_z
  replace g0_z := s281_z 0 _ (by decide) rfl g0_z
  clear s281_z s282_z
  replace hc_z := rn_aload_n (am_cur_of (i := (12, 1, .aload_n 0, (0, 0, 0), 0)) (by decide +kernel)) g0_z hc_z
  replace hc_z := rn_getI (v := 2) (am_cur_of (i := (13, 3, .getfield 60, (4, 10, 419), 0)) (by decide +kernel)) (by decide +kernel) ka hc_z
  replace hc_z := rn_iconst (w := 2) (am_cur_of (i := (16, 1, .iconst 2, (0, 0, 0), 0)) (by decide +kernel)) (by decide) hc_z
  replace hc_z := rn_cmpF (am_cur_of (i := (17, 3, .if_icmp .ne 12, (16, 0, 0), 0)) (by decide +kernel)) (by decide) hc_z
  replace hc_z := rn_iload_n (am_cur_of (i := (20, 1, .iload_n 1, (0, 0, 0), 0)) (by decide +kernel)) g1_z hc_z
  replace hc_z := rn_ifT (am_cur_of (i := (21, 3, .ifCond .lt 8, (16, 0, 0), 0)) (by decide +kernel)) (by decide) hc_z
  replace hc_z := rn_aload_n (am_cur_of (i := (29, 1, .aload_n 0, (0, 0, 0), 0)) (by decide +kernel)) g0_z hc_z
  replace hc_z := rn_iconst (w := 1) (am_cur_of (i := (30, 1, .iconst 1, (0, 0, 0), 0)) (by decide +kernel)) (by decide) hc_z
  replace hc_z := rn_callV (M' := am_m29) (o := 44) (ar := [.int 1]) (rest := []) (L := lv_args 0 [.ref 44, .int 1]) (am_cur_of (i := (31, 3, .invokevirtual 108, (29, 769, 3), 0)) (by decide +kernel)) rfl rfl rfl rfl hc_z
  obtain ⟨r283_z, h284_z, q285_z, hc_z⟩ := hc_z
  obtain ⟨rfl, yq285_z⟩ := rp_fail R.2.2.2.1 q285_z
  subst yq285_z
  replace hc_z : rn _ _ _ _ [] _ _ _ := hc_z
  have K := rs_stick (w := 1) (a := 42) (by decide) (by decide) rfl (by decide) rfl rfl hc_z
  replace hm_z := rn_aload_n (am_cur_of (i := (209, 1, .aload_n 0, (0, 0, 0), 0)) (by decide +kernel)) g0m hm_z
  replace hm_z := rn_getI (v := 1) (am_cur_of (i := (210, 3, .getfield 157, (12, 8, 1392), 0)) (by decide +kernel)) (by decide +kernel) kc hm_z
  replace hm_z := rn_iconst (w := 1) (am_cur_of (i := (213, 1, .iconst 1, (0, 0, 0), 0)) (by decide +kernel)) (by decide) hm_z
  replace hm_z := rn_cmpF (am_cur_of (i := (214, 3, .if_icmp .ne 21, (97, 0, 0), 0)) (by decide +kernel)) (by decide) hm_z
  replace hm_z := rn_aload_n (am_cur_of (i := (217, 1, .aload_n 0, (0, 0, 0), 0)) (by decide +kernel)) g0m hm_z
  replace hm_z := rn_getI (v := 2) (am_cur_of (i := (218, 3, .getfield 168, (12, 9, 1393), 0)) (by decide +kernel)) (by decide +kernel) kd hm_z
  replace hm_z := rn_bipush (w := 9) (am_cur_of (i := (221, 2, .bipush 9, (0, 0, 0), 0)) (by decide +kernel)) (by decide) hm_z
  replace hm_z := rn_cmpT (am_cur_of (i := (223, 3, .if_icmp .lt 12, (97, 0, 0), 0)) (by decide +kernel)) (by decide) hm_z
  replace hm_z := rn_aload_n (am_cur_of (i := (235, 1, .aload_n 0, (0, 0, 0), 0)) (by decide +kernel)) g0m hm_z
  replace hm_z := rn_iconst (w := 1) (am_cur_of (i := (236, 1, .iconst 1, (0, 0, 0), 0)) (by decide +kernel)) (by decide) hm_z
  replace hm_z := rn_callV (M' := am_m158) (o := 164) (ar := [.int 1]) (rest := []) (L := lv_args 0 [.ref 164, .int 1]) (am_cur_of (i := (237, 3, .invokevirtual 181, (158, 1665, 3), 0)) (by decide +kernel)) rfl rfl rfl rfl hm_z
  obtain ⟨r286_z, h287_z, q288_z, hm_z⟩ := hm_z
  obtain ⟨rfl, yq288_z⟩ := rp_wrong q288_z
  subst yq288_z
  replace hm_z : rn _ _ _ _ [.int 0] _ _ _ := hm_z
  replace hm_z := rn_iret (am_cur_of (i := (240, 1, .ireturn, (0, 0, 0), 0)) (by decide +kernel)) hm_z
  obtain ⟨e289_z, e290_z⟩ := hm_z
  subst e289_z e290_z
  exact Or.inr (Or.inl ⟨rfl, _, 1, by decide, K.1, K.2.trans R5, rfl, R6⟩)
theorem pl_law3_2 {T : Nat → Int32} {S x p : Int32} {n n' : Nat} {h h' g g' : am_H} {r r' : Option Value} {ls ls2_z : am_L} (R : rq T S x p 2 h g) (A : rp 2 h g) (B : rp_t h g) (ka : rg_v h 44 10 = 2) (kb : rg_v h 44 11 = 3) (kc : rg_v g 164 8 = 1) (kd : rg_v g 164 9 = 3) (g0_z : am_get ls 0 = some (.ref 44)) (g0m : am_get ls2_z 0 = some (.ref 164)) (hc_z : rn n am_m42 2 ls [] h r h') (hm_z : rn n' am_m157 85 ls2_z [] g r' g') : pm_Q T S x 2 h' g' r' := by
  have R5 := R.2.2.2.2.1
  have R6 := R.2.2.2.2.2.1
  replace hc_z := rn_aload_n (am_cur_of (i := (4, 1, .aload_n 0, (0, 0, 0), 0)) (by decide +kernel)) g0_z hc_z
  replace hc_z := rn_getI (v := 3) (am_cur_of (i := (5, 3, .getfield 91, (4, 11, 420), 0)) (by decide +kernel)) (by decide +kernel) kb hc_z
  replace hc_z := rn_bipush (w := 9) (am_cur_of (i := (8, 2, .bipush 9, (0, 0, 0), 0)) (by decide +kernel)) (by decide) hc_z
  replace hc_z := rn_isub (w := (-6)) (am_cur_of (i := (10, 1, .isub, (0, 0, 0), 0)) (by decide +kernel)) (by decide) hc_z
  replace hc_z := rn_istore_n (am_cur_of (i := (11, 1, .istore_n 1, (0, 0, 0), 0)) (by decide +kernel)) hc_z
  obtain ⟨_, s291_z, s292_z, g1_z, hc_z⟩ := hc_z
  replace g0_z := s291_z 0 _ (by decide) rfl g0_z
  clear s291_z s292_z
  replace hc_z := rn_aload_n (am_cur_of (i := (12, 1, .aload_n 0, (0, 0, 0), 0)) (by decide +kernel)) g0_z hc_z
  replace hc_z := rn_getI (v := 2) (am_cur_of (i := (13, 3, .getfield 60, (4, 10, 419), 0)) (by decide +kernel)) (by decide +kernel) ka hc_z
  replace hc_z := rn_iconst (w := 2) (am_cur_of (i := (16, 1, .iconst 2, (0, 0, 0), 0)) (by decide +kernel)) (by decide) hc_z
  replace hc_z := rn_cmpF (am_cur_of (i := (17, 3, .if_icmp .ne 12, (16, 0, 0), 0)) (by decide +kernel)) (by decide) hc_z
  replace hc_z := rn_iload_n (am_cur_of (i := (20, 1, .iload_n 1, (0, 0, 0), 0)) (by decide +kernel)) g1_z hc_z
  replace hc_z := rn_ifT (am_cur_of (i := (21, 3, .ifCond .lt 8, (16, 0, 0), 0)) (by decide +kernel)) (by decide) hc_z
  replace hc_z := rn_aload_n (am_cur_of (i := (29, 1, .aload_n 0, (0, 0, 0), 0)) (by decide +kernel)) g0_z hc_z
  replace hc_z := rn_iconst (w := 1) (am_cur_of (i := (30, 1, .iconst 1, (0, 0, 0), 0)) (by decide +kernel)) (by decide) hc_z
  replace hc_z := rn_callV (M' := am_m29) (o := 44) (ar := [.int 1]) (rest := []) (L := lv_args 0 [.ref 44, .int 1]) (am_cur_of (i := (31, 3, .invokevirtual 108, (29, 769, 3), 0)) (by decide +kernel)) rfl rfl rfl rfl hc_z
  obtain ⟨r293_z, h294_z, q295_z, hc_z⟩ := hc_z
  obtain ⟨rfl, yq295_z⟩ := rp_fail R.2.2.2.1 q295_z
  subst yq295_z
  replace hc_z : rn _ _ _ _ [] _ _ _ := hc_z
  have K := rs_stick (w := 1) (a := 42) (by decide) (by decide) rfl (by decide) rfl rfl hc_z
  replace hm_z := rn_aload_n (am_cur_of (i := (209, 1, .aload_n 0, (0, 0, 0), 0)) (by decide +kernel)) g0m hm_z
  replace hm_z := rn_getI (v := 1) (am_cur_of (i := (210, 3, .getfield 157, (12, 8, 1392), 0)) (by decide +kernel)) (by decide +kernel) kc hm_z
  replace hm_z := rn_iconst (w := 1) (am_cur_of (i := (213, 1, .iconst 1, (0, 0, 0), 0)) (by decide +kernel)) (by decide) hm_z
  replace hm_z := rn_cmpF (am_cur_of (i := (214, 3, .if_icmp .ne 21, (97, 0, 0), 0)) (by decide +kernel)) (by decide) hm_z
  replace hm_z := rn_aload_n (am_cur_of (i := (217, 1, .aload_n 0, (0, 0, 0), 0)) (by decide +kernel)) g0m hm_z
  replace hm_z := rn_getI (v := 3) (am_cur_of (i := (218, 3, .getfield 168, (12, 9, 1393), 0)) (by decide +kernel)) (by decide +kernel) kd hm_z
  replace hm_z := rn_bipush (w := 9) (am_cur_of (i := (221, 2, .bipush 9, (0, 0, 0), 0)) (by decide +kernel)) (by decide) hm_z
  replace hm_z := rn_cmpT (am_cur_of (i := (223, 3, .if_icmp .lt 12, (97, 0, 0), 0)) (by decide +kernel)) (by decide) hm_z
  replace hm_z := rn_aload_n (am_cur_of (i := (235, 1, .aload_n 0, (0, 0, 0), 0)) (by decide +kernel)) g0m hm_z
  replace hm_z := rn_iconst (w := 1) (am_cur_of (i := (236, 1, .iconst 1, (0, 0, 0), 0)) (by decide +kernel)) (by decide) hm_z
  replace hm_z := rn_callV (M' := am_m158) (o := 164) (ar := [.int 1]) (rest := []) (L := lv_args 0 [.ref 164, .int 1]) (am_cur_of (i := (237, 3, .invokevirtual 181, (158, 1665, 3), 0)) (by decide +kernel)) rfl rfl rfl rfl hm_z
  obtain ⟨r296_z, h297_z, q298_z, hm_z⟩ := hm_z
  obtain ⟨rfl, yq298_z⟩ := rp_wrong q298_z
  subst yq298_z
  replace hm_z : rn _ _ _ _ [.int 0] _ _ _ := hm_z
  replace hm_z := rn_iret (am_cur_of (i := (240, 1, .ireturn, (0, 0, 0), 0)) (by decide +kernel)) hm_z
  obtain ⟨e299_z, e300_z⟩ := hm_z
  subst e299_z e300_z
  exact Or.inr (Or.inl ⟨rfl, _, 1, by decide, K.1, K.2.trans R5, rfl, R6⟩)
theorem pl_law4_2 {T : Nat → Int32} {S x p : Int32} {n n' : Nat} {h h' g g' : am_H} {r r' : Option Value} {ls ls2_z : am_L} (R : rq T S x p 2 h g) (A : rp 2 h g) (B : rp_t h g) (ka : rg_v h 44 10 = 2) (kb : rg_v h 44 11 = 4) (kc : rg_v g 164 8 = 1) (kd : rg_v g 164 9 = 4) (g0_z : am_get ls 0 = some (.ref 44)) (g0m : am_get ls2_z 0 = some (.ref 164)) (hc_z : rn n am_m42 2 ls [] h r h') (hm_z : rn n' am_m157 85 ls2_z [] g r' g') : pm_Q T S x 2 h' g' r' := by
  have R5 := R.2.2.2.2.1
  have R6 := R.2.2.2.2.2.1
  replace hc_z := rn_aload_n (am_cur_of (i := (4, 1, .aload_n 0, (0, 0, 0), 0)) (by decide +kernel)) g0_z hc_z
  replace hc_z := rn_getI (v := 4) (am_cur_of (i := (5, 3, .getfield 91, (4, 11, 420), 0)) (by decide +kernel)) (by decide +kernel) kb hc_z
  replace hc_z := rn_bipush (w := 9) (am_cur_of (i := (8, 2, .bipush 9, (0, 0, 0), 0)) (by decide +kernel)) (by decide) hc_z
  replace hc_z := rn_isub (w := (-5)) (am_cur_of (i := (10, 1, .isub, (0, 0, 0), 0)) (by decide +kernel)) (by decide) hc_z
  replace hc_z := rn_istore_n (am_cur_of (i := (11, 1, .istore_n 1, (0, 0, 0), 0)) (by decide +kernel)) hc_z
  obtain ⟨_, s301_z, s302_z, g1_z, hc_z⟩ := hc_z
  replace g0_z := s301_z 0 _ (by decide) rfl g0_z
  clear s301_z s302_z
  replace hc_z := rn_aload_n (am_cur_of (i := (12, 1, .aload_n 0, (0, 0, 0), 0)) (by decide +kernel)) g0_z hc_z
  replace hc_z := rn_getI (v := 2) (am_cur_of (i := (13, 3, .getfield 60, (4, 10, 419), 0)) (by decide +kernel)) (by decide +kernel) ka hc_z
  replace hc_z := rn_iconst (w := 2) (am_cur_of (i := (16, 1, .iconst 2, (0, 0, 0), 0)) (by decide +kernel)) (by decide) hc_z
  replace hc_z := rn_cmpF (am_cur_of (i := (17, 3, .if_icmp .ne 12, (16, 0, 0), 0)) (by decide +kernel)) (by decide) hc_z
  replace hc_z := rn_iload_n (am_cur_of (i := (20, 1, .iload_n 1, (0, 0, 0), 0)) (by decide +kernel)) g1_z hc_z
  replace hc_z := rn_ifT (am_cur_of (i := (21, 3, .ifCond .lt 8, (16, 0, 0), 0)) (by decide +kernel)) (by decide) hc_z
  replace hc_z := rn_aload_n (am_cur_of (i := (29, 1, .aload_n 0, (0, 0, 0), 0)) (by decide +kernel)) g0_z hc_z
  replace hc_z := rn_iconst (w := 1) (am_cur_of (i := (30, 1, .iconst 1, (0, 0, 0), 0)) (by decide +kernel)) (by decide) hc_z
  replace hc_z := rn_callV (M' := am_m29) (o := 44) (ar := [.int 1]) (rest := []) (L := lv_args 0 [.ref 44, .int 1]) (am_cur_of (i := (31, 3, .invokevirtual 108, (29, 769, 3), 0)) (by decide +kernel)) rfl rfl rfl rfl hc_z
  obtain ⟨r303_z, h304_z, q305_z, hc_z⟩ := hc_z
  obtain ⟨rfl, yq305_z⟩ := rp_fail R.2.2.2.1 q305_z
  subst yq305_z
  replace hc_z : rn _ _ _ _ [] _ _ _ := hc_z
  have K := rs_stick (w := 1) (a := 42) (by decide) (by decide) rfl (by decide) rfl rfl hc_z
  replace hm_z := rn_aload_n (am_cur_of (i := (209, 1, .aload_n 0, (0, 0, 0), 0)) (by decide +kernel)) g0m hm_z
  replace hm_z := rn_getI (v := 1) (am_cur_of (i := (210, 3, .getfield 157, (12, 8, 1392), 0)) (by decide +kernel)) (by decide +kernel) kc hm_z
  replace hm_z := rn_iconst (w := 1) (am_cur_of (i := (213, 1, .iconst 1, (0, 0, 0), 0)) (by decide +kernel)) (by decide) hm_z
  replace hm_z := rn_cmpF (am_cur_of (i := (214, 3, .if_icmp .ne 21, (97, 0, 0), 0)) (by decide +kernel)) (by decide) hm_z
  replace hm_z := rn_aload_n (am_cur_of (i := (217, 1, .aload_n 0, (0, 0, 0), 0)) (by decide +kernel)) g0m hm_z
  replace hm_z := rn_getI (v := 4) (am_cur_of (i := (218, 3, .getfield 168, (12, 9, 1393), 0)) (by decide +kernel)) (by decide +kernel) kd hm_z
  replace hm_z := rn_bipush (w := 9) (am_cur_of (i := (221, 2, .bipush 9, (0, 0, 0), 0)) (by decide +kernel)) (by decide) hm_z
  replace hm_z := rn_cmpT (am_cur_of (i := (223, 3, .if_icmp .lt 12, (97, 0, 0), 0)) (by decide +kernel)) (by decide) hm_z
  replace hm_z := rn_aload_n (am_cur_of (i := (235, 1, .aload_n 0, (0, 0, 0), 0)) (by decide +kernel)) g0m hm_z
  replace hm_z := rn_iconst (w := 1) (am_cur_of (i := (236, 1, .iconst 1, (0, 0, 0), 0)) (by decide +kernel)) (by decide) hm_z
  replace hm_z := rn_callV (M' := am_m158) (o := 164) (ar := [.int 1]) (rest := []) (L := lv_args 0 [.ref 164, .int 1]) (am_cur_of (i := (237, 3, .invokevirtual 181, (158, 1665, 3), 0)) (by decide +kernel)) rfl rfl rfl rfl hm_z
  obtain ⟨r306_z, h307_z, q308_z, hm_z⟩ := hm_z
  obtain ⟨rfl, yq308_z⟩ := rp_wrong q308_z
  subst yq308_z
  replace hm_z : rn _ _ _ _ [.int 0] _ _ _ := hm_z
  replace hm_z := rn_iret (am_cur_of (i := (240, 1, .ireturn, (0, 0, 0), 0)) (by decide +kernel)) hm_z
  obtain ⟨e309_z, e310_z⟩ := hm_z
  subst e309_z e310_z
  exact Or.inr (Or.inl ⟨rfl, _, 1, by decide, K.1, K.2.trans R5, rfl, R6⟩)
theorem pl_law5_2 {T : Nat → Int32} {S x p : Int32} {n n' : Nat} {h h' g g' : am_H} {r r' : Option Value} {ls ls2_z : am_L} (R : rq T S x p 2 h g) (A : rp 2 h g) (B : rp_t h g) (ka : rg_v h 44 10 = 2) (kb : rg_v h 44 11 = 5) (kc : rg_v g 164 8 = 1) (kd : rg_v g 164 9 = 5) (g0_z : am_get ls 0 = some (.ref 44)) (g0m : am_get ls2_z 0 = some (.ref 164)) (hc_z : rn n am_m42 2 ls [] h r h') (hm_z : rn n' am_m157 85 ls2_z [] g r' g') : pm_Q T S x 2 h' g' r' := by
  have R5 := R.2.2.2.2.1
  have R6 := R.2.2.2.2.2.1
  replace hc_z := rn_aload_n (am_cur_of (i := (4, 1, .aload_n 0, (0, 0, 0), 0)) (by decide +kernel)) g0_z hc_z
  replace hc_z := rn_getI (v := 5) (am_cur_of (i := (5, 3, .getfield 91, (4, 11, 420), 0)) (by decide +kernel)) (by decide +kernel) kb hc_z
  replace hc_z := rn_bipush (w := 9) (am_cur_of (i := (8, 2, .bipush 9, (0, 0, 0), 0)) (by decide +kernel)) (by decide) hc_z
  replace hc_z := rn_isub (w := (-4)) (am_cur_of (i := (10, 1, .isub, (0, 0, 0), 0)) (by decide +kernel)) (by decide) hc_z
  replace hc_z := rn_istore_n (am_cur_of (i := (11, 1, .istore_n 1, (0, 0, 0), 0)) (by decide +kernel)) hc_z
  obtain ⟨_, s311_z, s312_z, g1_z, hc_z⟩ := hc_z
  replace g0_z := s311_z 0 _ (by decide) rfl g0_z
  clear s311_z s312_z
  replace hc_z := rn_aload_n (am_cur_of (i := (12, 1, .aload_n 0, (0, 0, 0), 0)) (by decide +kernel)) g0_z hc_z
  replace hc_z := rn_getI (v := 2) (am_cur_of (i := (13, 3, .getfield 60, (4, 10, 419), 0)) (by decide +kernel)) (by decide +kernel) ka hc_z
  replace hc_z := rn_iconst (w := 2) (am_cur_of (i := (16, 1, .iconst 2, (0, 0, 0), 0)) (by decide +kernel)) (by decide) hc_z
  replace hc_z := rn_cmpF (am_cur_of (i := (17, 3, .if_icmp .ne 12, (16, 0, 0), 0)) (by decide +kernel)) (by decide) hc_z
  replace hc_z := rn_iload_n (am_cur_of (i := (20, 1, .iload_n 1, (0, 0, 0), 0)) (by decide +kernel)) g1_z hc_z
  replace hc_z := rn_ifT (am_cur_of (i := (21, 3, .ifCond .lt 8, (16, 0, 0), 0)) (by decide +kernel)) (by decide) hc_z
  replace hc_z := rn_aload_n (am_cur_of (i := (29, 1, .aload_n 0, (0, 0, 0), 0)) (by decide +kernel)) g0_z hc_z
  replace hc_z := rn_iconst (w := 1) (am_cur_of (i := (30, 1, .iconst 1, (0, 0, 0), 0)) (by decide +kernel)) (by decide) hc_z
  replace hc_z := rn_callV (M' := am_m29) (o := 44) (ar := [.int 1]) (rest := []) (L := lv_args 0 [.ref 44, .int 1]) (am_cur_of (i := (31, 3, .invokevirtual 108, (29, 769, 3), 0)) (by decide +kernel)) rfl rfl rfl rfl hc_z
  obtain ⟨r313_z, h314_z, q315_z, hc_z⟩ := hc_z
  obtain ⟨rfl, yq315_z⟩ := rp_fail R.2.2.2.1 q315_z
  subst yq315_z
  replace hc_z : rn _ _ _ _ [] _ _ _ := hc_z
  have K := rs_stick (w := 1) (a := 42) (by decide) (by decide) rfl (by decide) rfl rfl hc_z
  replace hm_z := rn_aload_n (am_cur_of (i := (209, 1, .aload_n 0, (0, 0, 0), 0)) (by decide +kernel)) g0m hm_z
  replace hm_z := rn_getI (v := 1) (am_cur_of (i := (210, 3, .getfield 157, (12, 8, 1392), 0)) (by decide +kernel)) (by decide +kernel) kc hm_z
  replace hm_z := rn_iconst (w := 1) (am_cur_of (i := (213, 1, .iconst 1, (0, 0, 0), 0)) (by decide +kernel)) (by decide) hm_z
  replace hm_z := rn_cmpF (am_cur_of (i := (214, 3, .if_icmp .ne 21, (97, 0, 0), 0)) (by decide +kernel)) (by decide) hm_z
  replace hm_z := rn_aload_n (am_cur_of (i := (217, 1, .aload_n 0, (0, 0, 0), 0)) (by decide +kernel)) g0m hm_z
  replace hm_z := rn_getI (v := 5) (am_cur_of (i := (218, 3, .getfield 168, (12, 9, 1393), 0)) (by decide +kernel)) (by decide +kernel) kd hm_z
  replace hm_z := rn_bipush (w := 9) (am_cur_of (i := (221, 2, .bipush 9, (0, 0, 0), 0)) (by decide +kernel)) (by decide) hm_z
  replace hm_z := rn_cmpT (am_cur_of (i := (223, 3, .if_icmp .lt 12, (97, 0, 0), 0)) (by decide +kernel)) (by decide) hm_z
  replace hm_z := rn_aload_n (am_cur_of (i := (235, 1, .aload_n 0, (0, 0, 0), 0)) (by decide +kernel)) g0m hm_z
  replace hm_z := rn_iconst (w := 1) (am_cur_of (i := (236, 1, .iconst 1, (0, 0, 0), 0)) (by decide +kernel)) (by decide) hm_z
  replace hm_z := rn_callV (M' := am_m158) (o := 164) (ar := [.int 1]) (rest := []) (L := lv_args 0 [.ref 164, .int 1]) (am_cur_of (i := (237, 3, .invokevirtual 181, (158, 1665, 3), 0)) (by decide +kernel)) rfl rfl rfl rfl hm_z
  obtain ⟨r316_z, h317_z, q318_z, hm_z⟩ := hm_z
  obtain ⟨rfl, yq318_z⟩ := rp_wrong q318_z
  subst yq318_z
  replace hm_z : rn _ _ _ _ [.int 0] _ _ _ := hm_z
  replace hm_z := rn_iret (am_cur_of (i := (240, 1, .ireturn, (0, 0, 0), 0)) (by decide +kernel)) hm_z
  obtain ⟨e319_z, e320_z⟩ := hm_z
  subst e319_z e320_z
  exact Or.inr (Or.inl ⟨rfl, _, 1, by decide, K.1, K.2.trans R5, rfl, R6⟩)
theorem pl_law6_2 {T : Nat → Int32} {S x p : Int32} {n n' : Nat} {h h' g g' : am_H} {r r' : Option Value} {ls ls2_z : am_L} (R : rq T S x p 2 h g) (A : rp 2 h g) (B : rp_t h g) (ka : rg_v h 44 10 = 2) (kb : rg_v h 44 11 = 6) (kc : rg_v g 164 8 = 1) (kd : rg_v g 164 9 = 6) (g0_z : am_get ls 0 = some (.ref 44)) (g0m : am_get ls2_z 0 = some (.ref 164)) (hc_z : rn n am_m42 2 ls [] h r h') (hm_z : rn n' am_m157 85 ls2_z [] g r' g') : pm_Q T S x 2 h' g' r' := by
  have R5 := R.2.2.2.2.1
  have R6 := R.2.2.2.2.2.1
  replace hc_z := rn_aload_n (am_cur_of (i := (4, 1, .aload_n 0, (0, 0, 0), 0)) (by decide +kernel)) g0_z hc_z
  replace hc_z := rn_getI (v := 6) (am_cur_of (i := (5, 3, .getfield 91, (4, 11, 420), 0)) (by decide +kernel)) (by decide +kernel) kb hc_z
  replace hc_z := rn_bipush (w := 9) (am_cur_of (i := (8, 2, .bipush 9, (0, 0, 0), 0)) (by decide +kernel)) (by decide) hc_z
  replace hc_z := rn_isub (w := (-3)) (am_cur_of (i := (10, 1, .isub, (0, 0, 0), 0)) (by decide +kernel)) (by decide) hc_z
  replace hc_z := rn_istore_n (am_cur_of (i := (11, 1, .istore_n 1, (0, 0, 0), 0)) (by decide +kernel)) hc_z
  obtain ⟨_, s321_z, s322_z, g1_z, hc_z⟩ := hc_z
  replace g0_z := s321_z 0 _ (by decide) rfl g0_z
  clear s321_z s322_z
  replace hc_z := rn_aload_n (am_cur_of (i := (12, 1, .aload_n 0, (0, 0, 0), 0)) (by decide +kernel)) g0_z hc_z
  replace hc_z := rn_getI (v := 2) (am_cur_of (i := (13, 3, .getfield 60, (4, 10, 419), 0)) (by decide +kernel)) (by decide +kernel) ka hc_z
  replace hc_z := rn_iconst (w := 2) (am_cur_of (i := (16, 1, .iconst 2, (0, 0, 0), 0)) (by decide +kernel)) (by decide) hc_z
  replace hc_z := rn_cmpF (am_cur_of (i := (17, 3, .if_icmp .ne 12, (16, 0, 0), 0)) (by decide +kernel)) (by decide) hc_z
  replace hc_z := rn_iload_n (am_cur_of (i := (20, 1, .iload_n 1, (0, 0, 0), 0)) (by decide +kernel)) g1_z hc_z
  replace hc_z := rn_ifT (am_cur_of (i := (21, 3, .ifCond .lt 8, (16, 0, 0), 0)) (by decide +kernel)) (by decide) hc_z
  replace hc_z := rn_aload_n (am_cur_of (i := (29, 1, .aload_n 0, (0, 0, 0), 0)) (by decide +kernel)) g0_z hc_z
  replace hc_z := rn_iconst (w := 1) (am_cur_of (i := (30, 1, .iconst 1, (0, 0, 0), 0)) (by decide +kernel)) (by decide) hc_z
  replace hc_z := rn_callV (M' := am_m29) (o := 44) (ar := [.int 1]) (rest := []) (L := lv_args 0 [.ref 44, .int 1]) (am_cur_of (i := (31, 3, .invokevirtual 108, (29, 769, 3), 0)) (by decide +kernel)) rfl rfl rfl rfl hc_z
  obtain ⟨r323_z, h324_z, q325_z, hc_z⟩ := hc_z
  obtain ⟨rfl, yq325_z⟩ := rp_fail R.2.2.2.1 q325_z
  subst yq325_z
  replace hc_z : rn _ _ _ _ [] _ _ _ := hc_z
  have K := rs_stick (w := 1) (a := 42) (by decide) (by decide) rfl (by decide) rfl rfl hc_z
  replace hm_z := rn_aload_n (am_cur_of (i := (209, 1, .aload_n 0, (0, 0, 0), 0)) (by decide +kernel)) g0m hm_z
  replace hm_z := rn_getI (v := 1) (am_cur_of (i := (210, 3, .getfield 157, (12, 8, 1392), 0)) (by decide +kernel)) (by decide +kernel) kc hm_z
  replace hm_z := rn_iconst (w := 1) (am_cur_of (i := (213, 1, .iconst 1, (0, 0, 0), 0)) (by decide +kernel)) (by decide) hm_z
  replace hm_z := rn_cmpF (am_cur_of (i := (214, 3, .if_icmp .ne 21, (97, 0, 0), 0)) (by decide +kernel)) (by decide) hm_z
  replace hm_z := rn_aload_n (am_cur_of (i := (217, 1, .aload_n 0, (0, 0, 0), 0)) (by decide +kernel)) g0m hm_z
  replace hm_z := rn_getI (v := 6) (am_cur_of (i := (218, 3, .getfield 168, (12, 9, 1393), 0)) (by decide +kernel)) (by decide +kernel) kd hm_z
  replace hm_z := rn_bipush (w := 9) (am_cur_of (i := (221, 2, .bipush 9, (0, 0, 0), 0)) (by decide +kernel)) (by decide) hm_z
  replace hm_z := rn_cmpT (am_cur_of (i := (223, 3, .if_icmp .lt 12, (97, 0, 0), 0)) (by decide +kernel)) (by decide) hm_z
  replace hm_z := rn_aload_n (am_cur_of (i := (235, 1, .aload_n 0, (0, 0, 0), 0)) (by decide +kernel)) g0m hm_z
  replace hm_z := rn_iconst (w := 1) (am_cur_of (i := (236, 1, .iconst 1, (0, 0, 0), 0)) (by decide +kernel)) (by decide) hm_z
  replace hm_z := rn_callV (M' := am_m158) (o := 164) (ar := [.int 1]) (rest := []) (L := lv_args 0 [.ref 164, .int 1]) (am_cur_of (i := (237, 3, .invokevirtual 181, (158, 1665, 3), 0)) (by decide +kernel)) rfl rfl rfl rfl hm_z
  obtain ⟨r326_z, h327_z, q328_z, hm_z⟩ := hm_z
  obtain ⟨rfl, yq328_z⟩ := rp_wrong q328_z
  subst yq328_z
  replace hm_z : rn _ _ _ _ [.int 0] _ _ _ := hm_z
  replace hm_z := rn_iret (am_cur_of (i := (240, 1, .ireturn, (0, 0, 0), 0)) (by decide +kernel)) hm_z
  obtain ⟨e329_z, e330_z⟩ := hm_z
  subst e329_z e330_z
  exact Or.inr (Or.inl ⟨rfl, _, 1, by decide, K.1, K.2.trans R5, rfl, R6⟩)
theorem pl_law7_2 {T : Nat → Int32} {S x p : Int32} {n n' : Nat} {h h' g g' : am_H} {r r' : Option Value} {ls ls2_z : am_L} (R : rq T S x p 2 h g) (A : rp 2 h g) (B : rp_t h g) (ka : rg_v h 44 10 = 2) (kb : rg_v h 44 11 = 7) (kc : rg_v g 164 8 = 1) (kd : rg_v g 164 9 = 7) (g0_z : am_get ls 0 = some (.ref 44)) (g0m : am_get ls2_z 0 = some (.ref 164)) (hc_z : rn n am_m42 2 ls [] h r h') (hm_z : rn n' am_m157 85 ls2_z [] g r' g') : pm_Q T S x 2 h' g' r' := by
  have R5 := R.2.2.2.2.1
  have R6 := R.2.2.2.2.2.1
  replace hc_z := rn_aload_n (am_cur_of (i := (4, 1, .aload_n 0, (0, 0, 0), 0)) (by decide +kernel)) g0_z hc_z
  replace hc_z := rn_getI (v := 7) (am_cur_of (i := (5, 3, .getfield 91, (4, 11, 420), 0)) (by decide +kernel)) (by decide +kernel) kb hc_z
  replace hc_z := rn_bipush (w := 9) (am_cur_of (i := (8, 2, .bipush 9, (0, 0, 0), 0)) (by decide +kernel)) (by decide) hc_z
  replace hc_z := rn_isub (w := (-2)) (am_cur_of (i := (10, 1, .isub, (0, 0, 0), 0)) (by decide +kernel)) (by decide) hc_z
  replace hc_z := rn_istore_n (am_cur_of (i := (11, 1, .istore_n 1, (0, 0, 0), 0)) (by decide +kernel)) hc_z
  obtain ⟨_, s331_z, s332_z, g1_z, hc_z⟩ := hc_z
  replace g0_z := s331_z 0 _ (by decide) rfl g0_z
  clear s331_z s332_z
  replace hc_z := rn_aload_n (am_cur_of (i := (12, 1, .aload_n 0, (0, 0, 0), 0)) (by decide +kernel)) g0_z hc_z
  replace hc_z := rn_getI (v := 2) (am_cur_of (i := (13, 3, .getfield 60, (4, 10, 419), 0)) (by decide +kernel)) (by decide +kernel) ka hc_z
  replace hc_z := rn_iconst (w := 2) (am_cur_of (i := (16, 1, .iconst 2, (0, 0, 0), 0)) (by decide +kernel)) (by decide) hc_z
  replace hc_z := rn_cmpF (am_cur_of (i := (17, 3, .if_icmp .ne 12, (16, 0, 0), 0)) (by decide +kernel)) (by decide) hc_z
  replace hc_z := rn_iload_n (am_cur_of (i := (20, 1, .iload_n 1, (0, 0, 0), 0)) (by decide +kernel)) g1_z hc_z
  replace hc_z := rn_ifT (am_cur_of (i := (21, 3, .ifCond .lt 8, (16, 0, 0), 0)) (by decide +kernel)) (by decide) hc_z
  replace hc_z := rn_aload_n (am_cur_of (i := (29, 1, .aload_n 0, (0, 0, 0), 0)) (by decide +kernel)) g0_z hc_z
  replace hc_z := rn_iconst (w := 1) (am_cur_of (i := (30, 1, .iconst 1, (0, 0, 0), 0)) (by decide +kernel)) (by decide) hc_z
  replace hc_z := rn_callV (M' := am_m29) (o := 44) (ar := [.int 1]) (rest := []) (L := lv_args 0 [.ref 44, .int 1]) (am_cur_of (i := (31, 3, .invokevirtual 108, (29, 769, 3), 0)) (by decide +kernel)) rfl rfl rfl rfl hc_z
  obtain ⟨r333_z, h334_z, q335_z, hc_z⟩ := hc_z
  obtain ⟨rfl, yq335_z⟩ := rp_fail R.2.2.2.1 q335_z
  subst yq335_z
  replace hc_z : rn _ _ _ _ [] _ _ _ := hc_z
  have K := rs_stick (w := 1) (a := 42) (by decide) (by decide) rfl (by decide) rfl rfl hc_z
  replace hm_z := rn_aload_n (am_cur_of (i := (209, 1, .aload_n 0, (0, 0, 0), 0)) (by decide +kernel)) g0m hm_z
  replace hm_z := rn_getI (v := 1) (am_cur_of (i := (210, 3, .getfield 157, (12, 8, 1392), 0)) (by decide +kernel)) (by decide +kernel) kc hm_z
  replace hm_z := rn_iconst (w := 1) (am_cur_of (i := (213, 1, .iconst 1, (0, 0, 0), 0)) (by decide +kernel)) (by decide) hm_z
  replace hm_z := rn_cmpF (am_cur_of (i := (214, 3, .if_icmp .ne 21, (97, 0, 0), 0)) (by decide +kernel)) (by decide) hm_z
  replace hm_z := rn_aload_n (am_cur_of (i := (217, 1, .aload_n 0, (0, 0, 0), 0)) (by decide +kernel)) g0m hm_z
  replace hm_z := rn_getI (v := 7) (am_cur_of (i := (218, 3, .getfield 168, (12, 9, 1393), 0)) (by decide +kernel)) (by decide +kernel) kd hm_z
  replace hm_z := rn_bipush (w := 9) (am_cur_of (i := (221, 2, .bipush 9, (0, 0, 0), 0)) (by decide +kernel)) (by decide) hm_z
  replace hm_z := rn_cmpT (am_cur_of (i := (223, 3, .if_icmp .lt 12, (97, 0, 0), 0)) (by decide +kernel)) (by decide) hm_z
  replace hm_z := rn_aload_n (am_cur_of (i := (235, 1, .aload_n 0, (0, 0, 0), 0)) (by decide +kernel)) g0m hm_z
  replace hm_z := rn_iconst (w := 1) (am_cur_of (i := (236, 1, .iconst 1, (0, 0, 0), 0)) (by decide +kernel)) (by decide) hm_z
  replace hm_z := rn_callV (M' := am_m158) (o := 164) (ar := [.int 1]) (rest := []) (L := lv_args 0 [.ref 164, .int 1]) (am_cur_of (i := (237, 3, .invokevirtual 181, (158, 1665, 3), 0)) (by decide +kernel)) rfl rfl rfl rfl hm_z
  obtain ⟨r336_z, h337_z, q338_z, hm_z⟩ := hm_z
  obtain ⟨rfl, yq338_z⟩ := rp_wrong q338_z
  subst yq338_z
  replace hm_z : rn _ _ _ _ [.int 0] _ _ _ := hm_z
  replace hm_z := rn_iret (am_cur_of (i := (240, 1, .ireturn, (0, 0, 0), 0)) (by decide +kernel)) hm_z
  obtain ⟨e339_z, e340_z⟩ := hm_z
  subst e339_z e340_z
  exact Or.inr (Or.inl ⟨rfl, _, 1, by decide, K.1, K.2.trans R5, rfl, R6⟩)
theorem pl_law8_2 {T : Nat → Int32} {S x p : Int32} {n n' : Nat} {h h' g g' : am_H} {r r' : Option Value} {ls ls2_z : am_L} (R : rq T S x p 2 h g) (A : rp 2 h g) (B : rp_t h g) (ka : rg_v h 44 10 = 2) (kb : rg_v h 44 11 = 8) (kc : rg_v g 164 8 = 1) (kd : rg_v g 164 9 = 8) (g0_z : am_get ls 0 = some (.ref 44)) (g0m : am_get ls2_z 0 = some (.ref 164)) (hc_z : rn n am_m42 2 ls [] h r h') (hm_z : rn n' am_m157 85 ls2_z [] g r' g') : pm_Q T S x 2 h' g' r' := by
  have R5 := R.2.2.2.2.1
  have R6 := R.2.2.2.2.2.1
  replace hc_z := rn_aload_n (am_cur_of (i := (4, 1, .aload_n 0, (0, 0, 0), 0)) (by decide +kernel)) g0_z hc_z
  replace hc_z := rn_getI (v := 8) (am_cur_of (i := (5, 3, .getfield 91, (4, 11, 420), 0)) (by decide +kernel)) (by decide +kernel) kb hc_z
  replace hc_z := rn_bipush (w := 9) (am_cur_of (i := (8, 2, .bipush 9, (0, 0, 0), 0)) (by decide +kernel)) (by decide) hc_z
  replace hc_z := rn_isub (w := (-1)) (am_cur_of (i := (10, 1, .isub, (0, 0, 0), 0)) (by decide +kernel)) (by decide) hc_z
  replace hc_z := rn_istore_n (am_cur_of (i := (11, 1, .istore_n 1, (0, 0, 0), 0)) (by decide +kernel)) hc_z
  obtain ⟨_, s341_z, s342_z, g1_z, hc_z⟩ := hc_z
  replace g0_z := s341_z 0 _ (by decide) rfl g0_z
  clear s341_z s342_z
  replace hc_z := rn_aload_n (am_cur_of (i := (12, 1, .aload_n 0, (0, 0, 0), 0)) (by decide +kernel)) g0_z hc_z
  replace hc_z := rn_getI (v := 2) (am_cur_of (i := (13, 3, .getfield 60, (4, 10, 419), 0)) (by decide +kernel)) (by decide +kernel) ka hc_z
  replace hc_z := rn_iconst (w := 2) (am_cur_of (i := (16, 1, .iconst 2, (0, 0, 0), 0)) (by decide +kernel)) (by decide) hc_z
  replace hc_z := rn_cmpF (am_cur_of (i := (17, 3, .if_icmp .ne 12, (16, 0, 0), 0)) (by decide +kernel)) (by decide) hc_z
  replace hc_z := rn_iload_n (am_cur_of (i := (20, 1, .iload_n 1, (0, 0, 0), 0)) (by decide +kernel)) g1_z hc_z
  replace hc_z := rn_ifT (am_cur_of (i := (21, 3, .ifCond .lt 8, (16, 0, 0), 0)) (by decide +kernel)) (by decide) hc_z
  replace hc_z := rn_aload_n (am_cur_of (i := (29, 1, .aload_n 0, (0, 0, 0), 0)) (by decide +kernel)) g0_z hc_z
  replace hc_z := rn_iconst (w := 1) (am_cur_of (i := (30, 1, .iconst 1, (0, 0, 0), 0)) (by decide +kernel)) (by decide) hc_z
  replace hc_z := rn_callV (M' := am_m29) (o := 44) (ar := [.int 1]) (rest := []) (L := lv_args 0 [.ref 44, .int 1]) (am_cur_of (i := (31, 3, .invokevirtual 108, (29, 769, 3), 0)) (by decide +kernel)) rfl rfl rfl rfl hc_z
  obtain ⟨r343_z, h344_z, q345_z, hc_z⟩ := hc_z
  obtain ⟨rfl, yq345_z⟩ := rp_fail R.2.2.2.1 q345_z
  subst yq345_z
  replace hc_z : rn _ _ _ _ [] _ _ _ := hc_z
  have K := rs_stick (w := 1) (a := 42) (by decide) (by decide) rfl (by decide) rfl rfl hc_z
  replace hm_z := rn_aload_n (am_cur_of (i := (209, 1, .aload_n 0, (0, 0, 0), 0)) (by decide +kernel)) g0m hm_z
  replace hm_z := rn_getI (v := 1) (am_cur_of (i := (210, 3, .getfield 157, (12, 8, 1392), 0)) (by decide +kernel)) (by decide +kernel) kc hm_z
  replace hm_z := rn_iconst (w := 1) (am_cur_of (i := (213, 1, .iconst 1, (0, 0, 0), 0)) (by decide +kernel)) (by decide) hm_z
  replace hm_z := rn_cmpF (am_cur_of (i := (214, 3, .if_icmp .ne 21, (97, 0, 0), 0)) (by decide +kernel)) (by decide) hm_z
  replace hm_z := rn_aload_n (am_cur_of (i := (217, 1, .aload_n 0, (0, 0, 0), 0)) (by decide +kernel)) g0m hm_z
  replace hm_z := rn_getI (v := 8) (am_cur_of (i := (218, 3, .getfield 168, (12, 9, 1393), 0)) (by decide +kernel)) (by decide +kernel) kd hm_z
  replace hm_z := rn_bipush (w := 9) (am_cur_of (i := (221, 2, .bipush 9, (0, 0, 0), 0)) (by decide +kernel)) (by decide) hm_z
  replace hm_z := rn_cmpT (am_cur_of (i := (223, 3, .if_icmp .lt 12, (97, 0, 0), 0)) (by decide +kernel)) (by decide) hm_z
  replace hm_z := rn_aload_n (am_cur_of (i := (235, 1, .aload_n 0, (0, 0, 0), 0)) (by decide +kernel)) g0m hm_z
  replace hm_z := rn_iconst (w := 1) (am_cur_of (i := (236, 1, .iconst 1, (0, 0, 0), 0)) (by decide +kernel)) (by decide) hm_z
  replace hm_z := rn_callV (M' := am_m158) (o := 164) (ar := [.int 1]) (rest := []) (L := lv_args 0 [.ref 164, .int 1]) (am_cur_of (i := (237, 3, .invokevirtual 181, (158, 1665, 3), 0)) (by decide +kernel)) rfl rfl rfl rfl hm_z
  obtain ⟨r346_z, h347_z, q348_z, hm_z⟩ := hm_z
  obtain ⟨rfl, yq348_z⟩ := rp_wrong q348_z
  subst yq348_z
  replace hm_z : rn _ _ _ _ [.int 0] _ _ _ := hm_z
  replace hm_z := rn_iret (am_cur_of (i := (240, 1, .ireturn, (0, 0, 0), 0)) (by decide +kernel)) hm_z
  obtain ⟨e349_z, e350_z⟩ := hm_z
  subst e349_z e350_z
  exact Or.inr (Or.inl ⟨rfl, _, 1, by decide, K.1, K.2.trans R5, rfl, R6⟩)
theorem pl_law9_2 {T : Nat → Int32} {S x p : Int32} {n n' : Nat} {h h' g g' : am_H} {r r' : Option Value} {ls ls2_z : am_L} (R : rq T S x p 2 h g) (A : rp 2 h g) (B : rp_t h g) (ka : rg_v h 44 10 = 2) (kb : rg_v h 44 11 = 9) (kc : rg_v g 164 8 = 1) (kd : rg_v g 164 9 = 9) (g0_z : am_get ls 0 = some (.ref 44)) (g0m : am_get ls2_z 0 = some (.ref 164)) (hc_z : rn n am_m42 2 ls [] h r h') (hm_z : rn n' am_m157 85 ls2_z [] g r' g') : pm_Q T S x 2 h' g' r' := by
  have z0_z : (0 : Int32).toInt = 0 := by decide
  have R5 := R.2.2.2.2.1
  have R6 := R.2.2.2.2.2.1
  obtain ⟨b0_z, b1_z, b2_z, b3_z, b4_z, b5_z, b6_z, t, o0_z, o1_z, o2_z, o3_z, o4_z, o5_z, o6_z⟩ := id B
  obtain ⟨e1_z, -⟩ := rp_tb4 b0_z b1_z b2_z b3_z b4_z b5_z b6_z
  have e2_z := rp_tc4 b0_z b1_z b2_z b3_z b4_z b5_z b6_z
  rcases Bool.eq_false_or_eq_true b4_z with hb_z | hb_z
  · replace e1_z := e1_z.trans (show rp_bi b4_z = rp_bi true from by rw [hb_z])
    replace hc_z := rn_aload_n (am_cur_of (i := (4, 1, .aload_n 0, (0, 0, 0), 0)) (by decide +kernel)) g0_z hc_z
    replace hc_z := rn_getI (v := 9) (am_cur_of (i := (5, 3, .getfield 91, (4, 11, 420), 0)) (by decide +kernel)) (by decide +kernel) kb hc_z
    replace hc_z := rn_bipush (w := 9) (am_cur_of (i := (8, 2, .bipush 9, (0, 0, 0), 0)) (by decide +kernel)) (by decide) hc_z
    replace hc_z := rn_isub (w := 0) (am_cur_of (i := (10, 1, .isub, (0, 0, 0), 0)) (by decide +kernel)) (by decide) hc_z
    replace hc_z := rn_istore_n (am_cur_of (i := (11, 1, .istore_n 1, (0, 0, 0), 0)) (by decide +kernel)) hc_z
    obtain ⟨_, s351_z, s352_z, g1_z, hc_z⟩ := hc_z
    replace g0_z := s351_z 0 _ (by decide) rfl g0_z
    clear s351_z s352_z
    replace hc_z := rn_aload_n (am_cur_of (i := (12, 1, .aload_n 0, (0, 0, 0), 0)) (by decide +kernel)) g0_z hc_z
    replace hc_z := rn_getI (v := 2) (am_cur_of (i := (13, 3, .getfield 60, (4, 10, 419), 0)) (by decide +kernel)) (by decide +kernel) ka hc_z
    replace hc_z := rn_iconst (w := 2) (am_cur_of (i := (16, 1, .iconst 2, (0, 0, 0), 0)) (by decide +kernel)) (by decide) hc_z
    replace hc_z := rn_cmpF (am_cur_of (i := (17, 3, .if_icmp .ne 12, (16, 0, 0), 0)) (by decide +kernel)) (by decide) hc_z
    replace hc_z := rn_iload_n (am_cur_of (i := (20, 1, .iload_n 1, (0, 0, 0), 0)) (by decide +kernel)) g1_z hc_z
    replace hc_z := rn_ifF (am_cur_of (i := (21, 3, .ifCond .lt 8, (16, 0, 0), 0)) (by decide +kernel)) (by decide) hc_z
    replace hc_z := rn_iload_n (am_cur_of (i := (24, 1, .iload_n 1, (0, 0, 0), 0)) (by decide +kernel)) g1_z hc_z
    replace hc_z := rn_iconst (w := 2) (am_cur_of (i := (25, 1, .iconst 2, (0, 0, 0), 0)) (by decide +kernel)) (by decide) hc_z
    replace hc_z := rn_cmpT (am_cur_of (i := (26, 3, .if_icmp .le 9, (20, 0, 0), 0)) (by decide +kernel)) (by decide) hc_z
    replace hc_z := rn_aload_n (am_cur_of (i := (35, 1, .aload_n 0, (0, 0, 0), 0)) (by decide +kernel)) g0_z hc_z
    replace hc_z := rn_getI (v := rp_tb b0_z b1_z b2_z b3_z b4_z b5_z b6_z) (am_cur_of (i := (36, 3, .getfield 45, (4, 7, 416), 0)) (by decide +kernel)) (by decide +kernel) t hc_z
    replace hc_z := rn_aload_n (am_cur_of (i := (39, 1, .aload_n 0, (0, 0, 0), 0)) (by decide +kernel)) g0_z hc_z
    replace hc_z := rn_getI (v := 9) (am_cur_of (i := (40, 3, .getfield 91, (4, 11, 420), 0)) (by decide +kernel)) (by decide +kernel) kb hc_z
    replace hc_z := rn_ishr (w := (rp_tb b0_z b1_z b2_z b3_z b4_z b5_z b6_z) >>> (9 &&& 31)) (am_cur_of (i := (43, 1, .ishr, (0, 0, 0), 0)) (by decide +kernel)) rfl hc_z
    replace hc_z := rn_iconst (w := 1) (am_cur_of (i := (44, 1, .iconst 1, (0, 0, 0), 0)) (by decide +kernel)) (by decide) hc_z
    replace hc_z := rn_iand (w := ((rp_tb b0_z b1_z b2_z b3_z b4_z b5_z b6_z) >>> (9 &&& 31)) &&& 1) (am_cur_of (i := (45, 1, .iand, (0, 0, 0), 0)) (by decide +kernel)) rfl hc_z
    replace hc_z := rn_if (am_cur_of (i := (46, 3, .ifCond .eq 9, (32, 0, 0), 0)) (by decide +kernel)) hc_z
    rcases hc_z with ⟨b353_z, hc_z⟩ | ⟨b353_z, hc_z⟩
    · replace b353_z : (((rp_tb b0_z b1_z b2_z b3_z b4_z b5_z b6_z) >>> (9 &&& 31)) &&& 1) = (0 : Int32) ∧ (((rp_tb b0_z b1_z b2_z b3_z b4_z b5_z b6_z) >>> (9 &&& 31)) &&& 1).toInt = (0 : Int32).toInt := b353_z
      exact absurd (e1_z.symm.trans b353_z.1) (by decide)
    · replace b353_z : ¬ (((rp_tb b0_z b1_z b2_z b3_z b4_z b5_z b6_z) >>> (9 &&& 31)) &&& 1) = (0 : Int32) ∧ ¬ (((rp_tb b0_z b1_z b2_z b3_z b4_z b5_z b6_z) >>> (9 &&& 31)) &&& 1).toInt = (0 : Int32).toInt := b353_z
      replace hc_z := rn_aload_n (am_cur_of (i := (49, 1, .aload_n 0, (0, 0, 0), 0)) (by decide +kernel)) g0_z hc_z
      replace hc_z := rn_iconst (w := 3) (am_cur_of (i := (50, 1, .iconst 3, (0, 0, 0), 0)) (by decide +kernel)) (by decide) hc_z
      replace hc_z := rn_callV (M' := am_m29) (o := 44) (ar := [.int 3]) (rest := []) (L := lv_args 0 [.ref 44, .int 3]) (am_cur_of (i := (51, 3, .invokevirtual 108, (29, 769, 3), 0)) (by decide +kernel)) rfl rfl rfl rfl hc_z
      obtain ⟨r354_z, h355_z, q356_z, hc_z⟩ := hc_z
      obtain ⟨rfl, yq356_z⟩ := rp_fail R.2.2.2.1 q356_z
      subst yq356_z
      replace hc_z : rn _ _ _ _ [] _ _ _ := hc_z
      have K := rs_stick (w := 3) (a := 42) (by decide) (by decide) rfl (by decide) rfl rfl hc_z
      replace hm_z := rn_aload_n (am_cur_of (i := (209, 1, .aload_n 0, (0, 0, 0), 0)) (by decide +kernel)) g0m hm_z
      replace hm_z := rn_getI (v := 1) (am_cur_of (i := (210, 3, .getfield 157, (12, 8, 1392), 0)) (by decide +kernel)) (by decide +kernel) kc hm_z
      replace hm_z := rn_iconst (w := 1) (am_cur_of (i := (213, 1, .iconst 1, (0, 0, 0), 0)) (by decide +kernel)) (by decide) hm_z
      replace hm_z := rn_cmpF (am_cur_of (i := (214, 3, .if_icmp .ne 21, (97, 0, 0), 0)) (by decide +kernel)) (by decide) hm_z
      replace hm_z := rn_aload_n (am_cur_of (i := (217, 1, .aload_n 0, (0, 0, 0), 0)) (by decide +kernel)) g0m hm_z
      replace hm_z := rn_getI (v := 9) (am_cur_of (i := (218, 3, .getfield 168, (12, 9, 1393), 0)) (by decide +kernel)) (by decide +kernel) kd hm_z
      replace hm_z := rn_bipush (w := 9) (am_cur_of (i := (221, 2, .bipush 9, (0, 0, 0), 0)) (by decide +kernel)) (by decide) hm_z
      replace hm_z := rn_cmpF (am_cur_of (i := (223, 3, .if_icmp .lt 12, (97, 0, 0), 0)) (by decide +kernel)) (by decide) hm_z
      replace hm_z := rn_aload_n (am_cur_of (i := (226, 1, .aload_n 0, (0, 0, 0), 0)) (by decide +kernel)) g0m hm_z
      replace hm_z := rn_getI (v := 9) (am_cur_of (i := (227, 3, .getfield 168, (12, 9, 1393), 0)) (by decide +kernel)) (by decide +kernel) kd hm_z
      replace hm_z := rn_bipush (w := 11) (am_cur_of (i := (230, 2, .bipush 11, (0, 0, 0), 0)) (by decide +kernel)) (by decide) hm_z
      replace hm_z := rn_cmpT (am_cur_of (i := (232, 3, .if_icmp .le 9, (101, 0, 0), 0)) (by decide +kernel)) (by decide) hm_z
      replace hm_z := rn_iconst (w := 3) (am_cur_of (i := (241, 1, .iconst 3, (0, 0, 0), 0)) (by decide +kernel)) (by decide) hm_z
      replace hm_z := rn_aload_n (am_cur_of (i := (242, 1, .aload_n 0, (0, 0, 0), 0)) (by decide +kernel)) g0m hm_z
      replace hm_z := rn_getI (v := 9) (am_cur_of (i := (243, 3, .getfield 168, (12, 9, 1393), 0)) (by decide +kernel)) (by decide +kernel) kd hm_z
      replace hm_z := rn_iadd (w := 12) (am_cur_of (i := (246, 1, .iadd, (0, 0, 0), 0)) (by decide +kernel)) (by decide) hm_z
      replace hm_z := rn_bipush (w := 9) (am_cur_of (i := (247, 2, .bipush 9, (0, 0, 0), 0)) (by decide +kernel)) (by decide) hm_z
      replace hm_z := rn_isub (w := 3) (am_cur_of (i := (249, 1, .isub, (0, 0, 0), 0)) (by decide +kernel)) (by decide) hm_z
      replace hm_z := rn_istore_n (am_cur_of (i := (250, 1, .istore_n 2, (0, 0, 0), 0)) (by decide +kernel)) hm_z
      obtain ⟨_, s357_z, s358_z, g2m, hm_z⟩ := hm_z
      replace g0m := s357_z 0 _ (by decide) rfl g0m
      clear s357_z s358_z
      replace hm_z := rn_aload_n (am_cur_of (i := (251, 1, .aload_n 0, (0, 0, 0), 0)) (by decide +kernel)) g0m hm_z
      replace hm_z := rn_getR (x := 178) (am_cur_of (i := (252, 3, .getfield 54, (12, 33, 1417), 0)) (by decide +kernel)) (by decide +kernel) hm_z
      replace hm_z := rn_iload_n (am_cur_of (i := (255, 1, .iload_n 2, (0, 0, 0), 0)) (by decide +kernel)) g2m hm_z
      replace hm_z := rn_baload (N := 6) (q := 3) (v := 1) (am_cur_of (i := (256, 1, .baload, (0, 0, 0), 0)) (by decide +kernel)) (by decide +kernel) rfl (o4_z.trans (show rp_bi b4_z = 1 from by rw [hb_z]; decide)) hm_z
      obtain ⟨p359_z, hm_z⟩ := hm_z
      replace hm_z := rn_ifF (am_cur_of (i := (257, 3, .ifCond .eq 9, (117, 0, 0), 0)) (by decide +kernel)) (by decide) hm_z
      replace hm_z := rn_aload_n (am_cur_of (i := (260, 1, .aload_n 0, (0, 0, 0), 0)) (by decide +kernel)) g0m hm_z
      replace hm_z := rn_iconst (w := 3) (am_cur_of (i := (261, 1, .iconst 3, (0, 0, 0), 0)) (by decide +kernel)) (by decide) hm_z
      replace hm_z := rn_callV (M' := am_m158) (o := 164) (ar := [.int 3]) (rest := []) (L := lv_args 0 [.ref 164, .int 3]) (am_cur_of (i := (262, 3, .invokevirtual 181, (158, 1665, 3), 0)) (by decide +kernel)) rfl rfl rfl rfl hm_z
      obtain ⟨r360_z, h361_z, q362_z, hm_z⟩ := hm_z
      obtain ⟨rfl, yq362_z⟩ := rp_wrong q362_z
      subst yq362_z
      replace hm_z : rn _ _ _ _ [.int 0] _ _ _ := hm_z
      replace hm_z := rn_iret (am_cur_of (i := (265, 1, .ireturn, (0, 0, 0), 0)) (by decide +kernel)) hm_z
      obtain ⟨e363_z, e364_z⟩ := hm_z
      subst e363_z e364_z
      exact Or.inr (Or.inl ⟨rfl, _, 3, by decide, K.1, K.2.trans R5, rfl, R6⟩)
  · replace e1_z := e1_z.trans (show rp_bi b4_z = rp_bi false from by rw [hb_z])
    replace hc_z := rn_aload_n (am_cur_of (i := (4, 1, .aload_n 0, (0, 0, 0), 0)) (by decide +kernel)) g0_z hc_z
    replace hc_z := rn_getI (v := 9) (am_cur_of (i := (5, 3, .getfield 91, (4, 11, 420), 0)) (by decide +kernel)) (by decide +kernel) kb hc_z
    replace hc_z := rn_bipush (w := 9) (am_cur_of (i := (8, 2, .bipush 9, (0, 0, 0), 0)) (by decide +kernel)) (by decide) hc_z
    replace hc_z := rn_isub (w := 0) (am_cur_of (i := (10, 1, .isub, (0, 0, 0), 0)) (by decide +kernel)) (by decide) hc_z
    replace hc_z := rn_istore_n (am_cur_of (i := (11, 1, .istore_n 1, (0, 0, 0), 0)) (by decide +kernel)) hc_z
    obtain ⟨_, s365_z, s366_z, g1_z, hc_z⟩ := hc_z
    replace g0_z := s365_z 0 _ (by decide) rfl g0_z
    clear s365_z s366_z
    replace hc_z := rn_aload_n (am_cur_of (i := (12, 1, .aload_n 0, (0, 0, 0), 0)) (by decide +kernel)) g0_z hc_z
    replace hc_z := rn_getI (v := 2) (am_cur_of (i := (13, 3, .getfield 60, (4, 10, 419), 0)) (by decide +kernel)) (by decide +kernel) ka hc_z
    replace hc_z := rn_iconst (w := 2) (am_cur_of (i := (16, 1, .iconst 2, (0, 0, 0), 0)) (by decide +kernel)) (by decide) hc_z
    replace hc_z := rn_cmpF (am_cur_of (i := (17, 3, .if_icmp .ne 12, (16, 0, 0), 0)) (by decide +kernel)) (by decide) hc_z
    replace hc_z := rn_iload_n (am_cur_of (i := (20, 1, .iload_n 1, (0, 0, 0), 0)) (by decide +kernel)) g1_z hc_z
    replace hc_z := rn_ifF (am_cur_of (i := (21, 3, .ifCond .lt 8, (16, 0, 0), 0)) (by decide +kernel)) (by decide) hc_z
    replace hc_z := rn_iload_n (am_cur_of (i := (24, 1, .iload_n 1, (0, 0, 0), 0)) (by decide +kernel)) g1_z hc_z
    replace hc_z := rn_iconst (w := 2) (am_cur_of (i := (25, 1, .iconst 2, (0, 0, 0), 0)) (by decide +kernel)) (by decide) hc_z
    replace hc_z := rn_cmpT (am_cur_of (i := (26, 3, .if_icmp .le 9, (20, 0, 0), 0)) (by decide +kernel)) (by decide) hc_z
    replace hc_z := rn_aload_n (am_cur_of (i := (35, 1, .aload_n 0, (0, 0, 0), 0)) (by decide +kernel)) g0_z hc_z
    replace hc_z := rn_getI (v := rp_tb b0_z b1_z b2_z b3_z b4_z b5_z b6_z) (am_cur_of (i := (36, 3, .getfield 45, (4, 7, 416), 0)) (by decide +kernel)) (by decide +kernel) t hc_z
    replace hc_z := rn_aload_n (am_cur_of (i := (39, 1, .aload_n 0, (0, 0, 0), 0)) (by decide +kernel)) g0_z hc_z
    replace hc_z := rn_getI (v := 9) (am_cur_of (i := (40, 3, .getfield 91, (4, 11, 420), 0)) (by decide +kernel)) (by decide +kernel) kb hc_z
    replace hc_z := rn_ishr (w := (rp_tb b0_z b1_z b2_z b3_z b4_z b5_z b6_z) >>> (9 &&& 31)) (am_cur_of (i := (43, 1, .ishr, (0, 0, 0), 0)) (by decide +kernel)) rfl hc_z
    replace hc_z := rn_iconst (w := 1) (am_cur_of (i := (44, 1, .iconst 1, (0, 0, 0), 0)) (by decide +kernel)) (by decide) hc_z
    replace hc_z := rn_iand (w := ((rp_tb b0_z b1_z b2_z b3_z b4_z b5_z b6_z) >>> (9 &&& 31)) &&& 1) (am_cur_of (i := (45, 1, .iand, (0, 0, 0), 0)) (by decide +kernel)) rfl hc_z
    replace hc_z := rn_if (am_cur_of (i := (46, 3, .ifCond .eq 9, (32, 0, 0), 0)) (by decide +kernel)) hc_z
    rcases hc_z with ⟨b367_z, hc_z⟩ | ⟨b367_z, hc_z⟩
    · replace b367_z : (((rp_tb b0_z b1_z b2_z b3_z b4_z b5_z b6_z) >>> (9 &&& 31)) &&& 1) = (0 : Int32) ∧ (((rp_tb b0_z b1_z b2_z b3_z b4_z b5_z b6_z) >>> (9 &&& 31)) &&& 1).toInt = (0 : Int32).toInt := b367_z
      replace hc_z := rn_aload_n (am_cur_of (i := (55, 1, .aload_n 0, (0, 0, 0), 0)) (by decide +kernel)) g0_z hc_z
      replace hc_z := rn_dup (am_cur_of (i := (56, 1, .dup, (0, 0, 0), 0)) (by decide +kernel)) hc_z
      replace hc_z := rn_getI (v := rp_tb b0_z b1_z b2_z b3_z b4_z b5_z b6_z) (am_cur_of (i := (57, 3, .getfield 45, (4, 7, 416), 0)) (by decide +kernel)) (by decide +kernel) t hc_z
      replace hc_z := rn_iconst (w := 1) (am_cur_of (i := (60, 1, .iconst 1, (0, 0, 0), 0)) (by decide +kernel)) (by decide) hc_z
      replace hc_z := rn_aload_n (am_cur_of (i := (61, 1, .aload_n 0, (0, 0, 0), 0)) (by decide +kernel)) g0_z hc_z
      replace hc_z := rn_getI (v := 9) (am_cur_of (i := (62, 3, .getfield 91, (4, 11, 420), 0)) (by decide +kernel)) (by decide +kernel) kb hc_z
      replace hc_z := rn_ishl (w := 512) (am_cur_of (i := (65, 1, .ishl, (0, 0, 0), 0)) (by decide +kernel)) (by decide) hc_z
      replace hc_z := rn_ior (w := (rp_tb b0_z b1_z b2_z b3_z b4_z b5_z b6_z) ||| 512) (am_cur_of (i := (66, 1, .ior, (0, 0, 0), 0)) (by decide +kernel)) rfl hc_z
      replace hc_z := rn_put (am_cur_of (i := (67, 3, .putfield 45, (4, 7, 416), 0)) (by decide +kernel)) (by decide +kernel) hc_z
      replace hc_z := rn_aload_n (am_cur_of (i := (70, 1, .aload_n 0, (0, 0, 0), 0)) (by decide +kernel)) g0_z hc_z
      replace hc_z := rn_callV (M' := am_m19) (o := 44) (ar := []) (rest := []) (L := lv_args 0 [.ref 44]) (am_cur_of (i := (71, 3, .invokevirtual 57, (19, 727, 3), 0)) (by decide +kernel)) rfl rfl rfl rfl hc_z
      obtain ⟨r368_z, h369_z, q370_z, hc_z⟩ := hc_z
      have vo := rn_void rfl q370_z
      subst vo
      replace hm_z := rn_aload_n (am_cur_of (i := (209, 1, .aload_n 0, (0, 0, 0), 0)) (by decide +kernel)) g0m hm_z
      replace hm_z := rn_getI (v := 1) (am_cur_of (i := (210, 3, .getfield 157, (12, 8, 1392), 0)) (by decide +kernel)) (by decide +kernel) kc hm_z
      replace hm_z := rn_iconst (w := 1) (am_cur_of (i := (213, 1, .iconst 1, (0, 0, 0), 0)) (by decide +kernel)) (by decide) hm_z
      replace hm_z := rn_cmpF (am_cur_of (i := (214, 3, .if_icmp .ne 21, (97, 0, 0), 0)) (by decide +kernel)) (by decide) hm_z
      replace hm_z := rn_aload_n (am_cur_of (i := (217, 1, .aload_n 0, (0, 0, 0), 0)) (by decide +kernel)) g0m hm_z
      replace hm_z := rn_getI (v := 9) (am_cur_of (i := (218, 3, .getfield 168, (12, 9, 1393), 0)) (by decide +kernel)) (by decide +kernel) kd hm_z
      replace hm_z := rn_bipush (w := 9) (am_cur_of (i := (221, 2, .bipush 9, (0, 0, 0), 0)) (by decide +kernel)) (by decide) hm_z
      replace hm_z := rn_cmpF (am_cur_of (i := (223, 3, .if_icmp .lt 12, (97, 0, 0), 0)) (by decide +kernel)) (by decide) hm_z
      replace hm_z := rn_aload_n (am_cur_of (i := (226, 1, .aload_n 0, (0, 0, 0), 0)) (by decide +kernel)) g0m hm_z
      replace hm_z := rn_getI (v := 9) (am_cur_of (i := (227, 3, .getfield 168, (12, 9, 1393), 0)) (by decide +kernel)) (by decide +kernel) kd hm_z
      replace hm_z := rn_bipush (w := 11) (am_cur_of (i := (230, 2, .bipush 11, (0, 0, 0), 0)) (by decide +kernel)) (by decide) hm_z
      replace hm_z := rn_cmpT (am_cur_of (i := (232, 3, .if_icmp .le 9, (101, 0, 0), 0)) (by decide +kernel)) (by decide) hm_z
      replace hm_z := rn_iconst (w := 3) (am_cur_of (i := (241, 1, .iconst 3, (0, 0, 0), 0)) (by decide +kernel)) (by decide) hm_z
      replace hm_z := rn_aload_n (am_cur_of (i := (242, 1, .aload_n 0, (0, 0, 0), 0)) (by decide +kernel)) g0m hm_z
      replace hm_z := rn_getI (v := 9) (am_cur_of (i := (243, 3, .getfield 168, (12, 9, 1393), 0)) (by decide +kernel)) (by decide +kernel) kd hm_z
      replace hm_z := rn_iadd (w := 12) (am_cur_of (i := (246, 1, .iadd, (0, 0, 0), 0)) (by decide +kernel)) (by decide) hm_z
      replace hm_z := rn_bipush (w := 9) (am_cur_of (i := (247, 2, .bipush 9, (0, 0, 0), 0)) (by decide +kernel)) (by decide) hm_z
      replace hm_z := rn_isub (w := 3) (am_cur_of (i := (249, 1, .isub, (0, 0, 0), 0)) (by decide +kernel)) (by decide) hm_z
      replace hm_z := rn_istore_n (am_cur_of (i := (250, 1, .istore_n 2, (0, 0, 0), 0)) (by decide +kernel)) hm_z
      obtain ⟨_, s371_z, s372_z, g2m, hm_z⟩ := hm_z
      replace g0m := s371_z 0 _ (by decide) rfl g0m
      clear s371_z s372_z
      replace hm_z := rn_aload_n (am_cur_of (i := (251, 1, .aload_n 0, (0, 0, 0), 0)) (by decide +kernel)) g0m hm_z
      replace hm_z := rn_getR (x := 178) (am_cur_of (i := (252, 3, .getfield 54, (12, 33, 1417), 0)) (by decide +kernel)) (by decide +kernel) hm_z
      replace hm_z := rn_iload_n (am_cur_of (i := (255, 1, .iload_n 2, (0, 0, 0), 0)) (by decide +kernel)) g2m hm_z
      replace hm_z := rn_baload (N := 6) (q := 3) (v := 0) (am_cur_of (i := (256, 1, .baload, (0, 0, 0), 0)) (by decide +kernel)) (by decide +kernel) rfl (o4_z.trans (show rp_bi b4_z = 0 from by rw [hb_z]; decide)) hm_z
      obtain ⟨p373_z, hm_z⟩ := hm_z
      replace hm_z := rn_ifT (am_cur_of (i := (257, 3, .ifCond .eq 9, (117, 0, 0), 0)) (by decide +kernel)) (by decide) hm_z
      replace hm_z := rn_aload_n (am_cur_of (i := (266, 1, .aload_n 0, (0, 0, 0), 0)) (by decide +kernel)) g0m hm_z
      replace hm_z := rn_getR (x := 178) (am_cur_of (i := (267, 3, .getfield 54, (12, 33, 1417), 0)) (by decide +kernel)) (by decide +kernel) hm_z
      replace hm_z := rn_iload_n (am_cur_of (i := (270, 1, .iload_n 2, (0, 0, 0), 0)) (by decide +kernel)) g2m hm_z
      replace hm_z := rn_iconst (w := 1) (am_cur_of (i := (271, 1, .iconst 1, (0, 0, 0), 0)) (by decide +kernel)) (by decide) hm_z
      replace hm_z := rn_bastore (N := 6) (q := 3) (am_cur_of (i := (272, 1, .bastore, (0, 0, 0), 0)) (by decide +kernel)) (by decide +kernel) rfl hm_z
      obtain ⟨p374_z, hm_z⟩ := hm_z
      replace hm_z := rn_aload_n (am_cur_of (i := (273, 1, .aload_n 0, (0, 0, 0), 0)) (by decide +kernel)) g0m hm_z
      replace hm_z := rn_callV (M' := am_m151) (o := 164) (ar := []) (rest := []) (L := lv_args 0 [.ref 164]) (am_cur_of (i := (274, 3, .invokevirtual 191, (151, 1636, 3), 0)) (by decide +kernel)) rfl rfl rfl rfl hm_z
      obtain ⟨r375_z, h376_z, q377_z, hm_z⟩ := hm_z
      have vo := rn_void rfl q377_z
      subst vo
      obtain ⟨-, -, x3_z, p3_z, R3, le3_z, t5_z, t6_z⟩ := pr_tok (rq0_lw (rq_0 R)) q370_z q377_z
      have A2 : rp 2 (am_up h 44 7 (.int ((rp_tb b0_z b1_z b2_z b3_z b4_z b5_z b6_z) ||| 512))) (am_up g 178 3 (.int 1)) := ry_p2 A (ab_Fr_up rfl ab_Fr_refl) (ab_Fr_up rfl ab_Fr_refl) A.2.2.2.2.2.1.1 A.2.2.2.2.2.1.2.1 A.2.2.2.2.2.1.2.2
      have A3 := rp_x (by decide) A2 (rx_C_f t5_z) (rx_M_f t6_z)
      have B3 : rp_t h369_z h376_z := ⟨b0_z, b1_z, b2_z, b3_z, true, b5_z, b6_z, (rg_v_fr t5_z (by decide)).trans e2_z, (rg_v_fr t6_z (rg_v_in (by decide) _)).trans o0_z, (rg_v_fr t6_z (rg_v_in (by decide) _)).trans o1_z, (rg_v_fr t6_z (rg_v_in (by decide) _)).trans o2_z, (rg_v_fr t6_z (rg_v_in (by decide) _)).trans o3_z, (rg_v_fr t6_z (rg_v_in (by decide) _)).trans rfl, (rg_v_fr t6_z (rg_v_in (by decide) _)).trans o5_z, (rg_v_fr t6_z (rg_v_in (by decide) _)).trans o6_z⟩
      replace hm_z : rn _ _ _ _ [] _ _ _ := hm_z
      replace hc_z : rn _ _ _ _ [] _ _ _ := hc_z
      replace hc_z := rn_aload_n (am_cur_of (i := (74, 1, .aload_n 0, (0, 0, 0), 0)) (by decide +kernel)) g0_z hc_z
      replace hc_z := rn_getM (x := 2) (am_cur_of (i := (75, 3, .getfield 25, (4, 6, 415), 0)) (by decide +kernel)) R3.2.2.1 hc_z
      replace hc_z := rn_getR (x := 11) (am_cur_of (i := (78, 3, .getfield 242, (1, 19, 316), 0)) (by decide +kernel)) (by decide +kernel) hc_z
      replace hc_z := rn_iload_n (am_cur_of (i := (81, 1, .iload_n 1, (0, 0, 0), 0)) (by decide +kernel)) g1_z hc_z
      replace hc_z := rn_callV (M' := am_m43) (o := 11) (ar := [.int 0]) (rest := []) (L := lv_args 0 [.ref 11, .int 0]) (am_cur_of (i := (82, 3, .invokevirtual 246, (43, 826, 3), 0)) (by decide +kernel)) rfl rfl rfl rfl hc_z
      obtain ⟨r378_z, h379_z, q380_z, hc_z⟩ := hc_z
      rcases rs_beg2 q380_z with ⟨rfl, y381_z⟩
      replace y381_z := y381_z.symm
      subst y381_z
      replace hc_z : rn _ _ _ _ [] _ _ _ := hc_z
      replace hc_z := rn_aload_n (am_cur_of (i := (85, 1, .aload_n 0, (0, 0, 0), 0)) (by decide +kernel)) g0_z hc_z
      replace hc_z := rn_iconst (w := 0) (am_cur_of (i := (86, 1, .iconst 0, (0, 0, 0), 0)) (by decide +kernel)) (by decide) hc_z
      replace hc_z := rn_put (am_cur_of (i := (87, 3, .putfield 251, (4, 13, 422), 0)) (by decide +kernel)) (by decide +kernel) hc_z
      replace hc_z := rn_aload_n (am_cur_of (i := (90, 1, .aload_n 0, (0, 0, 0), 0)) (by decide +kernel)) g0_z hc_z
      replace hc_z := rn_iconst (w := 0) (am_cur_of (i := (91, 1, .iconst 0, (0, 0, 0), 0)) (by decide +kernel)) (by decide) hc_z
      replace hc_z := rn_put (am_cur_of (i := (92, 3, .putfield 254, (4, 14, 423), 0)) (by decide +kernel)) (by decide +kernel) hc_z
      replace hc_z := rn_iconst (w := 0) (am_cur_of (i := (95, 1, .iconst 0, (0, 0, 0), 0)) (by decide +kernel)) (by decide) hc_z
      replace hc_z := rn_istore_n (am_cur_of (i := (96, 1, .istore_n 2, (0, 0, 0), 0)) (by decide +kernel)) hc_z
      obtain ⟨_, s382_z, s383_z, g2_z, hc_z⟩ := hc_z
      replace g0_z := s382_z 0 _ (by decide) rfl g0_z
      replace g1_z := s382_z 1 _ (by decide) rfl g1_z
      clear s382_z s383_z
      replace hc_z := rn_iconst (w := 0) (am_cur_of (i := (97, 1, .iconst 0, (0, 0, 0), 0)) (by decide +kernel)) (by decide) hc_z
      replace hc_z := rn_istore_n (am_cur_of (i := (98, 1, .istore_n 3, (0, 0, 0), 0)) (by decide +kernel)) hc_z
      obtain ⟨_, s384_z, s385_z, g3_z, hc_z⟩ := hc_z
      replace g0_z := s384_z 0 _ (by decide) rfl g0_z
      replace g1_z := s384_z 1 _ (by decide) rfl g1_z
      replace g2_z := s384_z 2 _ (by decide) rfl g2_z
      clear s384_z s385_z
      replace hm_z := rn_aload_n (am_cur_of (i := (277, 1, .aload_n 0, (0, 0, 0), 0)) (by decide +kernel)) g0m hm_z
      replace hm_z := rn_getR (x := 179) (am_cur_of (i := (278, 3, .getfield 57, (12, 34, 1418), 0)) (by decide +kernel)) (by decide +kernel) hm_z
      replace hm_z := rn_iload_n (am_cur_of (i := (281, 1, .iload_n 2, (0, 0, 0), 0)) (by decide +kernel)) g2m hm_z
      replace hm_z := rn_aload_n (am_cur_of (i := (282, 1, .aload_n 0, (0, 0, 0), 0)) (by decide +kernel)) g0m hm_z
      replace hm_z := rn_getI (v := rg_v h376_z 164 21) (am_cur_of (i := (283, 3, .getfield 213, (12, 21, 1405), 0)) (by decide +kernel)) (by decide +kernel) rfl hm_z
      replace hm_z := rn_iastore (N := 6) (q := 3) (am_cur_of (i := (286, 1, .iastore, (0, 0, 0), 0)) (by decide +kernel)) (by decide +kernel) rfl hm_z
      obtain ⟨p386_z, hm_z⟩ := hm_z
      replace hm_z := rn_aload_n (am_cur_of (i := (287, 1, .aload_n 0, (0, 0, 0), 0)) (by decide +kernel)) g0m hm_z
      replace hm_z := rn_callV (M' := am_m170) (o := 164) (ar := []) (rest := []) (L := lv_args 0 [.ref 164]) (am_cur_of (i := (288, 3, .invokevirtual 271, (170, 1711, 3), 0)) (by decide +kernel)) rfl rfl rfl rfl hm_z
      obtain ⟨r387_z, h388_z, q389_z, hm_z⟩ := hm_z
      have g0q : am_get (lv_args 0 [.ref 164]) 0 = some (.ref 164) := rfl
      replace q389_z := rn_aload_n (am_cur_of (i := (0, 1, .aload_n 0, (0, 0, 0), 0)) (by decide +kernel)) g0q q389_z
      replace q389_z := rn_iconst (w := 0) (am_cur_of (i := (1, 1, .iconst 0, (0, 0, 0), 0)) (by decide +kernel)) (by decide) q389_z
      replace q389_z := rn_put (am_cur_of (i := (2, 3, .putfield 280, (12, 41, 1425), 0)) (by decide +kernel)) (by decide +kernel) q389_z
      replace q389_z := rn_aload_n (am_cur_of (i := (5, 1, .aload_n 0, (0, 0, 0), 0)) (by decide +kernel)) g0q q389_z
      replace q389_z := rn_iconst (w := 0) (am_cur_of (i := (6, 1, .iconst 0, (0, 0, 0), 0)) (by decide +kernel)) (by decide) q389_z
      replace q389_z := rn_put (am_cur_of (i := (7, 3, .putfield 277, (12, 42, 1426), 0)) (by decide +kernel)) (by decide +kernel) q389_z
      replace q389_z := rn_aload_n (am_cur_of (i := (10, 1, .aload_n 0, (0, 0, 0), 0)) (by decide +kernel)) g0q q389_z
      replace q389_z := rn_iconst (w := 0) (am_cur_of (i := (11, 1, .iconst 0, (0, 0, 0), 0)) (by decide +kernel)) (by decide) q389_z
      replace q389_z := rn_put (am_cur_of (i := (12, 3, .putfield 295, (12, 43, 1427), 0)) (by decide +kernel)) (by decide +kernel) q389_z
      replace q389_z := rn_aload_n (am_cur_of (i := (15, 1, .aload_n 0, (0, 0, 0), 0)) (by decide +kernel)) g0q q389_z
      replace q389_z := rn_iconst (w := 1) (am_cur_of (i := (16, 1, .iconst 1, (0, 0, 0), 0)) (by decide +kernel)) (by decide) q389_z
      replace q389_z := rn_put (am_cur_of (i := (17, 3, .putfield 315, (12, 45, 1429), 0)) (by decide +kernel)) (by decide +kernel) q389_z
      replace q389_z := rn_aload_n (am_cur_of (i := (20, 1, .aload_n 0, (0, 0, 0), 0)) (by decide +kernel)) g0q q389_z
      replace q389_z := rn_iconst (w := 1) (am_cur_of (i := (21, 1, .iconst 1, (0, 0, 0), 0)) (by decide +kernel)) (by decide) q389_z
      replace q389_z := rn_put (am_cur_of (i := (22, 3, .putfield 302, (12, 46, 1430), 0)) (by decide +kernel)) (by decide +kernel) q389_z
      have FC : ab_Fr (ry_MC2.drop 1) h369_z (am_up (am_up (am_up h369_z 14 ((0 : Int32).toNatClampNeg) (.int (rg_v h369_z 11 1))) 44 13 (.int 0)) 44 14 (.int 0)) := ab_Fr_up rfl (ab_Fr_up rfl (ab_Fr_up rfl ab_Fr_refl))
      have FM : ab_Fr ry_MT h376_z (am_up (am_up (am_up (am_up (am_up (am_up h376_z 179 3 (.int (rg_v h376_z 164 21))) 164 41 (.int 0)) 164 42 (.int 0)) 164 43 (.int 0)) 164 45 (.int 1)) 164 46 (.int 1)) := ab_Fr_up rfl (ab_Fr_up rfl (ab_Fr_up rfl (ab_Fr_up rfl (ab_Fr_up rfl (ab_Fr_up rfl ab_Fr_refl)))))
      have FM' : ab_Fr ry_MM h376_z (am_up (am_up (am_up (am_up (am_up (am_up h376_z 179 3 (.int (rg_v h376_z 164 21))) 164 41 (.int 0)) 164 42 (.int 0)) 164 43 (.int 0)) 164 45 (.int 1)) 164 46 (.int 1)) := ab_Fr_sub (by decide) FM
      have R4 := ry_rq2 R3 FC FM'
      have A4 := ry_p2 A3 (ab_Fr_sub (by decide) FC) FM' A3.2.2.2.2.2.1.1 A3.2.2.2.2.2.1.2.1 A3.2.2.2.2.2.1.2.2
      have B4 := ry_t2 B3 FC FM
      have kk : 0 ≤ (rg_v (am_up (am_up (am_up h369_z 14 ((0 : Int32).toNatClampNeg) (.int (rg_v h369_z 11 1))) 44 13 (.int 0)) 44 14 (.int 0)) 11 0).toInt := A4.2.2.2.2.2.1.2.1
      have Z4 : rs 2 (am_up (am_up (am_up h369_z 14 ((0 : Int32).toNatClampNeg) (.int (rg_v h369_z 11 1))) 44 13 (.int 0)) 44 14 (.int 0)) (am_up (am_up (am_up (am_up (am_up (am_up h376_z 179 3 (.int (rg_v h376_z 164 21))) 164 41 (.int 0)) 164 42 (.int 0)) 164 43 (.int 0)) 164 45 (.int 1)) 164 46 (.int 1)) := ⟨0, 0, rfl, rfl, by decide, rfl, rfl, by decide, by decide, (by rw [show (0 : Int32).toInt = 0 by decide]; show (0 : Int) ≤ (rg_v (am_up (am_up (am_up h369_z 14 ((0 : Int32).toNatClampNeg) (.int (rg_v h369_z 11 1))) 44 13 (.int 0)) 44 14 (.int 0)) 11 0).toInt + 0; omega), fun i hi_z => absurd hi_z (by rw [show (0 : Int32).toInt = 0 by decide]; omega), (by rw [show (0 : Int32).toNatClampNeg = 0 by decide, show (0 : Int32).toInt = 0 by decide]; rfl)⟩
      have R4p := R4.2.2.2.2.2.2.1
      have R4x := R4.2.2.2.2.2.2.2.1
      have Q := lw_loop2 (lw := 0) (x0_z := p3_z) _ 0 0 x3_z p3_z _ _ _ _ _ (by decide) (by rw [show (0 : Int32).toInt = 0 by decide]; exact R4p) (Int.le_refl _) R4 A4 B4 Z4 (Or.inl ⟨rfl, rfl, rfl⟩) g0_z g1_z g2_z g3_z g0q hc_z q389_z
      rcases Q with ⟨rfl, x5_z, p5_z, R5, le5_z, A5, B5⟩ | ⟨rfl, p5_z, wv, v0_z, f1_z, f2_z, f3_z, f4_z⟩ | ⟨rfl, p5_z, u1_z, u2_z, u3_z, u4_z, u5_z⟩
      · replace hm_z : rn _ _ _ _ [.int 1] _ _ _ := hm_z
        replace hm_z := rn_istore_n (am_cur_of (i := (291, 1, .istore_n 1, (0, 0, 0), 0)) (by decide +kernel)) hm_z
        obtain ⟨_, s390_z, s391_z, g1m, hm_z⟩ := hm_z
        replace g0m := s390_z 0 _ (by decide) rfl g0m
        replace g2m := s390_z 2 _ (by decide) rfl g2m
        clear s390_z s391_z
        replace hm_z := rn_aload_n (am_cur_of (i := (292, 1, .aload_n 0, (0, 0, 0), 0)) (by decide +kernel)) g0m hm_z
        replace hm_z := rn_getR (x := 180) (am_cur_of (i := (293, 3, .getfield 60, (12, 35, 1419), 0)) (by decide +kernel)) (by decide +kernel) hm_z
        replace hm_z := rn_iload_n (am_cur_of (i := (296, 1, .iload_n 2, (0, 0, 0), 0)) (by decide +kernel)) g2m hm_z
        replace hm_z := rn_aload_n (am_cur_of (i := (297, 1, .aload_n 0, (0, 0, 0), 0)) (by decide +kernel)) g0m hm_z
        replace hm_z := rn_getI (v := rg_v h388_z 164 21) (am_cur_of (i := (298, 3, .getfield 213, (12, 21, 1405), 0)) (by decide +kernel)) (by decide +kernel) rfl hm_z
        replace hm_z := rn_iastore (N := 6) (q := 3) (am_cur_of (i := (301, 1, .iastore, (0, 0, 0), 0)) (by decide +kernel)) (by decide +kernel) rfl hm_z
        obtain ⟨p392_z, hm_z⟩ := hm_z
        have EM : ab_Fr ry_MT h388_z (am_up h388_z 180 3 (.int (rg_v h388_z 164 21))) := ab_Fr_up rfl ab_Fr_refl
        exact Or.inl ⟨x5_z, p5_z, _, _, _, ry_rq2 R5 ab_Fr_refl (ab_Fr_sub (by decide) EM), by omega, ry_p2 A5 ab_Fr_refl (ab_Fr_sub (by decide) EM) A5.2.2.2.2.2.1.1 A5.2.2.2.2.2.1.2.1 A5.2.2.2.2.2.1.2.2, ry_t2 B5 ab_Fr_refl EM, g0m, g1m, hm_z⟩
      · replace hm_z : rn _ _ _ _ [.int 0] _ _ _ := hm_z
        replace hm_z := rn_istore_n (am_cur_of (i := (291, 1, .istore_n 1, (0, 0, 0), 0)) (by decide +kernel)) hm_z
        obtain ⟨_, s393_z, s394_z, g1m, hm_z⟩ := hm_z
        replace g0m := s393_z 0 _ (by decide) rfl g0m
        replace g2m := s393_z 2 _ (by decide) rfl g2m
        clear s393_z s394_z
        replace hm_z := rn_aload_n (am_cur_of (i := (292, 1, .aload_n 0, (0, 0, 0), 0)) (by decide +kernel)) g0m hm_z
        replace hm_z := rn_getR (x := 180) (am_cur_of (i := (293, 3, .getfield 60, (12, 35, 1419), 0)) (by decide +kernel)) (by decide +kernel) hm_z
        replace hm_z := rn_iload_n (am_cur_of (i := (296, 1, .iload_n 2, (0, 0, 0), 0)) (by decide +kernel)) g2m hm_z
        replace hm_z := rn_aload_n (am_cur_of (i := (297, 1, .aload_n 0, (0, 0, 0), 0)) (by decide +kernel)) g0m hm_z
        replace hm_z := rn_getI (v := rg_v h388_z 164 21) (am_cur_of (i := (298, 3, .getfield 213, (12, 21, 1405), 0)) (by decide +kernel)) (by decide +kernel) rfl hm_z
        replace hm_z := rn_iastore (N := 6) (q := 3) (am_cur_of (i := (301, 1, .iastore, (0, 0, 0), 0)) (by decide +kernel)) (by decide +kernel) rfl hm_z
        obtain ⟨p395_z, hm_z⟩ := hm_z
        replace hm_z := rn_iload_n (am_cur_of (i := (302, 1, .iload_n 1, (0, 0, 0), 0)) (by decide +kernel)) g1m hm_z
        replace hm_z := rn_ifF (am_cur_of (i := (303, 3, .ifCond .ne 5, (143, 0, 0), 0)) (by decide +kernel)) (by decide) hm_z
        replace hm_z := rn_iconst (w := 0) (am_cur_of (i := (306, 1, .iconst 0, (0, 0, 0), 0)) (by decide +kernel)) (by decide) hm_z
        replace hm_z := rn_iret (am_cur_of (i := (307, 1, .ireturn, (0, 0, 0), 0)) (by decide +kernel)) hm_z
        obtain ⟨e396_z, e397_z⟩ := hm_z
        subst e396_z e397_z
        exact Or.inr (Or.inl ⟨rfl, p5_z, wv, v0_z, f1_z, f2_z, f3_z, f4_z⟩)
      · replace hm_z : rn _ _ _ _ [.int 0] _ _ _ := hm_z
        replace hm_z := rn_istore_n (am_cur_of (i := (291, 1, .istore_n 1, (0, 0, 0), 0)) (by decide +kernel)) hm_z
        obtain ⟨_, s398_z, s399_z, g1m, hm_z⟩ := hm_z
        replace g0m := s398_z 0 _ (by decide) rfl g0m
        replace g2m := s398_z 2 _ (by decide) rfl g2m
        clear s398_z s399_z
        replace hm_z := rn_aload_n (am_cur_of (i := (292, 1, .aload_n 0, (0, 0, 0), 0)) (by decide +kernel)) g0m hm_z
        replace hm_z := rn_getR (x := 180) (am_cur_of (i := (293, 3, .getfield 60, (12, 35, 1419), 0)) (by decide +kernel)) (by decide +kernel) hm_z
        replace hm_z := rn_iload_n (am_cur_of (i := (296, 1, .iload_n 2, (0, 0, 0), 0)) (by decide +kernel)) g2m hm_z
        replace hm_z := rn_aload_n (am_cur_of (i := (297, 1, .aload_n 0, (0, 0, 0), 0)) (by decide +kernel)) g0m hm_z
        replace hm_z := rn_getI (v := rg_v h388_z 164 21) (am_cur_of (i := (298, 3, .getfield 213, (12, 21, 1405), 0)) (by decide +kernel)) (by decide +kernel) rfl hm_z
        replace hm_z := rn_iastore (N := 6) (q := 3) (am_cur_of (i := (301, 1, .iastore, (0, 0, 0), 0)) (by decide +kernel)) (by decide +kernel) rfl hm_z
        obtain ⟨p400_z, hm_z⟩ := hm_z
        replace hm_z := rn_iload_n (am_cur_of (i := (302, 1, .iload_n 1, (0, 0, 0), 0)) (by decide +kernel)) g1m hm_z
        replace hm_z := rn_ifF (am_cur_of (i := (303, 3, .ifCond .ne 5, (143, 0, 0), 0)) (by decide +kernel)) (by decide) hm_z
        replace hm_z := rn_iconst (w := 0) (am_cur_of (i := (306, 1, .iconst 0, (0, 0, 0), 0)) (by decide +kernel)) (by decide) hm_z
        replace hm_z := rn_iret (am_cur_of (i := (307, 1, .ireturn, (0, 0, 0), 0)) (by decide +kernel)) hm_z
        obtain ⟨e401_z, e402_z⟩ := hm_z
        subst e401_z e402_z
        exact Or.inr (Or.inr ⟨rfl, p5_z, u1_z, u2_z, u3_z, u4_z, u5_z⟩)
    · replace b367_z : ¬ (((rp_tb b0_z b1_z b2_z b3_z b4_z b5_z b6_z) >>> (9 &&& 31)) &&& 1) = (0 : Int32) ∧ ¬ (((rp_tb b0_z b1_z b2_z b3_z b4_z b5_z b6_z) >>> (9 &&& 31)) &&& 1).toInt = (0 : Int32).toInt := b367_z
      exact absurd (e1_z.trans (by decide)) b367_z.1
theorem pl_law10_2 {T : Nat → Int32} {S x p : Int32} {n n' : Nat} {h h' g g' : am_H} {r r' : Option Value} {ls ls2_z : am_L} (R : rq T S x p 2 h g) (A : rp 2 h g) (B : rp_t h g) (ka : rg_v h 44 10 = 2) (kb : rg_v h 44 11 = 10) (kc : rg_v g 164 8 = 1) (kd : rg_v g 164 9 = 10) (g0_z : am_get ls 0 = some (.ref 44)) (g0m : am_get ls2_z 0 = some (.ref 164)) (hc_z : rn n am_m42 2 ls [] h r h') (hm_z : rn n' am_m157 85 ls2_z [] g r' g') : pm_Q T S x 2 h' g' r' := by
  have z0_z : (0 : Int32).toInt = 0 := by decide
  have R5 := R.2.2.2.2.1
  have R6 := R.2.2.2.2.2.1
  obtain ⟨b0_z, b1_z, b2_z, b3_z, b4_z, b5_z, b6_z, t, o0_z, o1_z, o2_z, o3_z, o4_z, o5_z, o6_z⟩ := id B
  obtain ⟨e1_z, -⟩ := rp_tb5 b0_z b1_z b2_z b3_z b4_z b5_z b6_z
  have e2_z := rp_tc5 b0_z b1_z b2_z b3_z b4_z b5_z b6_z
  rcases Bool.eq_false_or_eq_true b5_z with hb_z | hb_z
  · replace e1_z := e1_z.trans (show rp_bi b5_z = rp_bi true from by rw [hb_z])
    replace hc_z := rn_aload_n (am_cur_of (i := (4, 1, .aload_n 0, (0, 0, 0), 0)) (by decide +kernel)) g0_z hc_z
    replace hc_z := rn_getI (v := 10) (am_cur_of (i := (5, 3, .getfield 91, (4, 11, 420), 0)) (by decide +kernel)) (by decide +kernel) kb hc_z
    replace hc_z := rn_bipush (w := 9) (am_cur_of (i := (8, 2, .bipush 9, (0, 0, 0), 0)) (by decide +kernel)) (by decide) hc_z
    replace hc_z := rn_isub (w := 1) (am_cur_of (i := (10, 1, .isub, (0, 0, 0), 0)) (by decide +kernel)) (by decide) hc_z
    replace hc_z := rn_istore_n (am_cur_of (i := (11, 1, .istore_n 1, (0, 0, 0), 0)) (by decide +kernel)) hc_z
    obtain ⟨_, s403_z, s404_z, g1_z, hc_z⟩ := hc_z
    replace g0_z := s403_z 0 _ (by decide) rfl g0_z
    clear s403_z s404_z
    replace hc_z := rn_aload_n (am_cur_of (i := (12, 1, .aload_n 0, (0, 0, 0), 0)) (by decide +kernel)) g0_z hc_z
    replace hc_z := rn_getI (v := 2) (am_cur_of (i := (13, 3, .getfield 60, (4, 10, 419), 0)) (by decide +kernel)) (by decide +kernel) ka hc_z
    replace hc_z := rn_iconst (w := 2) (am_cur_of (i := (16, 1, .iconst 2, (0, 0, 0), 0)) (by decide +kernel)) (by decide) hc_z
    replace hc_z := rn_cmpF (am_cur_of (i := (17, 3, .if_icmp .ne 12, (16, 0, 0), 0)) (by decide +kernel)) (by decide) hc_z
    replace hc_z := rn_iload_n (am_cur_of (i := (20, 1, .iload_n 1, (0, 0, 0), 0)) (by decide +kernel)) g1_z hc_z
    replace hc_z := rn_ifF (am_cur_of (i := (21, 3, .ifCond .lt 8, (16, 0, 0), 0)) (by decide +kernel)) (by decide) hc_z
    replace hc_z := rn_iload_n (am_cur_of (i := (24, 1, .iload_n 1, (0, 0, 0), 0)) (by decide +kernel)) g1_z hc_z
    replace hc_z := rn_iconst (w := 2) (am_cur_of (i := (25, 1, .iconst 2, (0, 0, 0), 0)) (by decide +kernel)) (by decide) hc_z
    replace hc_z := rn_cmpT (am_cur_of (i := (26, 3, .if_icmp .le 9, (20, 0, 0), 0)) (by decide +kernel)) (by decide) hc_z
    replace hc_z := rn_aload_n (am_cur_of (i := (35, 1, .aload_n 0, (0, 0, 0), 0)) (by decide +kernel)) g0_z hc_z
    replace hc_z := rn_getI (v := rp_tb b0_z b1_z b2_z b3_z b4_z b5_z b6_z) (am_cur_of (i := (36, 3, .getfield 45, (4, 7, 416), 0)) (by decide +kernel)) (by decide +kernel) t hc_z
    replace hc_z := rn_aload_n (am_cur_of (i := (39, 1, .aload_n 0, (0, 0, 0), 0)) (by decide +kernel)) g0_z hc_z
    replace hc_z := rn_getI (v := 10) (am_cur_of (i := (40, 3, .getfield 91, (4, 11, 420), 0)) (by decide +kernel)) (by decide +kernel) kb hc_z
    replace hc_z := rn_ishr (w := (rp_tb b0_z b1_z b2_z b3_z b4_z b5_z b6_z) >>> (10 &&& 31)) (am_cur_of (i := (43, 1, .ishr, (0, 0, 0), 0)) (by decide +kernel)) rfl hc_z
    replace hc_z := rn_iconst (w := 1) (am_cur_of (i := (44, 1, .iconst 1, (0, 0, 0), 0)) (by decide +kernel)) (by decide) hc_z
    replace hc_z := rn_iand (w := ((rp_tb b0_z b1_z b2_z b3_z b4_z b5_z b6_z) >>> (10 &&& 31)) &&& 1) (am_cur_of (i := (45, 1, .iand, (0, 0, 0), 0)) (by decide +kernel)) rfl hc_z
    replace hc_z := rn_if (am_cur_of (i := (46, 3, .ifCond .eq 9, (32, 0, 0), 0)) (by decide +kernel)) hc_z
    rcases hc_z with ⟨b405_z, hc_z⟩ | ⟨b405_z, hc_z⟩
    · replace b405_z : (((rp_tb b0_z b1_z b2_z b3_z b4_z b5_z b6_z) >>> (10 &&& 31)) &&& 1) = (0 : Int32) ∧ (((rp_tb b0_z b1_z b2_z b3_z b4_z b5_z b6_z) >>> (10 &&& 31)) &&& 1).toInt = (0 : Int32).toInt := b405_z
      exact absurd (e1_z.symm.trans b405_z.1) (by decide)
    · replace b405_z : ¬ (((rp_tb b0_z b1_z b2_z b3_z b4_z b5_z b6_z) >>> (10 &&& 31)) &&& 1) = (0 : Int32) ∧ ¬ (((rp_tb b0_z b1_z b2_z b3_z b4_z b5_z b6_z) >>> (10 &&& 31)) &&& 1).toInt = (0 : Int32).toInt := b405_z
      replace hc_z := rn_aload_n (am_cur_of (i := (49, 1, .aload_n 0, (0, 0, 0), 0)) (by decide +kernel)) g0_z hc_z
      replace hc_z := rn_iconst (w := 3) (am_cur_of (i := (50, 1, .iconst 3, (0, 0, 0), 0)) (by decide +kernel)) (by decide) hc_z
      replace hc_z := rn_callV (M' := am_m29) (o := 44) (ar := [.int 3]) (rest := []) (L := lv_args 0 [.ref 44, .int 3]) (am_cur_of (i := (51, 3, .invokevirtual 108, (29, 769, 3), 0)) (by decide +kernel)) rfl rfl rfl rfl hc_z
      obtain ⟨r406_z, h407_z, q408_z, hc_z⟩ := hc_z
      obtain ⟨rfl, yq408_z⟩ := rp_fail R.2.2.2.1 q408_z
      subst yq408_z
      replace hc_z : rn _ _ _ _ [] _ _ _ := hc_z
      have K := rs_stick (w := 3) (a := 42) (by decide) (by decide) rfl (by decide) rfl rfl hc_z
      replace hm_z := rn_aload_n (am_cur_of (i := (209, 1, .aload_n 0, (0, 0, 0), 0)) (by decide +kernel)) g0m hm_z
      replace hm_z := rn_getI (v := 1) (am_cur_of (i := (210, 3, .getfield 157, (12, 8, 1392), 0)) (by decide +kernel)) (by decide +kernel) kc hm_z
      replace hm_z := rn_iconst (w := 1) (am_cur_of (i := (213, 1, .iconst 1, (0, 0, 0), 0)) (by decide +kernel)) (by decide) hm_z
      replace hm_z := rn_cmpF (am_cur_of (i := (214, 3, .if_icmp .ne 21, (97, 0, 0), 0)) (by decide +kernel)) (by decide) hm_z
      replace hm_z := rn_aload_n (am_cur_of (i := (217, 1, .aload_n 0, (0, 0, 0), 0)) (by decide +kernel)) g0m hm_z
      replace hm_z := rn_getI (v := 10) (am_cur_of (i := (218, 3, .getfield 168, (12, 9, 1393), 0)) (by decide +kernel)) (by decide +kernel) kd hm_z
      replace hm_z := rn_bipush (w := 9) (am_cur_of (i := (221, 2, .bipush 9, (0, 0, 0), 0)) (by decide +kernel)) (by decide) hm_z
      replace hm_z := rn_cmpF (am_cur_of (i := (223, 3, .if_icmp .lt 12, (97, 0, 0), 0)) (by decide +kernel)) (by decide) hm_z
      replace hm_z := rn_aload_n (am_cur_of (i := (226, 1, .aload_n 0, (0, 0, 0), 0)) (by decide +kernel)) g0m hm_z
      replace hm_z := rn_getI (v := 10) (am_cur_of (i := (227, 3, .getfield 168, (12, 9, 1393), 0)) (by decide +kernel)) (by decide +kernel) kd hm_z
      replace hm_z := rn_bipush (w := 11) (am_cur_of (i := (230, 2, .bipush 11, (0, 0, 0), 0)) (by decide +kernel)) (by decide) hm_z
      replace hm_z := rn_cmpT (am_cur_of (i := (232, 3, .if_icmp .le 9, (101, 0, 0), 0)) (by decide +kernel)) (by decide) hm_z
      replace hm_z := rn_iconst (w := 3) (am_cur_of (i := (241, 1, .iconst 3, (0, 0, 0), 0)) (by decide +kernel)) (by decide) hm_z
      replace hm_z := rn_aload_n (am_cur_of (i := (242, 1, .aload_n 0, (0, 0, 0), 0)) (by decide +kernel)) g0m hm_z
      replace hm_z := rn_getI (v := 10) (am_cur_of (i := (243, 3, .getfield 168, (12, 9, 1393), 0)) (by decide +kernel)) (by decide +kernel) kd hm_z
      replace hm_z := rn_iadd (w := 13) (am_cur_of (i := (246, 1, .iadd, (0, 0, 0), 0)) (by decide +kernel)) (by decide) hm_z
      replace hm_z := rn_bipush (w := 9) (am_cur_of (i := (247, 2, .bipush 9, (0, 0, 0), 0)) (by decide +kernel)) (by decide) hm_z
      replace hm_z := rn_isub (w := 4) (am_cur_of (i := (249, 1, .isub, (0, 0, 0), 0)) (by decide +kernel)) (by decide) hm_z
      replace hm_z := rn_istore_n (am_cur_of (i := (250, 1, .istore_n 2, (0, 0, 0), 0)) (by decide +kernel)) hm_z
      obtain ⟨_, s409_z, s410_z, g2m, hm_z⟩ := hm_z
      replace g0m := s409_z 0 _ (by decide) rfl g0m
      clear s409_z s410_z
      replace hm_z := rn_aload_n (am_cur_of (i := (251, 1, .aload_n 0, (0, 0, 0), 0)) (by decide +kernel)) g0m hm_z
      replace hm_z := rn_getR (x := 178) (am_cur_of (i := (252, 3, .getfield 54, (12, 33, 1417), 0)) (by decide +kernel)) (by decide +kernel) hm_z
      replace hm_z := rn_iload_n (am_cur_of (i := (255, 1, .iload_n 2, (0, 0, 0), 0)) (by decide +kernel)) g2m hm_z
      replace hm_z := rn_baload (N := 6) (q := 4) (v := 1) (am_cur_of (i := (256, 1, .baload, (0, 0, 0), 0)) (by decide +kernel)) (by decide +kernel) rfl (o5_z.trans (show rp_bi b5_z = 1 from by rw [hb_z]; decide)) hm_z
      obtain ⟨p411_z, hm_z⟩ := hm_z
      replace hm_z := rn_ifF (am_cur_of (i := (257, 3, .ifCond .eq 9, (117, 0, 0), 0)) (by decide +kernel)) (by decide) hm_z
      replace hm_z := rn_aload_n (am_cur_of (i := (260, 1, .aload_n 0, (0, 0, 0), 0)) (by decide +kernel)) g0m hm_z
      replace hm_z := rn_iconst (w := 3) (am_cur_of (i := (261, 1, .iconst 3, (0, 0, 0), 0)) (by decide +kernel)) (by decide) hm_z
      replace hm_z := rn_callV (M' := am_m158) (o := 164) (ar := [.int 3]) (rest := []) (L := lv_args 0 [.ref 164, .int 3]) (am_cur_of (i := (262, 3, .invokevirtual 181, (158, 1665, 3), 0)) (by decide +kernel)) rfl rfl rfl rfl hm_z
      obtain ⟨r412_z, h413_z, q414_z, hm_z⟩ := hm_z
      obtain ⟨rfl, yq414_z⟩ := rp_wrong q414_z
      subst yq414_z
      replace hm_z : rn _ _ _ _ [.int 0] _ _ _ := hm_z
      replace hm_z := rn_iret (am_cur_of (i := (265, 1, .ireturn, (0, 0, 0), 0)) (by decide +kernel)) hm_z
      obtain ⟨e415_z, e416_z⟩ := hm_z
      subst e415_z e416_z
      exact Or.inr (Or.inl ⟨rfl, _, 3, by decide, K.1, K.2.trans R5, rfl, R6⟩)
  · replace e1_z := e1_z.trans (show rp_bi b5_z = rp_bi false from by rw [hb_z])
    replace hc_z := rn_aload_n (am_cur_of (i := (4, 1, .aload_n 0, (0, 0, 0), 0)) (by decide +kernel)) g0_z hc_z
    replace hc_z := rn_getI (v := 10) (am_cur_of (i := (5, 3, .getfield 91, (4, 11, 420), 0)) (by decide +kernel)) (by decide +kernel) kb hc_z
    replace hc_z := rn_bipush (w := 9) (am_cur_of (i := (8, 2, .bipush 9, (0, 0, 0), 0)) (by decide +kernel)) (by decide) hc_z
    replace hc_z := rn_isub (w := 1) (am_cur_of (i := (10, 1, .isub, (0, 0, 0), 0)) (by decide +kernel)) (by decide) hc_z
    replace hc_z := rn_istore_n (am_cur_of (i := (11, 1, .istore_n 1, (0, 0, 0), 0)) (by decide +kernel)) hc_z
    obtain ⟨_, s417_z, s418_z, g1_z, hc_z⟩ := hc_z
    replace g0_z := s417_z 0 _ (by decide) rfl g0_z
    clear s417_z s418_z
    replace hc_z := rn_aload_n (am_cur_of (i := (12, 1, .aload_n 0, (0, 0, 0), 0)) (by decide +kernel)) g0_z hc_z
    replace hc_z := rn_getI (v := 2) (am_cur_of (i := (13, 3, .getfield 60, (4, 10, 419), 0)) (by decide +kernel)) (by decide +kernel) ka hc_z
    replace hc_z := rn_iconst (w := 2) (am_cur_of (i := (16, 1, .iconst 2, (0, 0, 0), 0)) (by decide +kernel)) (by decide) hc_z
    replace hc_z := rn_cmpF (am_cur_of (i := (17, 3, .if_icmp .ne 12, (16, 0, 0), 0)) (by decide +kernel)) (by decide) hc_z
    replace hc_z := rn_iload_n (am_cur_of (i := (20, 1, .iload_n 1, (0, 0, 0), 0)) (by decide +kernel)) g1_z hc_z
    replace hc_z := rn_ifF (am_cur_of (i := (21, 3, .ifCond .lt 8, (16, 0, 0), 0)) (by decide +kernel)) (by decide) hc_z
    replace hc_z := rn_iload_n (am_cur_of (i := (24, 1, .iload_n 1, (0, 0, 0), 0)) (by decide +kernel)) g1_z hc_z
    replace hc_z := rn_iconst (w := 2) (am_cur_of (i := (25, 1, .iconst 2, (0, 0, 0), 0)) (by decide +kernel)) (by decide) hc_z
    replace hc_z := rn_cmpT (am_cur_of (i := (26, 3, .if_icmp .le 9, (20, 0, 0), 0)) (by decide +kernel)) (by decide) hc_z
    replace hc_z := rn_aload_n (am_cur_of (i := (35, 1, .aload_n 0, (0, 0, 0), 0)) (by decide +kernel)) g0_z hc_z
    replace hc_z := rn_getI (v := rp_tb b0_z b1_z b2_z b3_z b4_z b5_z b6_z) (am_cur_of (i := (36, 3, .getfield 45, (4, 7, 416), 0)) (by decide +kernel)) (by decide +kernel) t hc_z
    replace hc_z := rn_aload_n (am_cur_of (i := (39, 1, .aload_n 0, (0, 0, 0), 0)) (by decide +kernel)) g0_z hc_z
    replace hc_z := rn_getI (v := 10) (am_cur_of (i := (40, 3, .getfield 91, (4, 11, 420), 0)) (by decide +kernel)) (by decide +kernel) kb hc_z
    replace hc_z := rn_ishr (w := (rp_tb b0_z b1_z b2_z b3_z b4_z b5_z b6_z) >>> (10 &&& 31)) (am_cur_of (i := (43, 1, .ishr, (0, 0, 0), 0)) (by decide +kernel)) rfl hc_z
    replace hc_z := rn_iconst (w := 1) (am_cur_of (i := (44, 1, .iconst 1, (0, 0, 0), 0)) (by decide +kernel)) (by decide) hc_z
    replace hc_z := rn_iand (w := ((rp_tb b0_z b1_z b2_z b3_z b4_z b5_z b6_z) >>> (10 &&& 31)) &&& 1) (am_cur_of (i := (45, 1, .iand, (0, 0, 0), 0)) (by decide +kernel)) rfl hc_z
    replace hc_z := rn_if (am_cur_of (i := (46, 3, .ifCond .eq 9, (32, 0, 0), 0)) (by decide +kernel)) hc_z
    rcases hc_z with ⟨b419_z, hc_z⟩ | ⟨b419_z, hc_z⟩
    · replace b419_z : (((rp_tb b0_z b1_z b2_z b3_z b4_z b5_z b6_z) >>> (10 &&& 31)) &&& 1) = (0 : Int32) ∧ (((rp_tb b0_z b1_z b2_z b3_z b4_z b5_z b6_z) >>> (10 &&& 31)) &&& 1).toInt = (0 : Int32).toInt := b419_z
      replace hc_z := rn_aload_n (am_cur_of (i := (55, 1, .aload_n 0, (0, 0, 0), 0)) (by decide +kernel)) g0_z hc_z
      replace hc_z := rn_dup (am_cur_of (i := (56, 1, .dup, (0, 0, 0), 0)) (by decide +kernel)) hc_z
      replace hc_z := rn_getI (v := rp_tb b0_z b1_z b2_z b3_z b4_z b5_z b6_z) (am_cur_of (i := (57, 3, .getfield 45, (4, 7, 416), 0)) (by decide +kernel)) (by decide +kernel) t hc_z
      replace hc_z := rn_iconst (w := 1) (am_cur_of (i := (60, 1, .iconst 1, (0, 0, 0), 0)) (by decide +kernel)) (by decide) hc_z
      replace hc_z := rn_aload_n (am_cur_of (i := (61, 1, .aload_n 0, (0, 0, 0), 0)) (by decide +kernel)) g0_z hc_z
      replace hc_z := rn_getI (v := 10) (am_cur_of (i := (62, 3, .getfield 91, (4, 11, 420), 0)) (by decide +kernel)) (by decide +kernel) kb hc_z
      replace hc_z := rn_ishl (w := 1024) (am_cur_of (i := (65, 1, .ishl, (0, 0, 0), 0)) (by decide +kernel)) (by decide) hc_z
      replace hc_z := rn_ior (w := (rp_tb b0_z b1_z b2_z b3_z b4_z b5_z b6_z) ||| 1024) (am_cur_of (i := (66, 1, .ior, (0, 0, 0), 0)) (by decide +kernel)) rfl hc_z
      replace hc_z := rn_put (am_cur_of (i := (67, 3, .putfield 45, (4, 7, 416), 0)) (by decide +kernel)) (by decide +kernel) hc_z
      replace hc_z := rn_aload_n (am_cur_of (i := (70, 1, .aload_n 0, (0, 0, 0), 0)) (by decide +kernel)) g0_z hc_z
      replace hc_z := rn_callV (M' := am_m19) (o := 44) (ar := []) (rest := []) (L := lv_args 0 [.ref 44]) (am_cur_of (i := (71, 3, .invokevirtual 57, (19, 727, 3), 0)) (by decide +kernel)) rfl rfl rfl rfl hc_z
      obtain ⟨r420_z, h421_z, q422_z, hc_z⟩ := hc_z
      have vo := rn_void rfl q422_z
      subst vo
      replace hm_z := rn_aload_n (am_cur_of (i := (209, 1, .aload_n 0, (0, 0, 0), 0)) (by decide +kernel)) g0m hm_z
      replace hm_z := rn_getI (v := 1) (am_cur_of (i := (210, 3, .getfield 157, (12, 8, 1392), 0)) (by decide +kernel)) (by decide +kernel) kc hm_z
      replace hm_z := rn_iconst (w := 1) (am_cur_of (i := (213, 1, .iconst 1, (0, 0, 0), 0)) (by decide +kernel)) (by decide) hm_z
      replace hm_z := rn_cmpF (am_cur_of (i := (214, 3, .if_icmp .ne 21, (97, 0, 0), 0)) (by decide +kernel)) (by decide) hm_z
      replace hm_z := rn_aload_n (am_cur_of (i := (217, 1, .aload_n 0, (0, 0, 0), 0)) (by decide +kernel)) g0m hm_z
      replace hm_z := rn_getI (v := 10) (am_cur_of (i := (218, 3, .getfield 168, (12, 9, 1393), 0)) (by decide +kernel)) (by decide +kernel) kd hm_z
      replace hm_z := rn_bipush (w := 9) (am_cur_of (i := (221, 2, .bipush 9, (0, 0, 0), 0)) (by decide +kernel)) (by decide) hm_z
      replace hm_z := rn_cmpF (am_cur_of (i := (223, 3, .if_icmp .lt 12, (97, 0, 0), 0)) (by decide +kernel)) (by decide) hm_z
      replace hm_z := rn_aload_n (am_cur_of (i := (226, 1, .aload_n 0, (0, 0, 0), 0)) (by decide +kernel)) g0m hm_z
      replace hm_z := rn_getI (v := 10) (am_cur_of (i := (227, 3, .getfield 168, (12, 9, 1393), 0)) (by decide +kernel)) (by decide +kernel) kd hm_z
      replace hm_z := rn_bipush (w := 11) (am_cur_of (i := (230, 2, .bipush 11, (0, 0, 0), 0)) (by decide +kernel)) (by decide) hm_z
      replace hm_z := rn_cmpT (am_cur_of (i := (232, 3, .if_icmp .le 9, (101, 0, 0), 0)) (by decide +kernel)) (by decide) hm_z
      replace hm_z := rn_iconst (w := 3) (am_cur_of (i := (241, 1, .iconst 3, (0, 0, 0), 0)) (by decide +kernel)) (by decide) hm_z
      replace hm_z := rn_aload_n (am_cur_of (i := (242, 1, .aload_n 0, (0, 0, 0), 0)) (by decide +kernel)) g0m hm_z
      replace hm_z := rn_getI (v := 10) (am_cur_of (i := (243, 3, .getfield 168, (12, 9, 1393), 0)) (by decide +kernel)) (by decide +kernel) kd hm_z
      replace hm_z := rn_iadd (w := 13) (am_cur_of (i := (246, 1, .iadd, (0, 0, 0), 0)) (by decide +kernel)) (by decide) hm_z
      replace hm_z := rn_bipush (w := 9) (am_cur_of (i := (247, 2, .bipush 9, (0, 0, 0), 0)) (by decide +kernel)) (by decide) hm_z
      replace hm_z := rn_isub (w := 4) (am_cur_of (i := (249, 1, .isub, (0, 0, 0), 0)) (by decide +kernel)) (by decide) hm_z
      replace hm_z := rn_istore_n (am_cur_of (i := (250, 1, .istore_n 2, (0, 0, 0), 0)) (by decide +kernel)) hm_z
      obtain ⟨_, s423_z, s424_z, g2m, hm_z⟩ := hm_z
      replace g0m := s423_z 0 _ (by decide) rfl g0m
      clear s423_z s424_z
      replace hm_z := rn_aload_n (am_cur_of (i := (251, 1, .aload_n 0, (0, 0, 0), 0)) (by decide +kernel)) g0m hm_z
      replace hm_z := rn_getR (x := 178) (am_cur_of (i := (252, 3, .getfield 54, (12, 33, 1417), 0)) (by decide +kernel)) (by decide +kernel) hm_z
      replace hm_z := rn_iload_n (am_cur_of (i := (255, 1, .iload_n 2, (0, 0, 0), 0)) (by decide +kernel)) g2m hm_z
      replace hm_z := rn_baload (N := 6) (q := 4) (v := 0) (am_cur_of (i := (256, 1, .baload, (0, 0, 0), 0)) (by decide +kernel)) (by decide +kernel) rfl (o5_z.trans (show rp_bi b5_z = 0 from by rw [hb_z]; decide)) hm_z
      obtain ⟨p425_z, hm_z⟩ := hm_z
      replace hm_z := rn_ifT (am_cur_of (i := (257, 3, .ifCond .eq 9, (117, 0, 0), 0)) (by decide +kernel)) (by decide) hm_z
      replace hm_z := rn_aload_n (am_cur_of (i := (266, 1, .aload_n 0, (0, 0, 0), 0)) (by decide +kernel)) g0m hm_z
      replace hm_z := rn_getR (x := 178) (am_cur_of (i := (267, 3, .getfield 54, (12, 33, 1417), 0)) (by decide +kernel)) (by decide +kernel) hm_z
      replace hm_z := rn_iload_n (am_cur_of (i := (270, 1, .iload_n 2, (0, 0, 0), 0)) (by decide +kernel)) g2m hm_z
      replace hm_z := rn_iconst (w := 1) (am_cur_of (i := (271, 1, .iconst 1, (0, 0, 0), 0)) (by decide +kernel)) (by decide) hm_z
      replace hm_z := rn_bastore (N := 6) (q := 4) (am_cur_of (i := (272, 1, .bastore, (0, 0, 0), 0)) (by decide +kernel)) (by decide +kernel) rfl hm_z
      obtain ⟨p426_z, hm_z⟩ := hm_z
      replace hm_z := rn_aload_n (am_cur_of (i := (273, 1, .aload_n 0, (0, 0, 0), 0)) (by decide +kernel)) g0m hm_z
      replace hm_z := rn_callV (M' := am_m151) (o := 164) (ar := []) (rest := []) (L := lv_args 0 [.ref 164]) (am_cur_of (i := (274, 3, .invokevirtual 191, (151, 1636, 3), 0)) (by decide +kernel)) rfl rfl rfl rfl hm_z
      obtain ⟨r427_z, h428_z, q429_z, hm_z⟩ := hm_z
      have vo := rn_void rfl q429_z
      subst vo
      obtain ⟨-, -, x3_z, p3_z, R3, le3_z, t5_z, t6_z⟩ := pr_tok (rq0_lw (rq_0 R)) q422_z q429_z
      have A2 : rp 2 (am_up h 44 7 (.int ((rp_tb b0_z b1_z b2_z b3_z b4_z b5_z b6_z) ||| 1024))) (am_up g 178 4 (.int 1)) := ry_p2 A (ab_Fr_up rfl ab_Fr_refl) (ab_Fr_up rfl ab_Fr_refl) A.2.2.2.2.2.1.1 A.2.2.2.2.2.1.2.1 A.2.2.2.2.2.1.2.2
      have A3 := rp_x (by decide) A2 (rx_C_f t5_z) (rx_M_f t6_z)
      have B3 : rp_t h421_z h428_z := ⟨b0_z, b1_z, b2_z, b3_z, b4_z, true, b6_z, (rg_v_fr t5_z (by decide)).trans e2_z, (rg_v_fr t6_z (rg_v_in (by decide) _)).trans o0_z, (rg_v_fr t6_z (rg_v_in (by decide) _)).trans o1_z, (rg_v_fr t6_z (rg_v_in (by decide) _)).trans o2_z, (rg_v_fr t6_z (rg_v_in (by decide) _)).trans o3_z, (rg_v_fr t6_z (rg_v_in (by decide) _)).trans o4_z, (rg_v_fr t6_z (rg_v_in (by decide) _)).trans rfl, (rg_v_fr t6_z (rg_v_in (by decide) _)).trans o6_z⟩
      replace hm_z : rn _ _ _ _ [] _ _ _ := hm_z
      replace hc_z : rn _ _ _ _ [] _ _ _ := hc_z
      replace hc_z := rn_aload_n (am_cur_of (i := (74, 1, .aload_n 0, (0, 0, 0), 0)) (by decide +kernel)) g0_z hc_z
      replace hc_z := rn_getM (x := 2) (am_cur_of (i := (75, 3, .getfield 25, (4, 6, 415), 0)) (by decide +kernel)) R3.2.2.1 hc_z
      replace hc_z := rn_getR (x := 11) (am_cur_of (i := (78, 3, .getfield 242, (1, 19, 316), 0)) (by decide +kernel)) (by decide +kernel) hc_z
      replace hc_z := rn_iload_n (am_cur_of (i := (81, 1, .iload_n 1, (0, 0, 0), 0)) (by decide +kernel)) g1_z hc_z
      replace hc_z := rn_callV (M' := am_m43) (o := 11) (ar := [.int 1]) (rest := []) (L := lv_args 0 [.ref 11, .int 1]) (am_cur_of (i := (82, 3, .invokevirtual 246, (43, 826, 3), 0)) (by decide +kernel)) rfl rfl rfl rfl hc_z
      obtain ⟨r430_z, h431_z, q432_z, hc_z⟩ := hc_z
      rcases rs_beg2 q432_z with ⟨rfl, y433_z⟩
      replace y433_z := y433_z.symm
      subst y433_z
      replace hc_z : rn _ _ _ _ [] _ _ _ := hc_z
      replace hc_z := rn_aload_n (am_cur_of (i := (85, 1, .aload_n 0, (0, 0, 0), 0)) (by decide +kernel)) g0_z hc_z
      replace hc_z := rn_iconst (w := 0) (am_cur_of (i := (86, 1, .iconst 0, (0, 0, 0), 0)) (by decide +kernel)) (by decide) hc_z
      replace hc_z := rn_put (am_cur_of (i := (87, 3, .putfield 251, (4, 13, 422), 0)) (by decide +kernel)) (by decide +kernel) hc_z
      replace hc_z := rn_aload_n (am_cur_of (i := (90, 1, .aload_n 0, (0, 0, 0), 0)) (by decide +kernel)) g0_z hc_z
      replace hc_z := rn_iconst (w := 0) (am_cur_of (i := (91, 1, .iconst 0, (0, 0, 0), 0)) (by decide +kernel)) (by decide) hc_z
      replace hc_z := rn_put (am_cur_of (i := (92, 3, .putfield 254, (4, 14, 423), 0)) (by decide +kernel)) (by decide +kernel) hc_z
      replace hc_z := rn_iconst (w := 0) (am_cur_of (i := (95, 1, .iconst 0, (0, 0, 0), 0)) (by decide +kernel)) (by decide) hc_z
      replace hc_z := rn_istore_n (am_cur_of (i := (96, 1, .istore_n 2, (0, 0, 0), 0)) (by decide +kernel)) hc_z
      obtain ⟨_, s434_z, s435_z, g2_z, hc_z⟩ := hc_z
      replace g0_z := s434_z 0 _ (by decide) rfl g0_z
      replace g1_z := s434_z 1 _ (by decide) rfl g1_z
      clear s434_z s435_z
      replace hc_z := rn_iconst (w := 0) (am_cur_of (i := (97, 1, .iconst 0, (0, 0, 0), 0)) (by decide +kernel)) (by decide) hc_z
      replace hc_z := rn_istore_n (am_cur_of (i := (98, 1, .istore_n 3, (0, 0, 0), 0)) (by decide +kernel)) hc_z
      obtain ⟨_, s436_z, s437_z, g3_z, hc_z⟩ := hc_z
      replace g0_z := s436_z 0 _ (by decide) rfl g0_z
      replace g1_z := s436_z 1 _ (by decide) rfl g1_z
      replace g2_z := s436_z 2 _ (by decide) rfl g2_z
      clear s436_z s437_z
      replace hm_z := rn_aload_n (am_cur_of (i := (277, 1, .aload_n 0, (0, 0, 0), 0)) (by decide +kernel)) g0m hm_z
      replace hm_z := rn_getR (x := 179) (am_cur_of (i := (278, 3, .getfield 57, (12, 34, 1418), 0)) (by decide +kernel)) (by decide +kernel) hm_z
      replace hm_z := rn_iload_n (am_cur_of (i := (281, 1, .iload_n 2, (0, 0, 0), 0)) (by decide +kernel)) g2m hm_z
      replace hm_z := rn_aload_n (am_cur_of (i := (282, 1, .aload_n 0, (0, 0, 0), 0)) (by decide +kernel)) g0m hm_z
      replace hm_z := rn_getI (v := rg_v h428_z 164 21) (am_cur_of (i := (283, 3, .getfield 213, (12, 21, 1405), 0)) (by decide +kernel)) (by decide +kernel) rfl hm_z
      replace hm_z := rn_iastore (N := 6) (q := 4) (am_cur_of (i := (286, 1, .iastore, (0, 0, 0), 0)) (by decide +kernel)) (by decide +kernel) rfl hm_z
      obtain ⟨p438_z, hm_z⟩ := hm_z
      replace hm_z := rn_aload_n (am_cur_of (i := (287, 1, .aload_n 0, (0, 0, 0), 0)) (by decide +kernel)) g0m hm_z
      replace hm_z := rn_callV (M' := am_m170) (o := 164) (ar := []) (rest := []) (L := lv_args 0 [.ref 164]) (am_cur_of (i := (288, 3, .invokevirtual 271, (170, 1711, 3), 0)) (by decide +kernel)) rfl rfl rfl rfl hm_z
      obtain ⟨r439_z, h440_z, q441_z, hm_z⟩ := hm_z
      have g0q : am_get (lv_args 0 [.ref 164]) 0 = some (.ref 164) := rfl
      replace q441_z := rn_aload_n (am_cur_of (i := (0, 1, .aload_n 0, (0, 0, 0), 0)) (by decide +kernel)) g0q q441_z
      replace q441_z := rn_iconst (w := 0) (am_cur_of (i := (1, 1, .iconst 0, (0, 0, 0), 0)) (by decide +kernel)) (by decide) q441_z
      replace q441_z := rn_put (am_cur_of (i := (2, 3, .putfield 280, (12, 41, 1425), 0)) (by decide +kernel)) (by decide +kernel) q441_z
      replace q441_z := rn_aload_n (am_cur_of (i := (5, 1, .aload_n 0, (0, 0, 0), 0)) (by decide +kernel)) g0q q441_z
      replace q441_z := rn_iconst (w := 0) (am_cur_of (i := (6, 1, .iconst 0, (0, 0, 0), 0)) (by decide +kernel)) (by decide) q441_z
      replace q441_z := rn_put (am_cur_of (i := (7, 3, .putfield 277, (12, 42, 1426), 0)) (by decide +kernel)) (by decide +kernel) q441_z
      replace q441_z := rn_aload_n (am_cur_of (i := (10, 1, .aload_n 0, (0, 0, 0), 0)) (by decide +kernel)) g0q q441_z
      replace q441_z := rn_iconst (w := 0) (am_cur_of (i := (11, 1, .iconst 0, (0, 0, 0), 0)) (by decide +kernel)) (by decide) q441_z
      replace q441_z := rn_put (am_cur_of (i := (12, 3, .putfield 295, (12, 43, 1427), 0)) (by decide +kernel)) (by decide +kernel) q441_z
      replace q441_z := rn_aload_n (am_cur_of (i := (15, 1, .aload_n 0, (0, 0, 0), 0)) (by decide +kernel)) g0q q441_z
      replace q441_z := rn_iconst (w := 1) (am_cur_of (i := (16, 1, .iconst 1, (0, 0, 0), 0)) (by decide +kernel)) (by decide) q441_z
      replace q441_z := rn_put (am_cur_of (i := (17, 3, .putfield 315, (12, 45, 1429), 0)) (by decide +kernel)) (by decide +kernel) q441_z
      replace q441_z := rn_aload_n (am_cur_of (i := (20, 1, .aload_n 0, (0, 0, 0), 0)) (by decide +kernel)) g0q q441_z
      replace q441_z := rn_iconst (w := 1) (am_cur_of (i := (21, 1, .iconst 1, (0, 0, 0), 0)) (by decide +kernel)) (by decide) q441_z
      replace q441_z := rn_put (am_cur_of (i := (22, 3, .putfield 302, (12, 46, 1430), 0)) (by decide +kernel)) (by decide +kernel) q441_z
      have FC : ab_Fr (ry_MC2.drop 1) h421_z (am_up (am_up (am_up h421_z 14 ((1 : Int32).toNatClampNeg) (.int (rg_v h421_z 11 1))) 44 13 (.int 0)) 44 14 (.int 0)) := ab_Fr_up rfl (ab_Fr_up rfl (ab_Fr_up rfl ab_Fr_refl))
      have FM : ab_Fr ry_MT h428_z (am_up (am_up (am_up (am_up (am_up (am_up h428_z 179 4 (.int (rg_v h428_z 164 21))) 164 41 (.int 0)) 164 42 (.int 0)) 164 43 (.int 0)) 164 45 (.int 1)) 164 46 (.int 1)) := ab_Fr_up rfl (ab_Fr_up rfl (ab_Fr_up rfl (ab_Fr_up rfl (ab_Fr_up rfl (ab_Fr_up rfl ab_Fr_refl)))))
      have FM' : ab_Fr ry_MM h428_z (am_up (am_up (am_up (am_up (am_up (am_up h428_z 179 4 (.int (rg_v h428_z 164 21))) 164 41 (.int 0)) 164 42 (.int 0)) 164 43 (.int 0)) 164 45 (.int 1)) 164 46 (.int 1)) := ab_Fr_sub (by decide) FM
      have R4 := ry_rq2 R3 FC FM'
      have A4 := ry_p2 A3 (ab_Fr_sub (by decide) FC) FM' A3.2.2.2.2.2.1.1 A3.2.2.2.2.2.1.2.1 A3.2.2.2.2.2.1.2.2
      have B4 := ry_t2 B3 FC FM
      have kk : 0 ≤ (rg_v (am_up (am_up (am_up h421_z 14 ((1 : Int32).toNatClampNeg) (.int (rg_v h421_z 11 1))) 44 13 (.int 0)) 44 14 (.int 0)) 11 0).toInt := A4.2.2.2.2.2.1.2.1
      have Z4 : rs 2 (am_up (am_up (am_up h421_z 14 ((1 : Int32).toNatClampNeg) (.int (rg_v h421_z 11 1))) 44 13 (.int 0)) 44 14 (.int 0)) (am_up (am_up (am_up (am_up (am_up (am_up h428_z 179 4 (.int (rg_v h428_z 164 21))) 164 41 (.int 0)) 164 42 (.int 0)) 164 43 (.int 0)) 164 45 (.int 1)) 164 46 (.int 1)) := ⟨0, 0, rfl, rfl, by decide, rfl, rfl, by decide, by decide, (by rw [show (0 : Int32).toInt = 0 by decide]; show (0 : Int) ≤ (rg_v (am_up (am_up (am_up h421_z 14 ((1 : Int32).toNatClampNeg) (.int (rg_v h421_z 11 1))) 44 13 (.int 0)) 44 14 (.int 0)) 11 0).toInt + 0; omega), fun i hi_z => absurd hi_z (by rw [show (0 : Int32).toInt = 0 by decide]; omega), (by rw [show (0 : Int32).toNatClampNeg = 0 by decide, show (0 : Int32).toInt = 0 by decide]; rfl)⟩
      have R4p := R4.2.2.2.2.2.2.1
      have R4x := R4.2.2.2.2.2.2.2.1
      have Q := lw_loop2 (lw := 1) (x0_z := p3_z) _ 0 0 x3_z p3_z _ _ _ _ _ (by decide) (by rw [show (0 : Int32).toInt = 0 by decide]; exact R4p) (Int.le_refl _) R4 A4 B4 Z4 (Or.inl ⟨rfl, rfl, rfl⟩) g0_z g1_z g2_z g3_z g0q hc_z q441_z
      rcases Q with ⟨rfl, x5_z, p5_z, R5, le5_z, A5, B5⟩ | ⟨rfl, p5_z, wv, v0_z, f1_z, f2_z, f3_z, f4_z⟩ | ⟨rfl, p5_z, u1_z, u2_z, u3_z, u4_z, u5_z⟩
      · replace hm_z : rn _ _ _ _ [.int 1] _ _ _ := hm_z
        replace hm_z := rn_istore_n (am_cur_of (i := (291, 1, .istore_n 1, (0, 0, 0), 0)) (by decide +kernel)) hm_z
        obtain ⟨_, s442_z, s443_z, g1m, hm_z⟩ := hm_z
        replace g0m := s442_z 0 _ (by decide) rfl g0m
        replace g2m := s442_z 2 _ (by decide) rfl g2m
        clear s442_z s443_z
        replace hm_z := rn_aload_n (am_cur_of (i := (292, 1, .aload_n 0, (0, 0, 0), 0)) (by decide +kernel)) g0m hm_z
        replace hm_z := rn_getR (x := 180) (am_cur_of (i := (293, 3, .getfield 60, (12, 35, 1419), 0)) (by decide +kernel)) (by decide +kernel) hm_z
        replace hm_z := rn_iload_n (am_cur_of (i := (296, 1, .iload_n 2, (0, 0, 0), 0)) (by decide +kernel)) g2m hm_z
        replace hm_z := rn_aload_n (am_cur_of (i := (297, 1, .aload_n 0, (0, 0, 0), 0)) (by decide +kernel)) g0m hm_z
        replace hm_z := rn_getI (v := rg_v h440_z 164 21) (am_cur_of (i := (298, 3, .getfield 213, (12, 21, 1405), 0)) (by decide +kernel)) (by decide +kernel) rfl hm_z
        replace hm_z := rn_iastore (N := 6) (q := 4) (am_cur_of (i := (301, 1, .iastore, (0, 0, 0), 0)) (by decide +kernel)) (by decide +kernel) rfl hm_z
        obtain ⟨p444_z, hm_z⟩ := hm_z
        have EM : ab_Fr ry_MT h440_z (am_up h440_z 180 4 (.int (rg_v h440_z 164 21))) := ab_Fr_up rfl ab_Fr_refl
        exact Or.inl ⟨x5_z, p5_z, _, _, _, ry_rq2 R5 ab_Fr_refl (ab_Fr_sub (by decide) EM), by omega, ry_p2 A5 ab_Fr_refl (ab_Fr_sub (by decide) EM) A5.2.2.2.2.2.1.1 A5.2.2.2.2.2.1.2.1 A5.2.2.2.2.2.1.2.2, ry_t2 B5 ab_Fr_refl EM, g0m, g1m, hm_z⟩
      · replace hm_z : rn _ _ _ _ [.int 0] _ _ _ := hm_z
        replace hm_z := rn_istore_n (am_cur_of (i := (291, 1, .istore_n 1, (0, 0, 0), 0)) (by decide +kernel)) hm_z
        obtain ⟨_, s445_z, s446_z, g1m, hm_z⟩ := hm_z
        replace g0m := s445_z 0 _ (by decide) rfl g0m
        replace g2m := s445_z 2 _ (by decide) rfl g2m
        clear s445_z s446_z
        replace hm_z := rn_aload_n (am_cur_of (i := (292, 1, .aload_n 0, (0, 0, 0), 0)) (by decide +kernel)) g0m hm_z
        replace hm_z := rn_getR (x := 180) (am_cur_of (i := (293, 3, .getfield 60, (12, 35, 1419), 0)) (by decide +kernel)) (by decide +kernel) hm_z
        replace hm_z := rn_iload_n (am_cur_of (i := (296, 1, .iload_n 2, (0, 0, 0), 0)) (by decide +kernel)) g2m hm_z
        replace hm_z := rn_aload_n (am_cur_of (i := (297, 1, .aload_n 0, (0, 0, 0), 0)) (by decide +kernel)) g0m hm_z
        replace hm_z := rn_getI (v := rg_v h440_z 164 21) (am_cur_of (i := (298, 3, .getfield 213, (12, 21, 1405), 0)) (by decide +kernel)) (by decide +kernel) rfl hm_z
        replace hm_z := rn_iastore (N := 6) (q := 4) (am_cur_of (i := (301, 1, .iastore, (0, 0, 0), 0)) (by decide +kernel)) (by decide +kernel) rfl hm_z
        obtain ⟨p447_z, hm_z⟩ := hm_z
        replace hm_z := rn_iload_n (am_cur_of (i := (302, 1, .iload_n 1, (0, 0, 0), 0)) (by decide +kernel)) g1m hm_z
        replace hm_z := rn_ifF (am_cur_of (i := (303, 3, .ifCond .ne 5, (143, 0, 0), 0)) (by decide +kernel)) (by decide) hm_z
        replace hm_z := rn_iconst (w := 0) (am_cur_of (i := (306, 1, .iconst 0, (0, 0, 0), 0)) (by decide +kernel)) (by decide) hm_z
        replace hm_z := rn_iret (am_cur_of (i := (307, 1, .ireturn, (0, 0, 0), 0)) (by decide +kernel)) hm_z
        obtain ⟨e448_z, e449_z⟩ := hm_z
        subst e448_z e449_z
        exact Or.inr (Or.inl ⟨rfl, p5_z, wv, v0_z, f1_z, f2_z, f3_z, f4_z⟩)
      · replace hm_z : rn _ _ _ _ [.int 0] _ _ _ := hm_z
        replace hm_z := rn_istore_n (am_cur_of (i := (291, 1, .istore_n 1, (0, 0, 0), 0)) (by decide +kernel)) hm_z
        obtain ⟨_, s450_z, s451_z, g1m, hm_z⟩ := hm_z
        replace g0m := s450_z 0 _ (by decide) rfl g0m
        replace g2m := s450_z 2 _ (by decide) rfl g2m
        clear s450_z s451_z
        replace hm_z := rn_aload_n (am_cur_of (i := (292, 1, .aload_n 0, (0, 0, 0), 0)) (by decide +kernel)) g0m hm_z
        replace hm_z := rn_getR (x := 180) (am_cur_of (i := (293, 3, .getfield 60, (12, 35, 1419), 0)) (by decide +kernel)) (by decide +kernel) hm_z
        replace hm_z := rn_iload_n (am_cur_of (i := (296, 1, .iload_n 2, (0, 0, 0), 0)) (by decide +kernel)) g2m hm_z
        replace hm_z := rn_aload_n (am_cur_of (i := (297, 1, .aload_n 0, (0, 0, 0), 0)) (by decide +kernel)) g0m hm_z
        replace hm_z := rn_getI (v := rg_v h440_z 164 21) (am_cur_of (i := (298, 3, .getfield 213, (12, 21, 1405), 0)) (by decide +kernel)) (by decide +kernel) rfl hm_z
        replace hm_z := rn_iastore (N := 6) (q := 4) (am_cur_of (i := (301, 1, .iastore, (0, 0, 0), 0)) (by decide +kernel)) (by decide +kernel) rfl hm_z
        obtain ⟨p452_z, hm_z⟩ := hm_z
        replace hm_z := rn_iload_n (am_cur_of (i := (302, 1, .iload_n 1, (0, 0, 0), 0)) (by decide +kernel)) g1m hm_z
        replace hm_z := rn_ifF (am_cur_of (i := (303, 3, .ifCond .ne 5, (143, 0, 0), 0)) (by decide +kernel)) (by decide) hm_z
        replace hm_z := rn_iconst (w := 0) (am_cur_of (i := (306, 1, .iconst 0, (0, 0, 0), 0)) (by decide +kernel)) (by decide) hm_z
        replace hm_z := rn_iret (am_cur_of (i := (307, 1, .ireturn, (0, 0, 0), 0)) (by decide +kernel)) hm_z
        obtain ⟨e453_z, e454_z⟩ := hm_z
        subst e453_z e454_z
        exact Or.inr (Or.inr ⟨rfl, p5_z, u1_z, u2_z, u3_z, u4_z, u5_z⟩)
    · replace b419_z : ¬ (((rp_tb b0_z b1_z b2_z b3_z b4_z b5_z b6_z) >>> (10 &&& 31)) &&& 1) = (0 : Int32) ∧ ¬ (((rp_tb b0_z b1_z b2_z b3_z b4_z b5_z b6_z) >>> (10 &&& 31)) &&& 1).toInt = (0 : Int32).toInt := b419_z
      exact absurd (e1_z.trans (by decide)) b419_z.1
theorem pl_law11_2 {T : Nat → Int32} {S x p : Int32} {n n' : Nat} {h h' g g' : am_H} {r r' : Option Value} {ls ls2_z : am_L} (R : rq T S x p 2 h g) (A : rp 2 h g) (B : rp_t h g) (ka : rg_v h 44 10 = 2) (kb : rg_v h 44 11 = 11) (kc : rg_v g 164 8 = 1) (kd : rg_v g 164 9 = 11) (g0_z : am_get ls 0 = some (.ref 44)) (g0m : am_get ls2_z 0 = some (.ref 164)) (hc_z : rn n am_m42 2 ls [] h r h') (hm_z : rn n' am_m157 85 ls2_z [] g r' g') : pm_Q T S x 2 h' g' r' := by
  have z0_z : (0 : Int32).toInt = 0 := by decide
  have R5 := R.2.2.2.2.1
  have R6 := R.2.2.2.2.2.1
  obtain ⟨b0_z, b1_z, b2_z, b3_z, b4_z, b5_z, b6_z, t, o0_z, o1_z, o2_z, o3_z, o4_z, o5_z, o6_z⟩ := id B
  obtain ⟨e1_z, -⟩ := rp_tb6 b0_z b1_z b2_z b3_z b4_z b5_z b6_z
  have e2_z := rp_tc6 b0_z b1_z b2_z b3_z b4_z b5_z b6_z
  rcases Bool.eq_false_or_eq_true b6_z with hb_z | hb_z
  · replace e1_z := e1_z.trans (show rp_bi b6_z = rp_bi true from by rw [hb_z])
    replace hc_z := rn_aload_n (am_cur_of (i := (4, 1, .aload_n 0, (0, 0, 0), 0)) (by decide +kernel)) g0_z hc_z
    replace hc_z := rn_getI (v := 11) (am_cur_of (i := (5, 3, .getfield 91, (4, 11, 420), 0)) (by decide +kernel)) (by decide +kernel) kb hc_z
    replace hc_z := rn_bipush (w := 9) (am_cur_of (i := (8, 2, .bipush 9, (0, 0, 0), 0)) (by decide +kernel)) (by decide) hc_z
    replace hc_z := rn_isub (w := 2) (am_cur_of (i := (10, 1, .isub, (0, 0, 0), 0)) (by decide +kernel)) (by decide) hc_z
    replace hc_z := rn_istore_n (am_cur_of (i := (11, 1, .istore_n 1, (0, 0, 0), 0)) (by decide +kernel)) hc_z
    obtain ⟨_, s455_z, s456_z, g1_z, hc_z⟩ := hc_z
    replace g0_z := s455_z 0 _ (by decide) rfl g0_z
    clear s455_z s456_z
    replace hc_z := rn_aload_n (am_cur_of (i := (12, 1, .aload_n 0, (0, 0, 0), 0)) (by decide +kernel)) g0_z hc_z
    replace hc_z := rn_getI (v := 2) (am_cur_of (i := (13, 3, .getfield 60, (4, 10, 419), 0)) (by decide +kernel)) (by decide +kernel) ka hc_z
    replace hc_z := rn_iconst (w := 2) (am_cur_of (i := (16, 1, .iconst 2, (0, 0, 0), 0)) (by decide +kernel)) (by decide) hc_z
    replace hc_z := rn_cmpF (am_cur_of (i := (17, 3, .if_icmp .ne 12, (16, 0, 0), 0)) (by decide +kernel)) (by decide) hc_z
    replace hc_z := rn_iload_n (am_cur_of (i := (20, 1, .iload_n 1, (0, 0, 0), 0)) (by decide +kernel)) g1_z hc_z
    replace hc_z := rn_ifF (am_cur_of (i := (21, 3, .ifCond .lt 8, (16, 0, 0), 0)) (by decide +kernel)) (by decide) hc_z
    replace hc_z := rn_iload_n (am_cur_of (i := (24, 1, .iload_n 1, (0, 0, 0), 0)) (by decide +kernel)) g1_z hc_z
    replace hc_z := rn_iconst (w := 2) (am_cur_of (i := (25, 1, .iconst 2, (0, 0, 0), 0)) (by decide +kernel)) (by decide) hc_z
    replace hc_z := rn_cmpT (am_cur_of (i := (26, 3, .if_icmp .le 9, (20, 0, 0), 0)) (by decide +kernel)) (by decide) hc_z
    replace hc_z := rn_aload_n (am_cur_of (i := (35, 1, .aload_n 0, (0, 0, 0), 0)) (by decide +kernel)) g0_z hc_z
    replace hc_z := rn_getI (v := rp_tb b0_z b1_z b2_z b3_z b4_z b5_z b6_z) (am_cur_of (i := (36, 3, .getfield 45, (4, 7, 416), 0)) (by decide +kernel)) (by decide +kernel) t hc_z
    replace hc_z := rn_aload_n (am_cur_of (i := (39, 1, .aload_n 0, (0, 0, 0), 0)) (by decide +kernel)) g0_z hc_z
    replace hc_z := rn_getI (v := 11) (am_cur_of (i := (40, 3, .getfield 91, (4, 11, 420), 0)) (by decide +kernel)) (by decide +kernel) kb hc_z
    replace hc_z := rn_ishr (w := (rp_tb b0_z b1_z b2_z b3_z b4_z b5_z b6_z) >>> (11 &&& 31)) (am_cur_of (i := (43, 1, .ishr, (0, 0, 0), 0)) (by decide +kernel)) rfl hc_z
    replace hc_z := rn_iconst (w := 1) (am_cur_of (i := (44, 1, .iconst 1, (0, 0, 0), 0)) (by decide +kernel)) (by decide) hc_z
    replace hc_z := rn_iand (w := ((rp_tb b0_z b1_z b2_z b3_z b4_z b5_z b6_z) >>> (11 &&& 31)) &&& 1) (am_cur_of (i := (45, 1, .iand, (0, 0, 0), 0)) (by decide +kernel)) rfl hc_z
    replace hc_z := rn_if (am_cur_of (i := (46, 3, .ifCond .eq 9, (32, 0, 0), 0)) (by decide +kernel)) hc_z
    rcases hc_z with ⟨b457_z, hc_z⟩ | ⟨b457_z, hc_z⟩
    · replace b457_z : (((rp_tb b0_z b1_z b2_z b3_z b4_z b5_z b6_z) >>> (11 &&& 31)) &&& 1) = (0 : Int32) ∧ (((rp_tb b0_z b1_z b2_z b3_z b4_z b5_z b6_z) >>> (11 &&& 31)) &&& 1).toInt = (0 : Int32).toInt := b457_z
      exact absurd (e1_z.symm.trans b457_z.1) (by decide)
    · replace b457_z : ¬ (((rp_tb b0_z b1_z b2_z b3_z b4_z b5_z b6_z) >>> (11 &&& 31)) &&& 1) = (0 : Int32) ∧ ¬ (((rp_tb b0_z b1_z b2_z b3_z b4_z b5_z b6_z) >>> (11 &&& 31)) &&& 1).toInt = (0 : Int32).toInt := b457_z
      replace hc_z := rn_aload_n (am_cur_of (i := (49, 1, .aload_n 0, (0, 0, 0), 0)) (by decide +kernel)) g0_z hc_z
      replace hc_z := rn_iconst (w := 3) (am_cur_of (i := (50, 1, .iconst 3, (0, 0, 0), 0)) (by decide +kernel)) (by decide) hc_z
      replace hc_z := rn_callV (M' := am_m29) (o := 44) (ar := [.int 3]) (rest := []) (L := lv_args 0 [.ref 44, .int 3]) (am_cur_of (i := (51, 3, .invokevirtual 108, (29, 769, 3), 0)) (by decide +kernel)) rfl rfl rfl rfl hc_z
      obtain ⟨r458_z, h459_z, q460_z, hc_z⟩ := hc_z
      obtain ⟨rfl, yq460_z⟩ := rp_fail R.2.2.2.1 q460_z
      subst yq460_z
      replace hc_z : rn _ _ _ _ [] _ _ _ := hc_z
      have K := rs_stick (w := 3) (a := 42) (by decide) (by decide) rfl (by decide) rfl rfl hc_z
      replace hm_z := rn_aload_n (am_cur_of (i := (209, 1, .aload_n 0, (0, 0, 0), 0)) (by decide +kernel)) g0m hm_z
      replace hm_z := rn_getI (v := 1) (am_cur_of (i := (210, 3, .getfield 157, (12, 8, 1392), 0)) (by decide +kernel)) (by decide +kernel) kc hm_z
      replace hm_z := rn_iconst (w := 1) (am_cur_of (i := (213, 1, .iconst 1, (0, 0, 0), 0)) (by decide +kernel)) (by decide) hm_z
      replace hm_z := rn_cmpF (am_cur_of (i := (214, 3, .if_icmp .ne 21, (97, 0, 0), 0)) (by decide +kernel)) (by decide) hm_z
      replace hm_z := rn_aload_n (am_cur_of (i := (217, 1, .aload_n 0, (0, 0, 0), 0)) (by decide +kernel)) g0m hm_z
      replace hm_z := rn_getI (v := 11) (am_cur_of (i := (218, 3, .getfield 168, (12, 9, 1393), 0)) (by decide +kernel)) (by decide +kernel) kd hm_z
      replace hm_z := rn_bipush (w := 9) (am_cur_of (i := (221, 2, .bipush 9, (0, 0, 0), 0)) (by decide +kernel)) (by decide) hm_z
      replace hm_z := rn_cmpF (am_cur_of (i := (223, 3, .if_icmp .lt 12, (97, 0, 0), 0)) (by decide +kernel)) (by decide) hm_z
      replace hm_z := rn_aload_n (am_cur_of (i := (226, 1, .aload_n 0, (0, 0, 0), 0)) (by decide +kernel)) g0m hm_z
      replace hm_z := rn_getI (v := 11) (am_cur_of (i := (227, 3, .getfield 168, (12, 9, 1393), 0)) (by decide +kernel)) (by decide +kernel) kd hm_z
      replace hm_z := rn_bipush (w := 11) (am_cur_of (i := (230, 2, .bipush 11, (0, 0, 0), 0)) (by decide +kernel)) (by decide) hm_z
      replace hm_z := rn_cmpT (am_cur_of (i := (232, 3, .if_icmp .le 9, (101, 0, 0), 0)) (by decide +kernel)) (by decide) hm_z
      replace hm_z := rn_iconst (w := 3) (am_cur_of (i := (241, 1, .iconst 3, (0, 0, 0), 0)) (by decide +kernel)) (by decide) hm_z
      replace hm_z := rn_aload_n (am_cur_of (i := (242, 1, .aload_n 0, (0, 0, 0), 0)) (by decide +kernel)) g0m hm_z
      replace hm_z := rn_getI (v := 11) (am_cur_of (i := (243, 3, .getfield 168, (12, 9, 1393), 0)) (by decide +kernel)) (by decide +kernel) kd hm_z
      replace hm_z := rn_iadd (w := 14) (am_cur_of (i := (246, 1, .iadd, (0, 0, 0), 0)) (by decide +kernel)) (by decide) hm_z
      replace hm_z := rn_bipush (w := 9) (am_cur_of (i := (247, 2, .bipush 9, (0, 0, 0), 0)) (by decide +kernel)) (by decide) hm_z
      replace hm_z := rn_isub (w := 5) (am_cur_of (i := (249, 1, .isub, (0, 0, 0), 0)) (by decide +kernel)) (by decide) hm_z
      replace hm_z := rn_istore_n (am_cur_of (i := (250, 1, .istore_n 2, (0, 0, 0), 0)) (by decide +kernel)) hm_z
      obtain ⟨_, s461_z, s462_z, g2m, hm_z⟩ := hm_z
      replace g0m := s461_z 0 _ (by decide) rfl g0m
      clear s461_z s462_z
      replace hm_z := rn_aload_n (am_cur_of (i := (251, 1, .aload_n 0, (0, 0, 0), 0)) (by decide +kernel)) g0m hm_z
      replace hm_z := rn_getR (x := 178) (am_cur_of (i := (252, 3, .getfield 54, (12, 33, 1417), 0)) (by decide +kernel)) (by decide +kernel) hm_z
      replace hm_z := rn_iload_n (am_cur_of (i := (255, 1, .iload_n 2, (0, 0, 0), 0)) (by decide +kernel)) g2m hm_z
      replace hm_z := rn_baload (N := 6) (q := 5) (v := 1) (am_cur_of (i := (256, 1, .baload, (0, 0, 0), 0)) (by decide +kernel)) (by decide +kernel) rfl (o6_z.trans (show rp_bi b6_z = 1 from by rw [hb_z]; decide)) hm_z
      obtain ⟨p463_z, hm_z⟩ := hm_z
      replace hm_z := rn_ifF (am_cur_of (i := (257, 3, .ifCond .eq 9, (117, 0, 0), 0)) (by decide +kernel)) (by decide) hm_z
      replace hm_z := rn_aload_n (am_cur_of (i := (260, 1, .aload_n 0, (0, 0, 0), 0)) (by decide +kernel)) g0m hm_z
      replace hm_z := rn_iconst (w := 3) (am_cur_of (i := (261, 1, .iconst 3, (0, 0, 0), 0)) (by decide +kernel)) (by decide) hm_z
      replace hm_z := rn_callV (M' := am_m158) (o := 164) (ar := [.int 3]) (rest := []) (L := lv_args 0 [.ref 164, .int 3]) (am_cur_of (i := (262, 3, .invokevirtual 181, (158, 1665, 3), 0)) (by decide +kernel)) rfl rfl rfl rfl hm_z
      obtain ⟨r464_z, h465_z, q466_z, hm_z⟩ := hm_z
      obtain ⟨rfl, yq466_z⟩ := rp_wrong q466_z
      subst yq466_z
      replace hm_z : rn _ _ _ _ [.int 0] _ _ _ := hm_z
      replace hm_z := rn_iret (am_cur_of (i := (265, 1, .ireturn, (0, 0, 0), 0)) (by decide +kernel)) hm_z
      obtain ⟨e467_z, e468_z⟩ := hm_z
      subst e467_z e468_z
      exact Or.inr (Or.inl ⟨rfl, _, 3, by decide, K.1, K.2.trans R5, rfl, R6⟩)
  · replace e1_z := e1_z.trans (show rp_bi b6_z = rp_bi false from by rw [hb_z])
    replace hc_z := rn_aload_n (am_cur_of (i := (4, 1, .aload_n 0, (0, 0, 0), 0)) (by decide +kernel)) g0_z hc_z
    replace hc_z := rn_getI (v := 11) (am_cur_of (i := (5, 3, .getfield 91, (4, 11, 420), 0)) (by decide +kernel)) (by decide +kernel) kb hc_z
    replace hc_z := rn_bipush (w := 9) (am_cur_of (i := (8, 2, .bipush 9, (0, 0, 0), 0)) (by decide +kernel)) (by decide) hc_z
    replace hc_z := rn_isub (w := 2) (am_cur_of (i := (10, 1, .isub, (0, 0, 0), 0)) (by decide +kernel)) (by decide) hc_z
    replace hc_z := rn_istore_n (am_cur_of (i := (11, 1, .istore_n 1, (0, 0, 0), 0)) (by decide +kernel)) hc_z
    obtain ⟨_, s469_z, s470_z, g1_z, hc_z⟩ := hc_z
    replace g0_z := s469_z 0 _ (by decide) rfl g0_z
    clear s469_z s470_z
    replace hc_z := rn_aload_n (am_cur_of (i := (12, 1, .aload_n 0, (0, 0, 0), 0)) (by decide +kernel)) g0_z hc_z
    replace hc_z := rn_getI (v := 2) (am_cur_of (i := (13, 3, .getfield 60, (4, 10, 419), 0)) (by decide +kernel)) (by decide +kernel) ka hc_z
    replace hc_z := rn_iconst (w := 2) (am_cur_of (i := (16, 1, .iconst 2, (0, 0, 0), 0)) (by decide +kernel)) (by decide) hc_z
    replace hc_z := rn_cmpF (am_cur_of (i := (17, 3, .if_icmp .ne 12, (16, 0, 0), 0)) (by decide +kernel)) (by decide) hc_z
    replace hc_z := rn_iload_n (am_cur_of (i := (20, 1, .iload_n 1, (0, 0, 0), 0)) (by decide +kernel)) g1_z hc_z
    replace hc_z := rn_ifF (am_cur_of (i := (21, 3, .ifCond .lt 8, (16, 0, 0), 0)) (by decide +kernel)) (by decide) hc_z
    replace hc_z := rn_iload_n (am_cur_of (i := (24, 1, .iload_n 1, (0, 0, 0), 0)) (by decide +kernel)) g1_z hc_z
    replace hc_z := rn_iconst (w := 2) (am_cur_of (i := (25, 1, .iconst 2, (0, 0, 0), 0)) (by decide +kernel)) (by decide) hc_z
    replace hc_z := rn_cmpT (am_cur_of (i := (26, 3, .if_icmp .le 9, (20, 0, 0), 0)) (by decide +kernel)) (by decide) hc_z
    replace hc_z := rn_aload_n (am_cur_of (i := (35, 1, .aload_n 0, (0, 0, 0), 0)) (by decide +kernel)) g0_z hc_z
    replace hc_z := rn_getI (v := rp_tb b0_z b1_z b2_z b3_z b4_z b5_z b6_z) (am_cur_of (i := (36, 3, .getfield 45, (4, 7, 416), 0)) (by decide +kernel)) (by decide +kernel) t hc_z
    replace hc_z := rn_aload_n (am_cur_of (i := (39, 1, .aload_n 0, (0, 0, 0), 0)) (by decide +kernel)) g0_z hc_z
    replace hc_z := rn_getI (v := 11) (am_cur_of (i := (40, 3, .getfield 91, (4, 11, 420), 0)) (by decide +kernel)) (by decide +kernel) kb hc_z
    replace hc_z := rn_ishr (w := (rp_tb b0_z b1_z b2_z b3_z b4_z b5_z b6_z) >>> (11 &&& 31)) (am_cur_of (i := (43, 1, .ishr, (0, 0, 0), 0)) (by decide +kernel)) rfl hc_z
    replace hc_z := rn_iconst (w := 1) (am_cur_of (i := (44, 1, .iconst 1, (0, 0, 0), 0)) (by decide +kernel)) (by decide) hc_z
    replace hc_z := rn_iand (w := ((rp_tb b0_z b1_z b2_z b3_z b4_z b5_z b6_z) >>> (11 &&& 31)) &&& 1) (am_cur_of (i := (45, 1, .iand, (0, 0, 0), 0)) (by decide +kernel)) rfl hc_z
    replace hc_z := rn_if (am_cur_of (i := (46, 3, .ifCond .eq 9, (32, 0, 0), 0)) (by decide +kernel)) hc_z
    rcases hc_z with ⟨b471_z, hc_z⟩ | ⟨b471_z, hc_z⟩
    · replace b471_z : (((rp_tb b0_z b1_z b2_z b3_z b4_z b5_z b6_z) >>> (11 &&& 31)) &&& 1) = (0 : Int32) ∧ (((rp_tb b0_z b1_z b2_z b3_z b4_z b5_z b6_z) >>> (11 &&& 31)) &&& 1).toInt = (0 : Int32).toInt := b471_z
      replace hc_z := rn_aload_n (am_cur_of (i := (55, 1, .aload_n 0, (0, 0, 0), 0)) (by decide +kernel)) g0_z hc_z
      replace hc_z := rn_dup (am_cur_of (i := (56, 1, .dup, (0, 0, 0), 0)) (by decide +kernel)) hc_z
      replace hc_z := rn_getI (v := rp_tb b0_z b1_z b2_z b3_z b4_z b5_z b6_z) (am_cur_of (i := (57, 3, .getfield 45, (4, 7, 416), 0)) (by decide +kernel)) (by decide +kernel) t hc_z
      replace hc_z := rn_iconst (w := 1) (am_cur_of (i := (60, 1, .iconst 1, (0, 0, 0), 0)) (by decide +kernel)) (by decide) hc_z
      replace hc_z := rn_aload_n (am_cur_of (i := (61, 1, .aload_n 0, (0, 0, 0), 0)) (by decide +kernel)) g0_z hc_z
      replace hc_z := rn_getI (v := 11) (am_cur_of (i := (62, 3, .getfield 91, (4, 11, 420), 0)) (by decide +kernel)) (by decide +kernel) kb hc_z
      replace hc_z := rn_ishl (w := 2048) (am_cur_of (i := (65, 1, .ishl, (0, 0, 0), 0)) (by decide +kernel)) (by decide) hc_z
      replace hc_z := rn_ior (w := (rp_tb b0_z b1_z b2_z b3_z b4_z b5_z b6_z) ||| 2048) (am_cur_of (i := (66, 1, .ior, (0, 0, 0), 0)) (by decide +kernel)) rfl hc_z
      replace hc_z := rn_put (am_cur_of (i := (67, 3, .putfield 45, (4, 7, 416), 0)) (by decide +kernel)) (by decide +kernel) hc_z
      replace hc_z := rn_aload_n (am_cur_of (i := (70, 1, .aload_n 0, (0, 0, 0), 0)) (by decide +kernel)) g0_z hc_z
      replace hc_z := rn_callV (M' := am_m19) (o := 44) (ar := []) (rest := []) (L := lv_args 0 [.ref 44]) (am_cur_of (i := (71, 3, .invokevirtual 57, (19, 727, 3), 0)) (by decide +kernel)) rfl rfl rfl rfl hc_z
      obtain ⟨r472_z, h473_z, q474_z, hc_z⟩ := hc_z
      have vo := rn_void rfl q474_z
      subst vo
      replace hm_z := rn_aload_n (am_cur_of (i := (209, 1, .aload_n 0, (0, 0, 0), 0)) (by decide +kernel)) g0m hm_z
      replace hm_z := rn_getI (v := 1) (am_cur_of (i := (210, 3, .getfield 157, (12, 8, 1392), 0)) (by decide +kernel)) (by decide +kernel) kc hm_z
      replace hm_z := rn_iconst (w := 1) (am_cur_of (i := (213, 1, .iconst 1, (0, 0, 0), 0)) (by decide +kernel)) (by decide) hm_z
      replace hm_z := rn_cmpF (am_cur_of (i := (214, 3, .if_icmp .ne 21, (97, 0, 0), 0)) (by decide +kernel)) (by decide) hm_z
      replace hm_z := rn_aload_n (am_cur_of (i := (217, 1, .aload_n 0, (0, 0, 0), 0)) (by decide +kernel)) g0m hm_z
      replace hm_z := rn_getI (v := 11) (am_cur_of (i := (218, 3, .getfield 168, (12, 9, 1393), 0)) (by decide +kernel)) (by decide +kernel) kd hm_z
      replace hm_z := rn_bipush (w := 9) (am_cur_of (i := (221, 2, .bipush 9, (0, 0, 0), 0)) (by decide +kernel)) (by decide) hm_z
      replace hm_z := rn_cmpF (am_cur_of (i := (223, 3, .if_icmp .lt 12, (97, 0, 0), 0)) (by decide +kernel)) (by decide) hm_z
      replace hm_z := rn_aload_n (am_cur_of (i := (226, 1, .aload_n 0, (0, 0, 0), 0)) (by decide +kernel)) g0m hm_z
      replace hm_z := rn_getI (v := 11) (am_cur_of (i := (227, 3, .getfield 168, (12, 9, 1393), 0)) (by decide +kernel)) (by decide +kernel) kd hm_z
      replace hm_z := rn_bipush (w := 11) (am_cur_of (i := (230, 2, .bipush 11, (0, 0, 0), 0)) (by decide +kernel)) (by decide) hm_z
      replace hm_z := rn_cmpT (am_cur_of (i := (232, 3, .if_icmp .le 9, (101, 0, 0), 0)) (by decide +kernel)) (by decide) hm_z
      replace hm_z := rn_iconst (w := 3) (am_cur_of (i := (241, 1, .iconst 3, (0, 0, 0), 0)) (by decide +kernel)) (by decide) hm_z
      replace hm_z := rn_aload_n (am_cur_of (i := (242, 1, .aload_n 0, (0, 0, 0), 0)) (by decide +kernel)) g0m hm_z
      replace hm_z := rn_getI (v := 11) (am_cur_of (i := (243, 3, .getfield 168, (12, 9, 1393), 0)) (by decide +kernel)) (by decide +kernel) kd hm_z
      replace hm_z := rn_iadd (w := 14) (am_cur_of (i := (246, 1, .iadd, (0, 0, 0), 0)) (by decide +kernel)) (by decide) hm_z
      replace hm_z := rn_bipush (w := 9) (am_cur_of (i := (247, 2, .bipush 9, (0, 0, 0), 0)) (by decide +kernel)) (by decide) hm_z
      replace hm_z := rn_isub (w := 5) (am_cur_of (i := (249, 1, .isub, (0, 0, 0), 0)) (by decide +kernel)) (by decide) hm_z
      replace hm_z := rn_istore_n (am_cur_of (i := (250, 1, .istore_n 2, (0, 0, 0), 0)) (by decide +kernel)) hm_z
      obtain ⟨_, s475_z, s476_z, g2m, hm_z⟩ := hm_z
      replace g0m := s475_z 0 _ (by decide) rfl g0m
      clear s475_z s476_z
      replace hm_z := rn_aload_n (am_cur_of (i := (251, 1, .aload_n 0, (0, 0, 0), 0)) (by decide +kernel)) g0m hm_z
      replace hm_z := rn_getR (x := 178) (am_cur_of (i := (252, 3, .getfield 54, (12, 33, 1417), 0)) (by decide +kernel)) (by decide +kernel) hm_z
      replace hm_z := rn_iload_n (am_cur_of (i := (255, 1, .iload_n 2, (0, 0, 0), 0)) (by decide +kernel)) g2m hm_z
      replace hm_z := rn_baload (N := 6) (q := 5) (v := 0) (am_cur_of (i := (256, 1, .baload, (0, 0, 0), 0)) (by decide +kernel)) (by decide +kernel) rfl (o6_z.trans (show rp_bi b6_z = 0 from by rw [hb_z]; decide)) hm_z
      obtain ⟨p477_z, hm_z⟩ := hm_z
      replace hm_z := rn_ifT (am_cur_of (i := (257, 3, .ifCond .eq 9, (117, 0, 0), 0)) (by decide +kernel)) (by decide) hm_z
      replace hm_z := rn_aload_n (am_cur_of (i := (266, 1, .aload_n 0, (0, 0, 0), 0)) (by decide +kernel)) g0m hm_z
      replace hm_z := rn_getR (x := 178) (am_cur_of (i := (267, 3, .getfield 54, (12, 33, 1417), 0)) (by decide +kernel)) (by decide +kernel) hm_z
      replace hm_z := rn_iload_n (am_cur_of (i := (270, 1, .iload_n 2, (0, 0, 0), 0)) (by decide +kernel)) g2m hm_z
      replace hm_z := rn_iconst (w := 1) (am_cur_of (i := (271, 1, .iconst 1, (0, 0, 0), 0)) (by decide +kernel)) (by decide) hm_z
      replace hm_z := rn_bastore (N := 6) (q := 5) (am_cur_of (i := (272, 1, .bastore, (0, 0, 0), 0)) (by decide +kernel)) (by decide +kernel) rfl hm_z
      obtain ⟨p478_z, hm_z⟩ := hm_z
      replace hm_z := rn_aload_n (am_cur_of (i := (273, 1, .aload_n 0, (0, 0, 0), 0)) (by decide +kernel)) g0m hm_z
      replace hm_z := rn_callV (M' := am_m151) (o := 164) (ar := []) (rest := []) (L := lv_args 0 [.ref 164]) (am_cur_of (i := (274, 3, .invokevirtual 191, (151, 1636, 3), 0)) (by decide +kernel)) rfl rfl rfl rfl hm_z
      obtain ⟨r479_z, h480_z, q481_z, hm_z⟩ := hm_z
      have vo := rn_void rfl q481_z
      subst vo
      obtain ⟨-, -, x3_z, p3_z, R3, le3_z, t5_z, t6_z⟩ := pr_tok (rq0_lw (rq_0 R)) q474_z q481_z
      have A2 : rp 2 (am_up h 44 7 (.int ((rp_tb b0_z b1_z b2_z b3_z b4_z b5_z b6_z) ||| 2048))) (am_up g 178 5 (.int 1)) := ry_p2 A (ab_Fr_up rfl ab_Fr_refl) (ab_Fr_up rfl ab_Fr_refl) A.2.2.2.2.2.1.1 A.2.2.2.2.2.1.2.1 A.2.2.2.2.2.1.2.2
      have A3 := rp_x (by decide) A2 (rx_C_f t5_z) (rx_M_f t6_z)
      have B3 : rp_t h473_z h480_z := ⟨b0_z, b1_z, b2_z, b3_z, b4_z, b5_z, true, (rg_v_fr t5_z (by decide)).trans e2_z, (rg_v_fr t6_z (rg_v_in (by decide) _)).trans o0_z, (rg_v_fr t6_z (rg_v_in (by decide) _)).trans o1_z, (rg_v_fr t6_z (rg_v_in (by decide) _)).trans o2_z, (rg_v_fr t6_z (rg_v_in (by decide) _)).trans o3_z, (rg_v_fr t6_z (rg_v_in (by decide) _)).trans o4_z, (rg_v_fr t6_z (rg_v_in (by decide) _)).trans o5_z, (rg_v_fr t6_z (rg_v_in (by decide) _)).trans rfl⟩
      replace hm_z : rn _ _ _ _ [] _ _ _ := hm_z
      replace hc_z : rn _ _ _ _ [] _ _ _ := hc_z
      replace hc_z := rn_aload_n (am_cur_of (i := (74, 1, .aload_n 0, (0, 0, 0), 0)) (by decide +kernel)) g0_z hc_z
      replace hc_z := rn_getM (x := 2) (am_cur_of (i := (75, 3, .getfield 25, (4, 6, 415), 0)) (by decide +kernel)) R3.2.2.1 hc_z
      replace hc_z := rn_getR (x := 11) (am_cur_of (i := (78, 3, .getfield 242, (1, 19, 316), 0)) (by decide +kernel)) (by decide +kernel) hc_z
      replace hc_z := rn_iload_n (am_cur_of (i := (81, 1, .iload_n 1, (0, 0, 0), 0)) (by decide +kernel)) g1_z hc_z
      replace hc_z := rn_callV (M' := am_m43) (o := 11) (ar := [.int 2]) (rest := []) (L := lv_args 0 [.ref 11, .int 2]) (am_cur_of (i := (82, 3, .invokevirtual 246, (43, 826, 3), 0)) (by decide +kernel)) rfl rfl rfl rfl hc_z
      obtain ⟨r482_z, h483_z, q484_z, hc_z⟩ := hc_z
      rcases rs_beg2 q484_z with ⟨rfl, y485_z⟩
      replace y485_z := y485_z.symm
      subst y485_z
      replace hc_z : rn _ _ _ _ [] _ _ _ := hc_z
      replace hc_z := rn_aload_n (am_cur_of (i := (85, 1, .aload_n 0, (0, 0, 0), 0)) (by decide +kernel)) g0_z hc_z
      replace hc_z := rn_iconst (w := 0) (am_cur_of (i := (86, 1, .iconst 0, (0, 0, 0), 0)) (by decide +kernel)) (by decide) hc_z
      replace hc_z := rn_put (am_cur_of (i := (87, 3, .putfield 251, (4, 13, 422), 0)) (by decide +kernel)) (by decide +kernel) hc_z
      replace hc_z := rn_aload_n (am_cur_of (i := (90, 1, .aload_n 0, (0, 0, 0), 0)) (by decide +kernel)) g0_z hc_z
      replace hc_z := rn_iconst (w := 0) (am_cur_of (i := (91, 1, .iconst 0, (0, 0, 0), 0)) (by decide +kernel)) (by decide) hc_z
      replace hc_z := rn_put (am_cur_of (i := (92, 3, .putfield 254, (4, 14, 423), 0)) (by decide +kernel)) (by decide +kernel) hc_z
      replace hc_z := rn_iconst (w := 0) (am_cur_of (i := (95, 1, .iconst 0, (0, 0, 0), 0)) (by decide +kernel)) (by decide) hc_z
      replace hc_z := rn_istore_n (am_cur_of (i := (96, 1, .istore_n 2, (0, 0, 0), 0)) (by decide +kernel)) hc_z
      obtain ⟨_, s486_z, s487_z, g2_z, hc_z⟩ := hc_z
      replace g0_z := s486_z 0 _ (by decide) rfl g0_z
      replace g1_z := s486_z 1 _ (by decide) rfl g1_z
      clear s486_z s487_z
      replace hc_z := rn_iconst (w := 0) (am_cur_of (i := (97, 1, .iconst 0, (0, 0, 0), 0)) (by decide +kernel)) (by decide) hc_z
      replace hc_z := rn_istore_n (am_cur_of (i := (98, 1, .istore_n 3, (0, 0, 0), 0)) (by decide +kernel)) hc_z
      obtain ⟨_, s488_z, s489_z, g3_z, hc_z⟩ := hc_z
      replace g0_z := s488_z 0 _ (by decide) rfl g0_z
      replace g1_z := s488_z 1 _ (by decide) rfl g1_z
      replace g2_z := s488_z 2 _ (by decide) rfl g2_z
      clear s488_z s489_z
      replace hm_z := rn_aload_n (am_cur_of (i := (277, 1, .aload_n 0, (0, 0, 0), 0)) (by decide +kernel)) g0m hm_z
      replace hm_z := rn_getR (x := 179) (am_cur_of (i := (278, 3, .getfield 57, (12, 34, 1418), 0)) (by decide +kernel)) (by decide +kernel) hm_z
      replace hm_z := rn_iload_n (am_cur_of (i := (281, 1, .iload_n 2, (0, 0, 0), 0)) (by decide +kernel)) g2m hm_z
      replace hm_z := rn_aload_n (am_cur_of (i := (282, 1, .aload_n 0, (0, 0, 0), 0)) (by decide +kernel)) g0m hm_z
      replace hm_z := rn_getI (v := rg_v h480_z 164 21) (am_cur_of (i := (283, 3, .getfield 213, (12, 21, 1405), 0)) (by decide +kernel)) (by decide +kernel) rfl hm_z
      replace hm_z := rn_iastore (N := 6) (q := 5) (am_cur_of (i := (286, 1, .iastore, (0, 0, 0), 0)) (by decide +kernel)) (by decide +kernel) rfl hm_z
      obtain ⟨p490_z, hm_z⟩ := hm_z
      replace hm_z := rn_aload_n (am_cur_of (i := (287, 1, .aload_n 0, (0, 0, 0), 0)) (by decide +kernel)) g0m hm_z
      replace hm_z := rn_callV (M' := am_m170) (o := 164) (ar := []) (rest := []) (L := lv_args 0 [.ref 164]) (am_cur_of (i := (288, 3, .invokevirtual 271, (170, 1711, 3), 0)) (by decide +kernel)) rfl rfl rfl rfl hm_z
      obtain ⟨r491_z, h492_z, q493_z, hm_z⟩ := hm_z
      have g0q : am_get (lv_args 0 [.ref 164]) 0 = some (.ref 164) := rfl
      replace q493_z := rn_aload_n (am_cur_of (i := (0, 1, .aload_n 0, (0, 0, 0), 0)) (by decide +kernel)) g0q q493_z
      replace q493_z := rn_iconst (w := 0) (am_cur_of (i := (1, 1, .iconst 0, (0, 0, 0), 0)) (by decide +kernel)) (by decide) q493_z
      replace q493_z := rn_put (am_cur_of (i := (2, 3, .putfield 280, (12, 41, 1425), 0)) (by decide +kernel)) (by decide +kernel) q493_z
      replace q493_z := rn_aload_n (am_cur_of (i := (5, 1, .aload_n 0, (0, 0, 0), 0)) (by decide +kernel)) g0q q493_z
      replace q493_z := rn_iconst (w := 0) (am_cur_of (i := (6, 1, .iconst 0, (0, 0, 0), 0)) (by decide +kernel)) (by decide) q493_z
      replace q493_z := rn_put (am_cur_of (i := (7, 3, .putfield 277, (12, 42, 1426), 0)) (by decide +kernel)) (by decide +kernel) q493_z
      replace q493_z := rn_aload_n (am_cur_of (i := (10, 1, .aload_n 0, (0, 0, 0), 0)) (by decide +kernel)) g0q q493_z
      replace q493_z := rn_iconst (w := 0) (am_cur_of (i := (11, 1, .iconst 0, (0, 0, 0), 0)) (by decide +kernel)) (by decide) q493_z
      replace q493_z := rn_put (am_cur_of (i := (12, 3, .putfield 295, (12, 43, 1427), 0)) (by decide +kernel)) (by decide +kernel) q493_z
      replace q493_z := rn_aload_n (am_cur_of (i := (15, 1, .aload_n 0, (0, 0, 0), 0)) (by decide +kernel)) g0q q493_z
      replace q493_z := rn_iconst (w := 1) (am_cur_of (i := (16, 1, .iconst 1, (0, 0, 0), 0)) (by decide +kernel)) (by decide) q493_z
      replace q493_z := rn_put (am_cur_of (i := (17, 3, .putfield 315, (12, 45, 1429), 0)) (by decide +kernel)) (by decide +kernel) q493_z
      replace q493_z := rn_aload_n (am_cur_of (i := (20, 1, .aload_n 0, (0, 0, 0), 0)) (by decide +kernel)) g0q q493_z
      replace q493_z := rn_iconst (w := 1) (am_cur_of (i := (21, 1, .iconst 1, (0, 0, 0), 0)) (by decide +kernel)) (by decide) q493_z
      replace q493_z := rn_put (am_cur_of (i := (22, 3, .putfield 302, (12, 46, 1430), 0)) (by decide +kernel)) (by decide +kernel) q493_z
      have FC : ab_Fr (ry_MC2.drop 1) h473_z (am_up (am_up (am_up h473_z 14 ((2 : Int32).toNatClampNeg) (.int (rg_v h473_z 11 1))) 44 13 (.int 0)) 44 14 (.int 0)) := ab_Fr_up rfl (ab_Fr_up rfl (ab_Fr_up rfl ab_Fr_refl))
      have FM : ab_Fr ry_MT h480_z (am_up (am_up (am_up (am_up (am_up (am_up h480_z 179 5 (.int (rg_v h480_z 164 21))) 164 41 (.int 0)) 164 42 (.int 0)) 164 43 (.int 0)) 164 45 (.int 1)) 164 46 (.int 1)) := ab_Fr_up rfl (ab_Fr_up rfl (ab_Fr_up rfl (ab_Fr_up rfl (ab_Fr_up rfl (ab_Fr_up rfl ab_Fr_refl)))))
      have FM' : ab_Fr ry_MM h480_z (am_up (am_up (am_up (am_up (am_up (am_up h480_z 179 5 (.int (rg_v h480_z 164 21))) 164 41 (.int 0)) 164 42 (.int 0)) 164 43 (.int 0)) 164 45 (.int 1)) 164 46 (.int 1)) := ab_Fr_sub (by decide) FM
      have R4 := ry_rq2 R3 FC FM'
      have A4 := ry_p2 A3 (ab_Fr_sub (by decide) FC) FM' A3.2.2.2.2.2.1.1 A3.2.2.2.2.2.1.2.1 A3.2.2.2.2.2.1.2.2
      have B4 := ry_t2 B3 FC FM
      have kk : 0 ≤ (rg_v (am_up (am_up (am_up h473_z 14 ((2 : Int32).toNatClampNeg) (.int (rg_v h473_z 11 1))) 44 13 (.int 0)) 44 14 (.int 0)) 11 0).toInt := A4.2.2.2.2.2.1.2.1
      have Z4 : rs 2 (am_up (am_up (am_up h473_z 14 ((2 : Int32).toNatClampNeg) (.int (rg_v h473_z 11 1))) 44 13 (.int 0)) 44 14 (.int 0)) (am_up (am_up (am_up (am_up (am_up (am_up h480_z 179 5 (.int (rg_v h480_z 164 21))) 164 41 (.int 0)) 164 42 (.int 0)) 164 43 (.int 0)) 164 45 (.int 1)) 164 46 (.int 1)) := ⟨0, 0, rfl, rfl, by decide, rfl, rfl, by decide, by decide, (by rw [show (0 : Int32).toInt = 0 by decide]; show (0 : Int) ≤ (rg_v (am_up (am_up (am_up h473_z 14 ((2 : Int32).toNatClampNeg) (.int (rg_v h473_z 11 1))) 44 13 (.int 0)) 44 14 (.int 0)) 11 0).toInt + 0; omega), fun i hi_z => absurd hi_z (by rw [show (0 : Int32).toInt = 0 by decide]; omega), (by rw [show (0 : Int32).toNatClampNeg = 0 by decide, show (0 : Int32).toInt = 0 by decide]; rfl)⟩
      have R4p := R4.2.2.2.2.2.2.1
      have R4x := R4.2.2.2.2.2.2.2.1
      have Q := lw_loop2 (lw := 2) (x0_z := p3_z) _ 0 0 x3_z p3_z _ _ _ _ _ (by decide) (by rw [show (0 : Int32).toInt = 0 by decide]; exact R4p) (Int.le_refl _) R4 A4 B4 Z4 (Or.inl ⟨rfl, rfl, rfl⟩) g0_z g1_z g2_z g3_z g0q hc_z q493_z
      rcases Q with ⟨rfl, x5_z, p5_z, R5, le5_z, A5, B5⟩ | ⟨rfl, p5_z, wv, v0_z, f1_z, f2_z, f3_z, f4_z⟩ | ⟨rfl, p5_z, u1_z, u2_z, u3_z, u4_z, u5_z⟩
      · replace hm_z : rn _ _ _ _ [.int 1] _ _ _ := hm_z
        replace hm_z := rn_istore_n (am_cur_of (i := (291, 1, .istore_n 1, (0, 0, 0), 0)) (by decide +kernel)) hm_z
        obtain ⟨_, s494_z, s495_z, g1m, hm_z⟩ := hm_z
        replace g0m := s494_z 0 _ (by decide) rfl g0m
        replace g2m := s494_z 2 _ (by decide) rfl g2m
        clear s494_z s495_z
        replace hm_z := rn_aload_n (am_cur_of (i := (292, 1, .aload_n 0, (0, 0, 0), 0)) (by decide +kernel)) g0m hm_z
        replace hm_z := rn_getR (x := 180) (am_cur_of (i := (293, 3, .getfield 60, (12, 35, 1419), 0)) (by decide +kernel)) (by decide +kernel) hm_z
        replace hm_z := rn_iload_n (am_cur_of (i := (296, 1, .iload_n 2, (0, 0, 0), 0)) (by decide +kernel)) g2m hm_z
        replace hm_z := rn_aload_n (am_cur_of (i := (297, 1, .aload_n 0, (0, 0, 0), 0)) (by decide +kernel)) g0m hm_z
        replace hm_z := rn_getI (v := rg_v h492_z 164 21) (am_cur_of (i := (298, 3, .getfield 213, (12, 21, 1405), 0)) (by decide +kernel)) (by decide +kernel) rfl hm_z
        replace hm_z := rn_iastore (N := 6) (q := 5) (am_cur_of (i := (301, 1, .iastore, (0, 0, 0), 0)) (by decide +kernel)) (by decide +kernel) rfl hm_z
        obtain ⟨p496_z, hm_z⟩ := hm_z
        have EM : ab_Fr ry_MT h492_z (am_up h492_z 180 5 (.int (rg_v h492_z 164 21))) := ab_Fr_up rfl ab_Fr_refl
        exact Or.inl ⟨x5_z, p5_z, _, _, _, ry_rq2 R5 ab_Fr_refl (ab_Fr_sub (by decide) EM), by omega, ry_p2 A5 ab_Fr_refl (ab_Fr_sub (by decide) EM) A5.2.2.2.2.2.1.1 A5.2.2.2.2.2.1.2.1 A5.2.2.2.2.2.1.2.2, ry_t2 B5 ab_Fr_refl EM, g0m, g1m, hm_z⟩
      · replace hm_z : rn _ _ _ _ [.int 0] _ _ _ := hm_z
        replace hm_z := rn_istore_n (am_cur_of (i := (291, 1, .istore_n 1, (0, 0, 0), 0)) (by decide +kernel)) hm_z
        obtain ⟨_, s497_z, s498_z, g1m, hm_z⟩ := hm_z
        replace g0m := s497_z 0 _ (by decide) rfl g0m
        replace g2m := s497_z 2 _ (by decide) rfl g2m
        clear s497_z s498_z
        replace hm_z := rn_aload_n (am_cur_of (i := (292, 1, .aload_n 0, (0, 0, 0), 0)) (by decide +kernel)) g0m hm_z
        replace hm_z := rn_getR (x := 180) (am_cur_of (i := (293, 3, .getfield 60, (12, 35, 1419), 0)) (by decide +kernel)) (by decide +kernel) hm_z
        replace hm_z := rn_iload_n (am_cur_of (i := (296, 1, .iload_n 2, (0, 0, 0), 0)) (by decide +kernel)) g2m hm_z
        replace hm_z := rn_aload_n (am_cur_of (i := (297, 1, .aload_n 0, (0, 0, 0), 0)) (by decide +kernel)) g0m hm_z
        replace hm_z := rn_getI (v := rg_v h492_z 164 21) (am_cur_of (i := (298, 3, .getfield 213, (12, 21, 1405), 0)) (by decide +kernel)) (by decide +kernel) rfl hm_z
        replace hm_z := rn_iastore (N := 6) (q := 5) (am_cur_of (i := (301, 1, .iastore, (0, 0, 0), 0)) (by decide +kernel)) (by decide +kernel) rfl hm_z
        obtain ⟨p499_z, hm_z⟩ := hm_z
        replace hm_z := rn_iload_n (am_cur_of (i := (302, 1, .iload_n 1, (0, 0, 0), 0)) (by decide +kernel)) g1m hm_z
        replace hm_z := rn_ifF (am_cur_of (i := (303, 3, .ifCond .ne 5, (143, 0, 0), 0)) (by decide +kernel)) (by decide) hm_z
        replace hm_z := rn_iconst (w := 0) (am_cur_of (i := (306, 1, .iconst 0, (0, 0, 0), 0)) (by decide +kernel)) (by decide) hm_z
        replace hm_z := rn_iret (am_cur_of (i := (307, 1, .ireturn, (0, 0, 0), 0)) (by decide +kernel)) hm_z
        obtain ⟨e500_z, e501_z⟩ := hm_z
        subst e500_z e501_z
        exact Or.inr (Or.inl ⟨rfl, p5_z, wv, v0_z, f1_z, f2_z, f3_z, f4_z⟩)
      · replace hm_z : rn _ _ _ _ [.int 0] _ _ _ := hm_z
        replace hm_z := rn_istore_n (am_cur_of (i := (291, 1, .istore_n 1, (0, 0, 0), 0)) (by decide +kernel)) hm_z
        obtain ⟨_, s502_z, s503_z, g1m, hm_z⟩ := hm_z
        replace g0m := s502_z 0 _ (by decide) rfl g0m
        replace g2m := s502_z 2 _ (by decide) rfl g2m
        clear s502_z s503_z
        replace hm_z := rn_aload_n (am_cur_of (i := (292, 1, .aload_n 0, (0, 0, 0), 0)) (by decide +kernel)) g0m hm_z
        replace hm_z := rn_getR (x := 180) (am_cur_of (i := (293, 3, .getfield 60, (12, 35, 1419), 0)) (by decide +kernel)) (by decide +kernel) hm_z
        replace hm_z := rn_iload_n (am_cur_of (i := (296, 1, .iload_n 2, (0, 0, 0), 0)) (by decide +kernel)) g2m hm_z
        replace hm_z := rn_aload_n (am_cur_of (i := (297, 1, .aload_n 0, (0, 0, 0), 0)) (by decide +kernel)) g0m hm_z
        replace hm_z := rn_getI (v := rg_v h492_z 164 21) (am_cur_of (i := (298, 3, .getfield 213, (12, 21, 1405), 0)) (by decide +kernel)) (by decide +kernel) rfl hm_z
        replace hm_z := rn_iastore (N := 6) (q := 5) (am_cur_of (i := (301, 1, .iastore, (0, 0, 0), 0)) (by decide +kernel)) (by decide +kernel) rfl hm_z
        obtain ⟨p504_z, hm_z⟩ := hm_z
        replace hm_z := rn_iload_n (am_cur_of (i := (302, 1, .iload_n 1, (0, 0, 0), 0)) (by decide +kernel)) g1m hm_z
        replace hm_z := rn_ifF (am_cur_of (i := (303, 3, .ifCond .ne 5, (143, 0, 0), 0)) (by decide +kernel)) (by decide) hm_z
        replace hm_z := rn_iconst (w := 0) (am_cur_of (i := (306, 1, .iconst 0, (0, 0, 0), 0)) (by decide +kernel)) (by decide) hm_z
        replace hm_z := rn_iret (am_cur_of (i := (307, 1, .ireturn, (0, 0, 0), 0)) (by decide +kernel)) hm_z
        obtain ⟨e505_z, e506_z⟩ := hm_z
        subst e505_z e506_z
        exact Or.inr (Or.inr ⟨rfl, p5_z, u1_z, u2_z, u3_z, u4_z, u5_z⟩)
    · replace b471_z : ¬ (((rp_tb b0_z b1_z b2_z b3_z b4_z b5_z b6_z) >>> (11 &&& 31)) &&& 1) = (0 : Int32) ∧ ¬ (((rp_tb b0_z b1_z b2_z b3_z b4_z b5_z b6_z) >>> (11 &&& 31)) &&& 1).toInt = (0 : Int32).toInt := b471_z
      exact absurd (e1_z.trans (by decide)) b471_z.1
theorem pl_law12_2 {T : Nat → Int32} {S x p : Int32} {n n' : Nat} {h h' g g' : am_H} {r r' : Option Value} {ls ls2_z : am_L} (R : rq T S x p 2 h g) (A : rp 2 h g) (B : rp_t h g) (ka : rg_v h 44 10 = 2) (kb : rg_v h 44 11 = 12) (kc : rg_v g 164 8 = 1) (kd : rg_v g 164 9 = 15) (g0_z : am_get ls 0 = some (.ref 44)) (g0m : am_get ls2_z 0 = some (.ref 164)) (hc_z : rn n am_m42 2 ls [] h r h') (hm_z : rn n' am_m157 85 ls2_z [] g r' g') : pm_Q T S x 2 h' g' r' := by
  have R5 := R.2.2.2.2.1
  have R6 := R.2.2.2.2.2.1
  replace hc_z := rn_aload_n (am_cur_of (i := (4, 1, .aload_n 0, (0, 0, 0), 0)) (by decide +kernel)) g0_z hc_z
  replace hc_z := rn_getI (v := 12) (am_cur_of (i := (5, 3, .getfield 91, (4, 11, 420), 0)) (by decide +kernel)) (by decide +kernel) kb hc_z
  replace hc_z := rn_bipush (w := 9) (am_cur_of (i := (8, 2, .bipush 9, (0, 0, 0), 0)) (by decide +kernel)) (by decide) hc_z
  replace hc_z := rn_isub (w := 3) (am_cur_of (i := (10, 1, .isub, (0, 0, 0), 0)) (by decide +kernel)) (by decide) hc_z
  replace hc_z := rn_istore_n (am_cur_of (i := (11, 1, .istore_n 1, (0, 0, 0), 0)) (by decide +kernel)) hc_z
  obtain ⟨_, s507_z, s508_z, g1_z, hc_z⟩ := hc_z
  replace g0_z := s507_z 0 _ (by decide) rfl g0_z
  clear s507_z s508_z
  replace hc_z := rn_aload_n (am_cur_of (i := (12, 1, .aload_n 0, (0, 0, 0), 0)) (by decide +kernel)) g0_z hc_z
  replace hc_z := rn_getI (v := 2) (am_cur_of (i := (13, 3, .getfield 60, (4, 10, 419), 0)) (by decide +kernel)) (by decide +kernel) ka hc_z
  replace hc_z := rn_iconst (w := 2) (am_cur_of (i := (16, 1, .iconst 2, (0, 0, 0), 0)) (by decide +kernel)) (by decide) hc_z
  replace hc_z := rn_cmpF (am_cur_of (i := (17, 3, .if_icmp .ne 12, (16, 0, 0), 0)) (by decide +kernel)) (by decide) hc_z
  replace hc_z := rn_iload_n (am_cur_of (i := (20, 1, .iload_n 1, (0, 0, 0), 0)) (by decide +kernel)) g1_z hc_z
  replace hc_z := rn_ifF (am_cur_of (i := (21, 3, .ifCond .lt 8, (16, 0, 0), 0)) (by decide +kernel)) (by decide) hc_z
  replace hc_z := rn_iload_n (am_cur_of (i := (24, 1, .iload_n 1, (0, 0, 0), 0)) (by decide +kernel)) g1_z hc_z
  replace hc_z := rn_iconst (w := 2) (am_cur_of (i := (25, 1, .iconst 2, (0, 0, 0), 0)) (by decide +kernel)) (by decide) hc_z
  replace hc_z := rn_cmpF (am_cur_of (i := (26, 3, .if_icmp .le 9, (20, 0, 0), 0)) (by decide +kernel)) (by decide) hc_z
  replace hc_z := rn_aload_n (am_cur_of (i := (29, 1, .aload_n 0, (0, 0, 0), 0)) (by decide +kernel)) g0_z hc_z
  replace hc_z := rn_iconst (w := 1) (am_cur_of (i := (30, 1, .iconst 1, (0, 0, 0), 0)) (by decide +kernel)) (by decide) hc_z
  replace hc_z := rn_callV (M' := am_m29) (o := 44) (ar := [.int 1]) (rest := []) (L := lv_args 0 [.ref 44, .int 1]) (am_cur_of (i := (31, 3, .invokevirtual 108, (29, 769, 3), 0)) (by decide +kernel)) rfl rfl rfl rfl hc_z
  obtain ⟨r509_z, h510_z, q511_z, hc_z⟩ := hc_z
  obtain ⟨rfl, yq511_z⟩ := rp_fail R.2.2.2.1 q511_z
  subst yq511_z
  replace hc_z : rn _ _ _ _ [] _ _ _ := hc_z
  have K := rs_stick (w := 1) (a := 42) (by decide) (by decide) rfl (by decide) rfl rfl hc_z
  replace hm_z := rn_aload_n (am_cur_of (i := (209, 1, .aload_n 0, (0, 0, 0), 0)) (by decide +kernel)) g0m hm_z
  replace hm_z := rn_getI (v := 1) (am_cur_of (i := (210, 3, .getfield 157, (12, 8, 1392), 0)) (by decide +kernel)) (by decide +kernel) kc hm_z
  replace hm_z := rn_iconst (w := 1) (am_cur_of (i := (213, 1, .iconst 1, (0, 0, 0), 0)) (by decide +kernel)) (by decide) hm_z
  replace hm_z := rn_cmpF (am_cur_of (i := (214, 3, .if_icmp .ne 21, (97, 0, 0), 0)) (by decide +kernel)) (by decide) hm_z
  replace hm_z := rn_aload_n (am_cur_of (i := (217, 1, .aload_n 0, (0, 0, 0), 0)) (by decide +kernel)) g0m hm_z
  replace hm_z := rn_getI (v := 15) (am_cur_of (i := (218, 3, .getfield 168, (12, 9, 1393), 0)) (by decide +kernel)) (by decide +kernel) kd hm_z
  replace hm_z := rn_bipush (w := 9) (am_cur_of (i := (221, 2, .bipush 9, (0, 0, 0), 0)) (by decide +kernel)) (by decide) hm_z
  replace hm_z := rn_cmpF (am_cur_of (i := (223, 3, .if_icmp .lt 12, (97, 0, 0), 0)) (by decide +kernel)) (by decide) hm_z
  replace hm_z := rn_aload_n (am_cur_of (i := (226, 1, .aload_n 0, (0, 0, 0), 0)) (by decide +kernel)) g0m hm_z
  replace hm_z := rn_getI (v := 15) (am_cur_of (i := (227, 3, .getfield 168, (12, 9, 1393), 0)) (by decide +kernel)) (by decide +kernel) kd hm_z
  replace hm_z := rn_bipush (w := 11) (am_cur_of (i := (230, 2, .bipush 11, (0, 0, 0), 0)) (by decide +kernel)) (by decide) hm_z
  replace hm_z := rn_cmpF (am_cur_of (i := (232, 3, .if_icmp .le 9, (101, 0, 0), 0)) (by decide +kernel)) (by decide) hm_z
  replace hm_z := rn_aload_n (am_cur_of (i := (235, 1, .aload_n 0, (0, 0, 0), 0)) (by decide +kernel)) g0m hm_z
  replace hm_z := rn_iconst (w := 1) (am_cur_of (i := (236, 1, .iconst 1, (0, 0, 0), 0)) (by decide +kernel)) (by decide) hm_z
  replace hm_z := rn_callV (M' := am_m158) (o := 164) (ar := [.int 1]) (rest := []) (L := lv_args 0 [.ref 164, .int 1]) (am_cur_of (i := (237, 3, .invokevirtual 181, (158, 1665, 3), 0)) (by decide +kernel)) rfl rfl rfl rfl hm_z
  obtain ⟨r512_z, h513_z, q514_z, hm_z⟩ := hm_z
  obtain ⟨rfl, yq514_z⟩ := rp_wrong q514_z
  subst yq514_z
  replace hm_z : rn _ _ _ _ [.int 0] _ _ _ := hm_z
  replace hm_z := rn_iret (am_cur_of (i := (240, 1, .ireturn, (0, 0, 0), 0)) (by decide +kernel)) hm_z
  obtain ⟨e515_z, e516_z⟩ := hm_z
  subst e515_z e516_z
  exact Or.inr (Or.inl ⟨rfl, _, 1, by decide, K.1, K.2.trans R5, rfl, R6⟩)
theorem pl_law13_2 {T : Nat → Int32} {S x p : Int32} {n n' : Nat} {h h' g g' : am_H} {r r' : Option Value} {ls ls2_z : am_L} (R : rq T S x p 2 h g) (A : rp 2 h g) (B : rp_t h g) (ka : rg_v h 44 10 = 2) (kb : rg_v h 44 11 = 13) (kc : rg_v g 164 8 = 1) (kd : rg_v g 164 9 = 16) (g0_z : am_get ls 0 = some (.ref 44)) (g0m : am_get ls2_z 0 = some (.ref 164)) (hc_z : rn n am_m42 2 ls [] h r h') (hm_z : rn n' am_m157 85 ls2_z [] g r' g') : pm_Q T S x 2 h' g' r' := by
  have R5 := R.2.2.2.2.1
  have R6 := R.2.2.2.2.2.1
  replace hc_z := rn_aload_n (am_cur_of (i := (4, 1, .aload_n 0, (0, 0, 0), 0)) (by decide +kernel)) g0_z hc_z
  replace hc_z := rn_getI (v := 13) (am_cur_of (i := (5, 3, .getfield 91, (4, 11, 420), 0)) (by decide +kernel)) (by decide +kernel) kb hc_z
  replace hc_z := rn_bipush (w := 9) (am_cur_of (i := (8, 2, .bipush 9, (0, 0, 0), 0)) (by decide +kernel)) (by decide) hc_z
  replace hc_z := rn_isub (w := 4) (am_cur_of (i := (10, 1, .isub, (0, 0, 0), 0)) (by decide +kernel)) (by decide) hc_z
  replace hc_z := rn_istore_n (am_cur_of (i := (11, 1, .istore_n 1, (0, 0, 0), 0)) (by decide +kernel)) hc_z
  obtain ⟨_, s517_z, s518_z, g1_z, hc_z⟩ := hc_z
  replace g0_z := s517_z 0 _ (by decide) rfl g0_z
  clear s517_z s518_z
  replace hc_z := rn_aload_n (am_cur_of (i := (12, 1, .aload_n 0, (0, 0, 0), 0)) (by decide +kernel)) g0_z hc_z
  replace hc_z := rn_getI (v := 2) (am_cur_of (i := (13, 3, .getfield 60, (4, 10, 419), 0)) (by decide +kernel)) (by decide +kernel) ka hc_z
  replace hc_z := rn_iconst (w := 2) (am_cur_of (i := (16, 1, .iconst 2, (0, 0, 0), 0)) (by decide +kernel)) (by decide) hc_z
  replace hc_z := rn_cmpF (am_cur_of (i := (17, 3, .if_icmp .ne 12, (16, 0, 0), 0)) (by decide +kernel)) (by decide) hc_z
  replace hc_z := rn_iload_n (am_cur_of (i := (20, 1, .iload_n 1, (0, 0, 0), 0)) (by decide +kernel)) g1_z hc_z
  replace hc_z := rn_ifF (am_cur_of (i := (21, 3, .ifCond .lt 8, (16, 0, 0), 0)) (by decide +kernel)) (by decide) hc_z
  replace hc_z := rn_iload_n (am_cur_of (i := (24, 1, .iload_n 1, (0, 0, 0), 0)) (by decide +kernel)) g1_z hc_z
  replace hc_z := rn_iconst (w := 2) (am_cur_of (i := (25, 1, .iconst 2, (0, 0, 0), 0)) (by decide +kernel)) (by decide) hc_z
  replace hc_z := rn_cmpF (am_cur_of (i := (26, 3, .if_icmp .le 9, (20, 0, 0), 0)) (by decide +kernel)) (by decide) hc_z
  replace hc_z := rn_aload_n (am_cur_of (i := (29, 1, .aload_n 0, (0, 0, 0), 0)) (by decide +kernel)) g0_z hc_z
  replace hc_z := rn_iconst (w := 1) (am_cur_of (i := (30, 1, .iconst 1, (0, 0, 0), 0)) (by decide +kernel)) (by decide) hc_z
  replace hc_z := rn_callV (M' := am_m29) (o := 44) (ar := [.int 1]) (rest := []) (L := lv_args 0 [.ref 44, .int 1]) (am_cur_of (i := (31, 3, .invokevirtual 108, (29, 769, 3), 0)) (by decide +kernel)) rfl rfl rfl rfl hc_z
  obtain ⟨r519_z, h520_z, q521_z, hc_z⟩ := hc_z
  obtain ⟨rfl, yq521_z⟩ := rp_fail R.2.2.2.1 q521_z
  subst yq521_z
  replace hc_z : rn _ _ _ _ [] _ _ _ := hc_z
  have K := rs_stick (w := 1) (a := 42) (by decide) (by decide) rfl (by decide) rfl rfl hc_z
  replace hm_z := rn_aload_n (am_cur_of (i := (209, 1, .aload_n 0, (0, 0, 0), 0)) (by decide +kernel)) g0m hm_z
  replace hm_z := rn_getI (v := 1) (am_cur_of (i := (210, 3, .getfield 157, (12, 8, 1392), 0)) (by decide +kernel)) (by decide +kernel) kc hm_z
  replace hm_z := rn_iconst (w := 1) (am_cur_of (i := (213, 1, .iconst 1, (0, 0, 0), 0)) (by decide +kernel)) (by decide) hm_z
  replace hm_z := rn_cmpF (am_cur_of (i := (214, 3, .if_icmp .ne 21, (97, 0, 0), 0)) (by decide +kernel)) (by decide) hm_z
  replace hm_z := rn_aload_n (am_cur_of (i := (217, 1, .aload_n 0, (0, 0, 0), 0)) (by decide +kernel)) g0m hm_z
  replace hm_z := rn_getI (v := 16) (am_cur_of (i := (218, 3, .getfield 168, (12, 9, 1393), 0)) (by decide +kernel)) (by decide +kernel) kd hm_z
  replace hm_z := rn_bipush (w := 9) (am_cur_of (i := (221, 2, .bipush 9, (0, 0, 0), 0)) (by decide +kernel)) (by decide) hm_z
  replace hm_z := rn_cmpF (am_cur_of (i := (223, 3, .if_icmp .lt 12, (97, 0, 0), 0)) (by decide +kernel)) (by decide) hm_z
  replace hm_z := rn_aload_n (am_cur_of (i := (226, 1, .aload_n 0, (0, 0, 0), 0)) (by decide +kernel)) g0m hm_z
  replace hm_z := rn_getI (v := 16) (am_cur_of (i := (227, 3, .getfield 168, (12, 9, 1393), 0)) (by decide +kernel)) (by decide +kernel) kd hm_z
  replace hm_z := rn_bipush (w := 11) (am_cur_of (i := (230, 2, .bipush 11, (0, 0, 0), 0)) (by decide +kernel)) (by decide) hm_z
  replace hm_z := rn_cmpF (am_cur_of (i := (232, 3, .if_icmp .le 9, (101, 0, 0), 0)) (by decide +kernel)) (by decide) hm_z
  replace hm_z := rn_aload_n (am_cur_of (i := (235, 1, .aload_n 0, (0, 0, 0), 0)) (by decide +kernel)) g0m hm_z
  replace hm_z := rn_iconst (w := 1) (am_cur_of (i := (236, 1, .iconst 1, (0, 0, 0), 0)) (by decide +kernel)) (by decide) hm_z
  replace hm_z := rn_callV (M' := am_m158) (o := 164) (ar := [.int 1]) (rest := []) (L := lv_args 0 [.ref 164, .int 1]) (am_cur_of (i := (237, 3, .invokevirtual 181, (158, 1665, 3), 0)) (by decide +kernel)) rfl rfl rfl rfl hm_z
  obtain ⟨r522_z, h523_z, q524_z, hm_z⟩ := hm_z
  obtain ⟨rfl, yq524_z⟩ := rp_wrong q524_z
  subst yq524_z
  replace hm_z : rn _ _ _ _ [.int 0] _ _ _ := hm_z
  replace hm_z := rn_iret (am_cur_of (i := (240, 1, .ireturn, (0, 0, 0), 0)) (by decide +kernel)) hm_z
  obtain ⟨e525_z, e526_z⟩ := hm_z
  subst e525_z e526_z
  exact Or.inr (Or.inl ⟨rfl, _, 1, by decide, K.1, K.2.trans R5, rfl, R6⟩)
theorem pl_law14_2 {T : Nat → Int32} {S x p : Int32} {n n' : Nat} {h h' g g' : am_H} {r r' : Option Value} {ls ls2_z : am_L} (R : rq T S x p 2 h g) (A : rp 2 h g) (B : rp_t h g) (ka : rg_v h 44 10 = 2) (kb : rg_v h 44 11 = 14) (kc : rg_v g 164 8 = 1) (kd : rg_v g 164 9 = 17) (g0_z : am_get ls 0 = some (.ref 44)) (g0m : am_get ls2_z 0 = some (.ref 164)) (hc_z : rn n am_m42 2 ls [] h r h') (hm_z : rn n' am_m157 85 ls2_z [] g r' g') : pm_Q T S x 2 h' g' r' := by
  have R5 := R.2.2.2.2.1
  have R6 := R.2.2.2.2.2.1
  replace hc_z := rn_aload_n (am_cur_of (i := (4, 1, .aload_n 0, (0, 0, 0), 0)) (by decide +kernel)) g0_z hc_z
  replace hc_z := rn_getI (v := 14) (am_cur_of (i := (5, 3, .getfield 91, (4, 11, 420), 0)) (by decide +kernel)) (by decide +kernel) kb hc_z
  replace hc_z := rn_bipush (w := 9) (am_cur_of (i := (8, 2, .bipush 9, (0, 0, 0), 0)) (by decide +kernel)) (by decide) hc_z
  replace hc_z := rn_isub (w := 5) (am_cur_of (i := (10, 1, .isub, (0, 0, 0), 0)) (by decide +kernel)) (by decide) hc_z
  replace hc_z := rn_istore_n (am_cur_of (i := (11, 1, .istore_n 1, (0, 0, 0), 0)) (by decide +kernel)) hc_z
  obtain ⟨_, s527_z, s528_z, g1_z, hc_z⟩ := hc_z
  replace g0_z := s527_z 0 _ (by decide) rfl g0_z
  clear s527_z s528_z
  replace hc_z := rn_aload_n (am_cur_of (i := (12, 1, .aload_n 0, (0, 0, 0), 0)) (by decide +kernel)) g0_z hc_z
  replace hc_z := rn_getI (v := 2) (am_cur_of (i := (13, 3, .getfield 60, (4, 10, 419), 0)) (by decide +kernel)) (by decide +kernel) ka hc_z
  replace hc_z := rn_iconst (w := 2) (am_cur_of (i := (16, 1, .iconst 2, (0, 0, 0), 0)) (by decide +kernel)) (by decide) hc_z
  replace hc_z := rn_cmpF (am_cur_of (i := (17, 3, .if_icmp .ne 12, (16, 0, 0), 0)) (by decide +kernel)) (by decide) hc_z
  replace hc_z := rn_iload_n (am_cur_of (i := (20, 1, .iload_n 1, (0, 0, 0), 0)) (by decide +kernel)) g1_z hc_z
  replace hc_z := rn_ifF (am_cur_of (i := (21, 3, .ifCond .lt 8, (16, 0, 0), 0)) (by decide +kernel)) (by decide) hc_z
  replace hc_z := rn_iload_n (am_cur_of (i := (24, 1, .iload_n 1, (0, 0, 0), 0)) (by decide +kernel)) g1_z hc_z
  replace hc_z := rn_iconst (w := 2) (am_cur_of (i := (25, 1, .iconst 2, (0, 0, 0), 0)) (by decide +kernel)) (by decide) hc_z
  replace hc_z := rn_cmpF (am_cur_of (i := (26, 3, .if_icmp .le 9, (20, 0, 0), 0)) (by decide +kernel)) (by decide) hc_z
  replace hc_z := rn_aload_n (am_cur_of (i := (29, 1, .aload_n 0, (0, 0, 0), 0)) (by decide +kernel)) g0_z hc_z
  replace hc_z := rn_iconst (w := 1) (am_cur_of (i := (30, 1, .iconst 1, (0, 0, 0), 0)) (by decide +kernel)) (by decide) hc_z
  replace hc_z := rn_callV (M' := am_m29) (o := 44) (ar := [.int 1]) (rest := []) (L := lv_args 0 [.ref 44, .int 1]) (am_cur_of (i := (31, 3, .invokevirtual 108, (29, 769, 3), 0)) (by decide +kernel)) rfl rfl rfl rfl hc_z
  obtain ⟨r529_z, h530_z, q531_z, hc_z⟩ := hc_z
  obtain ⟨rfl, yq531_z⟩ := rp_fail R.2.2.2.1 q531_z
  subst yq531_z
  replace hc_z : rn _ _ _ _ [] _ _ _ := hc_z
  have K := rs_stick (w := 1) (a := 42) (by decide) (by decide) rfl (by decide) rfl rfl hc_z
  replace hm_z := rn_aload_n (am_cur_of (i := (209, 1, .aload_n 0, (0, 0, 0), 0)) (by decide +kernel)) g0m hm_z
  replace hm_z := rn_getI (v := 1) (am_cur_of (i := (210, 3, .getfield 157, (12, 8, 1392), 0)) (by decide +kernel)) (by decide +kernel) kc hm_z
  replace hm_z := rn_iconst (w := 1) (am_cur_of (i := (213, 1, .iconst 1, (0, 0, 0), 0)) (by decide +kernel)) (by decide) hm_z
  replace hm_z := rn_cmpF (am_cur_of (i := (214, 3, .if_icmp .ne 21, (97, 0, 0), 0)) (by decide +kernel)) (by decide) hm_z
  replace hm_z := rn_aload_n (am_cur_of (i := (217, 1, .aload_n 0, (0, 0, 0), 0)) (by decide +kernel)) g0m hm_z
  replace hm_z := rn_getI (v := 17) (am_cur_of (i := (218, 3, .getfield 168, (12, 9, 1393), 0)) (by decide +kernel)) (by decide +kernel) kd hm_z
  replace hm_z := rn_bipush (w := 9) (am_cur_of (i := (221, 2, .bipush 9, (0, 0, 0), 0)) (by decide +kernel)) (by decide) hm_z
  replace hm_z := rn_cmpF (am_cur_of (i := (223, 3, .if_icmp .lt 12, (97, 0, 0), 0)) (by decide +kernel)) (by decide) hm_z
  replace hm_z := rn_aload_n (am_cur_of (i := (226, 1, .aload_n 0, (0, 0, 0), 0)) (by decide +kernel)) g0m hm_z
  replace hm_z := rn_getI (v := 17) (am_cur_of (i := (227, 3, .getfield 168, (12, 9, 1393), 0)) (by decide +kernel)) (by decide +kernel) kd hm_z
  replace hm_z := rn_bipush (w := 11) (am_cur_of (i := (230, 2, .bipush 11, (0, 0, 0), 0)) (by decide +kernel)) (by decide) hm_z
  replace hm_z := rn_cmpF (am_cur_of (i := (232, 3, .if_icmp .le 9, (101, 0, 0), 0)) (by decide +kernel)) (by decide) hm_z
  replace hm_z := rn_aload_n (am_cur_of (i := (235, 1, .aload_n 0, (0, 0, 0), 0)) (by decide +kernel)) g0m hm_z
  replace hm_z := rn_iconst (w := 1) (am_cur_of (i := (236, 1, .iconst 1, (0, 0, 0), 0)) (by decide +kernel)) (by decide) hm_z
  replace hm_z := rn_callV (M' := am_m158) (o := 164) (ar := [.int 1]) (rest := []) (L := lv_args 0 [.ref 164, .int 1]) (am_cur_of (i := (237, 3, .invokevirtual 181, (158, 1665, 3), 0)) (by decide +kernel)) rfl rfl rfl rfl hm_z
  obtain ⟨r532_z, h533_z, q534_z, hm_z⟩ := hm_z
  obtain ⟨rfl, yq534_z⟩ := rp_wrong q534_z
  subst yq534_z
  replace hm_z : rn _ _ _ _ [.int 0] _ _ _ := hm_z
  replace hm_z := rn_iret (am_cur_of (i := (240, 1, .ireturn, (0, 0, 0), 0)) (by decide +kernel)) hm_z
  obtain ⟨e535_z, e536_z⟩ := hm_z
  subst e535_z e536_z
  exact Or.inr (Or.inl ⟨rfl, _, 1, by decide, K.1, K.2.trans R5, rfl, R6⟩)
theorem pl_law15_2 {T : Nat → Int32} {S x p : Int32} {n n' : Nat} {h h' g g' : am_H} {r r' : Option Value} {ls ls2_z : am_L} (R : rq T S x p 2 h g) (A : rp 2 h g) (B : rp_t h g) (ka : rg_v h 44 10 = 2) (kb : rg_v h 44 11 = 15) (kc : rg_v g 164 8 = 1) (kd : rg_v g 164 9 = 18) (g0_z : am_get ls 0 = some (.ref 44)) (g0m : am_get ls2_z 0 = some (.ref 164)) (hc_z : rn n am_m42 2 ls [] h r h') (hm_z : rn n' am_m157 85 ls2_z [] g r' g') : pm_Q T S x 2 h' g' r' := by
  have R5 := R.2.2.2.2.1
  have R6 := R.2.2.2.2.2.1
  replace hc_z := rn_aload_n (am_cur_of (i := (4, 1, .aload_n 0, (0, 0, 0), 0)) (by decide +kernel)) g0_z hc_z
  replace hc_z := rn_getI (v := 15) (am_cur_of (i := (5, 3, .getfield 91, (4, 11, 420), 0)) (by decide +kernel)) (by decide +kernel) kb hc_z
  replace hc_z := rn_bipush (w := 9) (am_cur_of (i := (8, 2, .bipush 9, (0, 0, 0), 0)) (by decide +kernel)) (by decide) hc_z
  replace hc_z := rn_isub (w := 6) (am_cur_of (i := (10, 1, .isub, (0, 0, 0), 0)) (by decide +kernel)) (by decide) hc_z
  replace hc_z := rn_istore_n (am_cur_of (i := (11, 1, .istore_n 1, (0, 0, 0), 0)) (by decide +kernel)) hc_z
  obtain ⟨_, s537_z, s538_z, g1_z, hc_z⟩ := hc_z
  replace g0_z := s537_z 0 _ (by decide) rfl g0_z
  clear s537_z s538_z
  replace hc_z := rn_aload_n (am_cur_of (i := (12, 1, .aload_n 0, (0, 0, 0), 0)) (by decide +kernel)) g0_z hc_z
  replace hc_z := rn_getI (v := 2) (am_cur_of (i := (13, 3, .getfield 60, (4, 10, 419), 0)) (by decide +kernel)) (by decide +kernel) ka hc_z
  replace hc_z := rn_iconst (w := 2) (am_cur_of (i := (16, 1, .iconst 2, (0, 0, 0), 0)) (by decide +kernel)) (by decide) hc_z
  replace hc_z := rn_cmpF (am_cur_of (i := (17, 3, .if_icmp .ne 12, (16, 0, 0), 0)) (by decide +kernel)) (by decide) hc_z
  replace hc_z := rn_iload_n (am_cur_of (i := (20, 1, .iload_n 1, (0, 0, 0), 0)) (by decide +kernel)) g1_z hc_z
  replace hc_z := rn_ifF (am_cur_of (i := (21, 3, .ifCond .lt 8, (16, 0, 0), 0)) (by decide +kernel)) (by decide) hc_z
  replace hc_z := rn_iload_n (am_cur_of (i := (24, 1, .iload_n 1, (0, 0, 0), 0)) (by decide +kernel)) g1_z hc_z
  replace hc_z := rn_iconst (w := 2) (am_cur_of (i := (25, 1, .iconst 2, (0, 0, 0), 0)) (by decide +kernel)) (by decide) hc_z
  replace hc_z := rn_cmpF (am_cur_of (i := (26, 3, .if_icmp .le 9, (20, 0, 0), 0)) (by decide +kernel)) (by decide) hc_z
  replace hc_z := rn_aload_n (am_cur_of (i := (29, 1, .aload_n 0, (0, 0, 0), 0)) (by decide +kernel)) g0_z hc_z
  replace hc_z := rn_iconst (w := 1) (am_cur_of (i := (30, 1, .iconst 1, (0, 0, 0), 0)) (by decide +kernel)) (by decide) hc_z
  replace hc_z := rn_callV (M' := am_m29) (o := 44) (ar := [.int 1]) (rest := []) (L := lv_args 0 [.ref 44, .int 1]) (am_cur_of (i := (31, 3, .invokevirtual 108, (29, 769, 3), 0)) (by decide +kernel)) rfl rfl rfl rfl hc_z
  obtain ⟨r539_z, h540_z, q541_z, hc_z⟩ := hc_z
  obtain ⟨rfl, yq541_z⟩ := rp_fail R.2.2.2.1 q541_z
  subst yq541_z
  replace hc_z : rn _ _ _ _ [] _ _ _ := hc_z
  have K := rs_stick (w := 1) (a := 42) (by decide) (by decide) rfl (by decide) rfl rfl hc_z
  replace hm_z := rn_aload_n (am_cur_of (i := (209, 1, .aload_n 0, (0, 0, 0), 0)) (by decide +kernel)) g0m hm_z
  replace hm_z := rn_getI (v := 1) (am_cur_of (i := (210, 3, .getfield 157, (12, 8, 1392), 0)) (by decide +kernel)) (by decide +kernel) kc hm_z
  replace hm_z := rn_iconst (w := 1) (am_cur_of (i := (213, 1, .iconst 1, (0, 0, 0), 0)) (by decide +kernel)) (by decide) hm_z
  replace hm_z := rn_cmpF (am_cur_of (i := (214, 3, .if_icmp .ne 21, (97, 0, 0), 0)) (by decide +kernel)) (by decide) hm_z
  replace hm_z := rn_aload_n (am_cur_of (i := (217, 1, .aload_n 0, (0, 0, 0), 0)) (by decide +kernel)) g0m hm_z
  replace hm_z := rn_getI (v := 18) (am_cur_of (i := (218, 3, .getfield 168, (12, 9, 1393), 0)) (by decide +kernel)) (by decide +kernel) kd hm_z
  replace hm_z := rn_bipush (w := 9) (am_cur_of (i := (221, 2, .bipush 9, (0, 0, 0), 0)) (by decide +kernel)) (by decide) hm_z
  replace hm_z := rn_cmpF (am_cur_of (i := (223, 3, .if_icmp .lt 12, (97, 0, 0), 0)) (by decide +kernel)) (by decide) hm_z
  replace hm_z := rn_aload_n (am_cur_of (i := (226, 1, .aload_n 0, (0, 0, 0), 0)) (by decide +kernel)) g0m hm_z
  replace hm_z := rn_getI (v := 18) (am_cur_of (i := (227, 3, .getfield 168, (12, 9, 1393), 0)) (by decide +kernel)) (by decide +kernel) kd hm_z
  replace hm_z := rn_bipush (w := 11) (am_cur_of (i := (230, 2, .bipush 11, (0, 0, 0), 0)) (by decide +kernel)) (by decide) hm_z
  replace hm_z := rn_cmpF (am_cur_of (i := (232, 3, .if_icmp .le 9, (101, 0, 0), 0)) (by decide +kernel)) (by decide) hm_z
  replace hm_z := rn_aload_n (am_cur_of (i := (235, 1, .aload_n 0, (0, 0, 0), 0)) (by decide +kernel)) g0m hm_z
  replace hm_z := rn_iconst (w := 1) (am_cur_of (i := (236, 1, .iconst 1, (0, 0, 0), 0)) (by decide +kernel)) (by decide) hm_z
  replace hm_z := rn_callV (M' := am_m158) (o := 164) (ar := [.int 1]) (rest := []) (L := lv_args 0 [.ref 164, .int 1]) (am_cur_of (i := (237, 3, .invokevirtual 181, (158, 1665, 3), 0)) (by decide +kernel)) rfl rfl rfl rfl hm_z
  obtain ⟨r542_z, h543_z, q544_z, hm_z⟩ := hm_z
  obtain ⟨rfl, yq544_z⟩ := rp_wrong q544_z
  subst yq544_z
  replace hm_z : rn _ _ _ _ [.int 0] _ _ _ := hm_z
  replace hm_z := rn_iret (am_cur_of (i := (240, 1, .ireturn, (0, 0, 0), 0)) (by decide +kernel)) hm_z
  obtain ⟨e545_z, e546_z⟩ := hm_z
  subst e545_z e546_z
  exact Or.inr (Or.inl ⟨rfl, _, 1, by decide, K.1, K.2.trans R5, rfl, R6⟩)
theorem pl_law16_2 {T : Nat → Int32} {S x p : Int32} {n n' : Nat} {h h' g g' : am_H} {r r' : Option Value} {ls ls2_z : am_L} (R : rq T S x p 2 h g) (A : rp 2 h g) (B : rp_t h g) (ka : rg_v h 44 10 = 2) (kb : rg_v h 44 11 = 16) (kc : rg_v g 164 8 = 1) (kd : rg_v g 164 9 = 19) (g0_z : am_get ls 0 = some (.ref 44)) (g0m : am_get ls2_z 0 = some (.ref 164)) (hc_z : rn n am_m42 2 ls [] h r h') (hm_z : rn n' am_m157 85 ls2_z [] g r' g') : pm_Q T S x 2 h' g' r' := by
  have R5 := R.2.2.2.2.1
  have R6 := R.2.2.2.2.2.1
  replace hc_z := rn_aload_n (am_cur_of (i := (4, 1, .aload_n 0, (0, 0, 0), 0)) (by decide +kernel)) g0_z hc_z
  replace hc_z := rn_getI (v := 16) (am_cur_of (i := (5, 3, .getfield 91, (4, 11, 420), 0)) (by decide +kernel)) (by decide +kernel) kb hc_z
  replace hc_z := rn_bipush (w := 9) (am_cur_of (i := (8, 2, .bipush 9, (0, 0, 0), 0)) (by decide +kernel)) (by decide) hc_z
  replace hc_z := rn_isub (w := 7) (am_cur_of (i := (10, 1, .isub, (0, 0, 0), 0)) (by decide +kernel)) (by decide) hc_z
  replace hc_z := rn_istore_n (am_cur_of (i := (11, 1, .istore_n 1, (0, 0, 0), 0)) (by decide +kernel)) hc_z
  obtain ⟨_, s547_z, s548_z, g1_z, hc_z⟩ := hc_z
  replace g0_z := s547_z 0 _ (by decide) rfl g0_z
  clear s547_z s548_z
  replace hc_z := rn_aload_n (am_cur_of (i := (12, 1, .aload_n 0, (0, 0, 0), 0)) (by decide +kernel)) g0_z hc_z
  replace hc_z := rn_getI (v := 2) (am_cur_of (i := (13, 3, .getfield 60, (4, 10, 419), 0)) (by decide +kernel)) (by decide +kernel) ka hc_z
  replace hc_z := rn_iconst (w := 2) (am_cur_of (i := (16, 1, .iconst 2, (0, 0, 0), 0)) (by decide +kernel)) (by decide) hc_z
  replace hc_z := rn_cmpF (am_cur_of (i := (17, 3, .if_icmp .ne 12, (16, 0, 0), 0)) (by decide +kernel)) (by decide) hc_z
  replace hc_z := rn_iload_n (am_cur_of (i := (20, 1, .iload_n 1, (0, 0, 0), 0)) (by decide +kernel)) g1_z hc_z
  replace hc_z := rn_ifF (am_cur_of (i := (21, 3, .ifCond .lt 8, (16, 0, 0), 0)) (by decide +kernel)) (by decide) hc_z
  replace hc_z := rn_iload_n (am_cur_of (i := (24, 1, .iload_n 1, (0, 0, 0), 0)) (by decide +kernel)) g1_z hc_z
  replace hc_z := rn_iconst (w := 2) (am_cur_of (i := (25, 1, .iconst 2, (0, 0, 0), 0)) (by decide +kernel)) (by decide) hc_z
  replace hc_z := rn_cmpF (am_cur_of (i := (26, 3, .if_icmp .le 9, (20, 0, 0), 0)) (by decide +kernel)) (by decide) hc_z
  replace hc_z := rn_aload_n (am_cur_of (i := (29, 1, .aload_n 0, (0, 0, 0), 0)) (by decide +kernel)) g0_z hc_z
  replace hc_z := rn_iconst (w := 1) (am_cur_of (i := (30, 1, .iconst 1, (0, 0, 0), 0)) (by decide +kernel)) (by decide) hc_z
  replace hc_z := rn_callV (M' := am_m29) (o := 44) (ar := [.int 1]) (rest := []) (L := lv_args 0 [.ref 44, .int 1]) (am_cur_of (i := (31, 3, .invokevirtual 108, (29, 769, 3), 0)) (by decide +kernel)) rfl rfl rfl rfl hc_z
  obtain ⟨r549_z, h550_z, q551_z, hc_z⟩ := hc_z
  obtain ⟨rfl, yq551_z⟩ := rp_fail R.2.2.2.1 q551_z
  subst yq551_z
  replace hc_z : rn _ _ _ _ [] _ _ _ := hc_z
  have K := rs_stick (w := 1) (a := 42) (by decide) (by decide) rfl (by decide) rfl rfl hc_z
  replace hm_z := rn_aload_n (am_cur_of (i := (209, 1, .aload_n 0, (0, 0, 0), 0)) (by decide +kernel)) g0m hm_z
  replace hm_z := rn_getI (v := 1) (am_cur_of (i := (210, 3, .getfield 157, (12, 8, 1392), 0)) (by decide +kernel)) (by decide +kernel) kc hm_z
  replace hm_z := rn_iconst (w := 1) (am_cur_of (i := (213, 1, .iconst 1, (0, 0, 0), 0)) (by decide +kernel)) (by decide) hm_z
  replace hm_z := rn_cmpF (am_cur_of (i := (214, 3, .if_icmp .ne 21, (97, 0, 0), 0)) (by decide +kernel)) (by decide) hm_z
  replace hm_z := rn_aload_n (am_cur_of (i := (217, 1, .aload_n 0, (0, 0, 0), 0)) (by decide +kernel)) g0m hm_z
  replace hm_z := rn_getI (v := 19) (am_cur_of (i := (218, 3, .getfield 168, (12, 9, 1393), 0)) (by decide +kernel)) (by decide +kernel) kd hm_z
  replace hm_z := rn_bipush (w := 9) (am_cur_of (i := (221, 2, .bipush 9, (0, 0, 0), 0)) (by decide +kernel)) (by decide) hm_z
  replace hm_z := rn_cmpF (am_cur_of (i := (223, 3, .if_icmp .lt 12, (97, 0, 0), 0)) (by decide +kernel)) (by decide) hm_z
  replace hm_z := rn_aload_n (am_cur_of (i := (226, 1, .aload_n 0, (0, 0, 0), 0)) (by decide +kernel)) g0m hm_z
  replace hm_z := rn_getI (v := 19) (am_cur_of (i := (227, 3, .getfield 168, (12, 9, 1393), 0)) (by decide +kernel)) (by decide +kernel) kd hm_z
  replace hm_z := rn_bipush (w := 11) (am_cur_of (i := (230, 2, .bipush 11, (0, 0, 0), 0)) (by decide +kernel)) (by decide) hm_z
  replace hm_z := rn_cmpF (am_cur_of (i := (232, 3, .if_icmp .le 9, (101, 0, 0), 0)) (by decide +kernel)) (by decide) hm_z
  replace hm_z := rn_aload_n (am_cur_of (i := (235, 1, .aload_n 0, (0, 0, 0), 0)) (by decide +kernel)) g0m hm_z
  replace hm_z := rn_iconst (w := 1) (am_cur_of (i := (236, 1, .iconst 1, (0, 0, 0), 0)) (by decide +kernel)) (by decide) hm_z
  replace hm_z := rn_callV (M' := am_m158) (o := 164) (ar := [.int 1]) (rest := []) (L := lv_args 0 [.ref 164, .int 1]) (am_cur_of (i := (237, 3, .invokevirtual 181, (158, 1665, 3), 0)) (by decide +kernel)) rfl rfl rfl rfl hm_z
  obtain ⟨r552_z, h553_z, q554_z, hm_z⟩ := hm_z
  obtain ⟨rfl, yq554_z⟩ := rp_wrong q554_z
  subst yq554_z
  replace hm_z : rn _ _ _ _ [.int 0] _ _ _ := hm_z
  replace hm_z := rn_iret (am_cur_of (i := (240, 1, .ireturn, (0, 0, 0), 0)) (by decide +kernel)) hm_z
  obtain ⟨e555_z, e556_z⟩ := hm_z
  subst e555_z e556_z
  exact Or.inr (Or.inl ⟨rfl, _, 1, by decide, K.1, K.2.trans R5, rfl, R6⟩)
theorem pl_law_2 {T : Nat → Int32} {S x p : Int32} {n n' : Nat} {h h' g g' : am_H} {r r' : Option Value} {ls2_z : am_L} (R : rq T S x p 2 h g) (A : rp 2 h g) (B : rp_t h g) (g0m : am_get ls2_z 0 = some (.ref 164)) (hc_z : rn n am_m42 0 (lv_args 0 [.ref 44]) [] h r h') (hm_z : rn n' am_m157 83 ls2_z [] g r' g') : pm_Q T S x 2 h' g' r' := by
  have g0_z : am_get (lv_args 0 [.ref 44]) 0 = some (.ref 44) := rfl
  replace hc_z := rn_aload_n (am_cur_of (i := (0, 1, .aload_n 0, (0, 0, 0), 0)) (by decide +kernel)) g0_z hc_z
  replace hc_z := rn_callV (M' := am_m19) (o := 44) (ar := []) (rest := []) (L := lv_args 0 [.ref 44]) (am_cur_of (i := (1, 3, .invokevirtual 57, (19, 727, 3), 0)) (by decide +kernel)) rfl rfl rfl rfl hc_z
  obtain ⟨r557_z, h558_z, q559_z, hc_z⟩ := hc_z
  have vo := rn_void rfl q559_z
  subst vo
  replace hm_z := rn_aload_n (am_cur_of (i := (205, 1, .aload_n 0, (0, 0, 0), 0)) (by decide +kernel)) g0m hm_z
  replace hm_z := rn_callV (M' := am_m151) (o := 164) (ar := []) (rest := []) (L := lv_args 0 [.ref 164]) (am_cur_of (i := (206, 3, .invokevirtual 191, (151, 1636, 3), 0)) (by decide +kernel)) rfl rfl rfl rfl hm_z
  obtain ⟨r560_z, h561_z, q562_z, hm_z⟩ := hm_z
  have vo := rn_void rfl q562_z
  subst vo
  obtain ⟨-, -, x2_z, p2_z, R2, le2_z, t5_z, t6_z⟩ := pr_tok (rq_0 R) q559_z q562_z
  have A2 := rp_x (by decide) A (rx_C_f t5_z) (rx_M_f t6_z)
  have B2 := rp_tk B (rg_v_fr t5_z (by decide)) (fun k => rg_v_fr t6_z (rg_v_in (by decide) k)) (rx_M_f t6_z)
  have px := R2.2.2.2.2.2.2.2.1
  replace hm_z : rn _ _ _ _ [] _ _ _ := hm_z
  replace hc_z : rn _ _ _ _ [] _ _ _ := hc_z
  refine pm_le (x := x2_z) (by omega) ?_
  by_cases ka : rg_v h558_z 44 10 = 2
  · rcases tk_w17 R2.2.2.2.2.2.2.2.2.2 ka with ⟨kb, kc, kd⟩ | ⟨kb, kc, kd⟩ | ⟨kb, kc, kd⟩ | ⟨kb, kc, kd⟩ | ⟨kb, kc, kd⟩ | ⟨kb, kc, kd⟩ | ⟨kb, kc, kd⟩ | ⟨kb, kc, kd⟩ | ⟨kb, kc, kd⟩ | ⟨kb, kc, kd⟩ | ⟨kb, kc, kd⟩ | ⟨kb, kc, kd⟩ | ⟨kb, kc, kd⟩ | ⟨kb, kc, kd⟩ | ⟨kb, kc, kd⟩ | ⟨kb, kc, kd⟩ | ⟨kb, kc, kd⟩
    · exact pl_law0_2 R2 A2 B2 ka kb kc kd g0_z g0m hc_z hm_z
    · exact pl_law1_2 R2 A2 B2 ka kb kc kd g0_z g0m hc_z hm_z
    · exact pl_law2_2 R2 A2 B2 ka kb kc kd g0_z g0m hc_z hm_z
    · exact pl_law3_2 R2 A2 B2 ka kb kc kd g0_z g0m hc_z hm_z
    · exact pl_law4_2 R2 A2 B2 ka kb kc kd g0_z g0m hc_z hm_z
    · exact pl_law5_2 R2 A2 B2 ka kb kc kd g0_z g0m hc_z hm_z
    · exact pl_law6_2 R2 A2 B2 ka kb kc kd g0_z g0m hc_z hm_z
    · exact pl_law7_2 R2 A2 B2 ka kb kc kd g0_z g0m hc_z hm_z
    · exact pl_law8_2 R2 A2 B2 ka kb kc kd g0_z g0m hc_z hm_z
    · exact pl_law9_2 R2 A2 B2 ka kb kc kd g0_z g0m hc_z hm_z
    · exact pl_law10_2 R2 A2 B2 ka kb kc kd g0_z g0m hc_z hm_z
    · exact pl_law11_2 R2 A2 B2 ka kb kc kd g0_z g0m hc_z hm_z
    · exact pl_law12_2 R2 A2 B2 ka kb kc kd g0_z g0m hc_z hm_z
    · exact pl_law13_2 R2 A2 B2 ka kb kc kd g0_z g0m hc_z hm_z
    · exact pl_law14_2 R2 A2 B2 ka kb kc kd g0_z g0m hc_z hm_z
    · exact pl_law15_2 R2 A2 B2 ka kb kc kd g0_z g0m hc_z hm_z
    · exact pl_law16_2 R2 A2 B2 ka kb kc kd g0_z g0m hc_z hm_z
  · exact pl_lawn_2 R2 A2 B2 ka g0_z g0m hc_z hm_z
