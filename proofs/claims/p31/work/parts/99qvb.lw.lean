/-! ===== THE LOOP OF A LAW, 23 (wip/r/gen99qv.py) ===== -/
theorem lw_loop23 {T : Nat → Int32} {S lw x0_z : Int32} {h' g' : am_H} {r r' : Option Value} : ∀ (m : Nat) (i wt x p : Int32) (n' : Nat) (h g : am_H) (ls ls2_z : am_L), 0 ≤ i.toInt → i.toInt ≤ p.toInt → x0_z.toInt ≤ p.toInt → rq T S x p 23 h g → rp 23 h g → rp_t h g → rs 23 h g → rs_wt wt g → am_get ls 0 = some (.ref 44) → am_get ls 1 = some (.int lw) → am_get ls 2 = some (.int wt) → am_get ls 3 = some (.int i) → am_get ls2_z 0 = some (.ref 164) → rn m am_m42 58 ls [] h r h' → rn n' am_m170 15 ls2_z [] g r' g' → lw_Q T S x0_z 23 h' g' r' := by
  intro m
  induction m with
  | zero => intro i wt x p n' h g ls ls2_z i0_z ip xp R A B Z W g0_z g1_z g2_z g3_z g0m hc_z hm_z; exact absurd hc_z rn_0
  | succ m ih_z =>
    intro i wt x p n' h g ls ls2_z i0_z ip xp R A B Z W g0_z g1_z g2_z g3_z g0m hc_z hm_z
    have xS := R.1.2.2.2.2.1
    have S7 := R.1.2.2.2.2.2.1
    have p0_z := R.2.2.2.2.2.2.1
    have px := R.2.2.2.2.2.2.2.1
    have pk := R.2.2.2.2.2.2.2.2.1
    have R4 := R.2.2.2.1
    have R5 := R.2.2.2.2.1
    have R6 := R.2.2.2.2.2.1
    have ES : rg_v h 44 5 = S := R.1.2.1
    rcases W with ⟨rfl, w1_z, w2_z⟩ | ⟨rfl, w1_z, w2_z⟩ | ⟨rfl, w0_z⟩
    · replace hm_z := sr_wants w1_z g0m hm_z
      replace hc_z := rn_iload_n (am_cur_of (i := (99, 1, .iload_n 3, (0, 0, 0), 0)) (by decide +kernel)) g3_z hc_z
      replace hc_z := rn_aload_n (am_cur_of (i := (100, 1, .aload_n 0, (0, 0, 0), 0)) (by decide +kernel)) g0_z hc_z
      replace hc_z := rn_getI (v := S) (am_cur_of (i := (101, 3, .getfield 37, (4, 5, 414), 0)) (by decide +kernel)) (by decide +kernel) ES hc_z
      replace hc_z := rn_cmp (am_cur_of (i := (104, 3, .if_icmp .gt 39, (80, 0, 0), 0)) (by decide +kernel)) hc_z
      rcases hc_z with ⟨b4078_z, hc_z⟩ | ⟨b4078_z, hc_z⟩
      · replace b4078_z : S.toInt < i.toInt := b4078_z
        omega
      · replace b4078_z : i.toInt ≤ S.toInt := b4078_z
        replace hc_z := rn_aload_n (am_cur_of (i := (107, 1, .aload_n 0, (0, 0, 0), 0)) (by decide +kernel)) g0_z hc_z
        replace hc_z := rn_getI (v := 0) (am_cur_of (i := (108, 3, .getfield 51, (4, 1, 408), 0)) (by decide +kernel)) (by decide +kernel) R4 hc_z
        replace hc_z := rn_ifF (am_cur_of (i := (111, 3, .ifCond .ne 32, (80, 0, 0), 0)) (by decide +kernel)) (by decide) hc_z
        replace hc_z := rn_iload_n (am_cur_of (i := (114, 1, .iload_n 2, (0, 0, 0), 0)) (by decide +kernel)) g2_z hc_z
        replace hc_z := rn_iconst (w := 3) (am_cur_of (i := (115, 1, .iconst 3, (0, 0, 0), 0)) (by decide +kernel)) (by decide) hc_z
        replace hc_z := rn_cmpF (am_cur_of (i := (116, 3, .if_icmp .eq 27, (80, 0, 0), 0)) (by decide +kernel)) (by decide) hc_z
        replace hc_z := rn_iload_n (am_cur_of (i := (119, 1, .iload_n 2, (0, 0, 0), 0)) (by decide +kernel)) g2_z hc_z
        replace hc_z := rn_iconst (w := 2) (am_cur_of (i := (120, 1, .iconst 2, (0, 0, 0), 0)) (by decide +kernel)) (by decide) hc_z
        replace hc_z := rn_cmpT (am_cur_of (i := (121, 3, .if_icmp .ne 10, (74, 0, 0), 0)) (by decide +kernel)) (by decide) hc_z
        replace hc_z := rn_aload_n (am_cur_of (i := (131, 1, .aload_n 0, (0, 0, 0), 0)) (by decide +kernel)) g0_z hc_z
        replace hc_z := rn_iload_n (am_cur_of (i := (132, 1, .iload_n 2, (0, 0, 0), 0)) (by decide +kernel)) g2_z hc_z
        replace hc_z := rn_callV (M' := am_m51) (o := 44) (ar := [.int 0]) (rest := []) (L := lv_args 0 [.ref 44, .int 0]) (am_cur_of (i := (133, 3, .invokevirtual 261, (51, 860, 3), 0)) (by decide +kernel)) rfl rfl rfl rfl hc_z
        obtain ⟨r4079_z, h4080_z, q4081_z, hc_z⟩ := hc_z
        replace hm_z := rn_aload_n (am_cur_of (i := (55, 1, .aload_n 0, (0, 0, 0), 0)) (by decide +kernel)) g0m hm_z
        replace hm_z := rn_callV (M' := am_m172) (o := 164) (ar := []) (rest := []) (L := lv_args 0 [.ref 164]) (am_cur_of (i := (56, 3, .invokevirtual 321, (172, 1719, 3), 0)) (by decide +kernel)) rfl rfl rfl rfl hm_z
        obtain ⟨r4082_z, h4083_z, q4084_z, hm_z⟩ := hm_z
        rcases rv_val230 R A B Z w1_z w2_z q4081_z q4084_z with ⟨wn, x2_z, p2_z, rfl, rfl, R2, le2_z, A2, B2, Z2, W2⟩ | ⟨rfl, FF⟩
        · have kd : ¬ rg_v h 44 10 = 0 := fun q => absurd (R2.2.2.2.1.symm.trans (rv_end R4 q q4081_z)) (by decide)
          have pl := pk.resolve_left kd
          have e1_z := rt_c1 i0_z (by omega)
          replace hm_z : rn _ _ _ _ [.int 1] _ _ _ := hm_z
          replace hm_z := rn_ifF (am_cur_of (i := (59, 3, .ifCond .eq 13, (35, 0, 0), 0)) (by decide +kernel)) (by decide) hm_z
          replace hm_z := rn_goto (am_cur_of (i := (62, 3, .goto (-37), (15, 0, 0), 0)) (by decide +kernel)) hm_z
          replace hc_z : rn _ _ _ _ [.int wn] _ _ _ := hc_z
          replace hc_z := rn_istore_n (am_cur_of (i := (136, 1, .istore_n 2, (0, 0, 0), 0)) (by decide +kernel)) hc_z
          obtain ⟨_, s4085_z, s4086_z, g2_z, hc_z⟩ := hc_z
          replace g0_z := s4085_z 0 _ (by decide) rfl g0_z
          replace g1_z := s4085_z 1 _ (by decide) rfl g1_z
          replace g3_z := s4085_z 3 _ (by decide) rfl g3_z
          clear s4085_z s4086_z
          replace hc_z := rn_iinc (w := i + 1) (am_cur_of (i := (137, 3, .iinc 3 1, (0, 0, 0), 0)) (by decide +kernel)) g3_z rfl hc_z
          obtain ⟨_, s4087_z, s4088_z, g3_z, hc_z⟩ := hc_z
          replace g0_z := s4087_z 0 _ (by decide) rfl g0_z
          replace g1_z := s4087_z 1 _ (by decide) rfl g1_z
          replace g2_z := s4087_z 2 _ (by decide) rfl g2_z
          clear s4087_z s4088_z
          replace hc_z := rn_gotoL (am_cur_of (i := (140, 3, .goto (-41), (58, 0, 0), 0)) (by decide +kernel)) hc_z
          exact ih_z (i + 1) wn x2_z p2_z _ h4080_z h4083_z _ _ (by omega) (by omega) (by omega) R2 A2 B2 Z2 W2 g0_z g1_z g2_z g3_z g0m hc_z hm_z
        · obtain ⟨wv, v0_z, f1_z, f2_z, f3_z, f4_z⟩ := FF
          have K := rs_stick (a := 42) (by decide) (by decide) rfl v0_z f1_z f2_z hc_z
          replace hm_z : rn _ _ _ _ [.int 0] _ _ _ := hm_z
          replace hm_z := rn_ifT (am_cur_of (i := (59, 3, .ifCond .eq 13, (35, 0, 0), 0)) (by decide +kernel)) (by decide) hm_z
          replace hm_z := rn_iconst (w := 0) (am_cur_of (i := (72, 1, .iconst 0, (0, 0, 0), 0)) (by decide +kernel)) (by decide) hm_z
          replace hm_z := rn_iret (am_cur_of (i := (73, 1, .ireturn, (0, 0, 0), 0)) (by decide +kernel)) hm_z
          obtain ⟨e4089_z, e4090_z⟩ := hm_z
          subst e4089_z e4090_z
          exact Or.inr (Or.inl ⟨rfl, p, wv, v0_z, K.1, K.2, f3_z, f4_z⟩)
    · replace hm_z := sr_wants w1_z g0m hm_z
      replace hc_z := rn_iload_n (am_cur_of (i := (99, 1, .iload_n 3, (0, 0, 0), 0)) (by decide +kernel)) g3_z hc_z
      replace hc_z := rn_aload_n (am_cur_of (i := (100, 1, .aload_n 0, (0, 0, 0), 0)) (by decide +kernel)) g0_z hc_z
      replace hc_z := rn_getI (v := S) (am_cur_of (i := (101, 3, .getfield 37, (4, 5, 414), 0)) (by decide +kernel)) (by decide +kernel) ES hc_z
      replace hc_z := rn_cmp (am_cur_of (i := (104, 3, .if_icmp .gt 39, (80, 0, 0), 0)) (by decide +kernel)) hc_z
      rcases hc_z with ⟨b4091_z, hc_z⟩ | ⟨b4091_z, hc_z⟩
      · replace b4091_z : S.toInt < i.toInt := b4091_z
        omega
      · replace b4091_z : i.toInt ≤ S.toInt := b4091_z
        replace hc_z := rn_aload_n (am_cur_of (i := (107, 1, .aload_n 0, (0, 0, 0), 0)) (by decide +kernel)) g0_z hc_z
        replace hc_z := rn_getI (v := 0) (am_cur_of (i := (108, 3, .getfield 51, (4, 1, 408), 0)) (by decide +kernel)) (by decide +kernel) R4 hc_z
        replace hc_z := rn_ifF (am_cur_of (i := (111, 3, .ifCond .ne 32, (80, 0, 0), 0)) (by decide +kernel)) (by decide) hc_z
        replace hc_z := rn_iload_n (am_cur_of (i := (114, 1, .iload_n 2, (0, 0, 0), 0)) (by decide +kernel)) g2_z hc_z
        replace hc_z := rn_iconst (w := 3) (am_cur_of (i := (115, 1, .iconst 3, (0, 0, 0), 0)) (by decide +kernel)) (by decide) hc_z
        replace hc_z := rn_cmpF (am_cur_of (i := (116, 3, .if_icmp .eq 27, (80, 0, 0), 0)) (by decide +kernel)) (by decide) hc_z
        replace hc_z := rn_iload_n (am_cur_of (i := (119, 1, .iload_n 2, (0, 0, 0), 0)) (by decide +kernel)) g2_z hc_z
        replace hc_z := rn_iconst (w := 2) (am_cur_of (i := (120, 1, .iconst 2, (0, 0, 0), 0)) (by decide +kernel)) (by decide) hc_z
        replace hc_z := rn_cmpT (am_cur_of (i := (121, 3, .if_icmp .ne 10, (74, 0, 0), 0)) (by decide +kernel)) (by decide) hc_z
        replace hc_z := rn_aload_n (am_cur_of (i := (131, 1, .aload_n 0, (0, 0, 0), 0)) (by decide +kernel)) g0_z hc_z
        replace hc_z := rn_iload_n (am_cur_of (i := (132, 1, .iload_n 2, (0, 0, 0), 0)) (by decide +kernel)) g2_z hc_z
        replace hc_z := rn_callV (M' := am_m51) (o := 44) (ar := [.int 1]) (rest := []) (L := lv_args 0 [.ref 44, .int 1]) (am_cur_of (i := (133, 3, .invokevirtual 261, (51, 860, 3), 0)) (by decide +kernel)) rfl rfl rfl rfl hc_z
        obtain ⟨r4092_z, h4093_z, q4094_z, hc_z⟩ := hc_z
        replace hm_z := rn_aload_n (am_cur_of (i := (55, 1, .aload_n 0, (0, 0, 0), 0)) (by decide +kernel)) g0m hm_z
        replace hm_z := rn_callV (M' := am_m172) (o := 164) (ar := []) (rest := []) (L := lv_args 0 [.ref 164]) (am_cur_of (i := (56, 3, .invokevirtual 321, (172, 1719, 3), 0)) (by decide +kernel)) rfl rfl rfl rfl hm_z
        obtain ⟨r4095_z, h4096_z, q4097_z, hm_z⟩ := hm_z
        rcases rv_val231 R A B Z w1_z w2_z q4094_z q4097_z with ⟨wn, x2_z, p2_z, rfl, rfl, R2, le2_z, A2, B2, Z2, W2⟩ | ⟨rfl, FF⟩
        · have kd : ¬ rg_v h 44 10 = 0 := fun q => absurd (R2.2.2.2.1.symm.trans (rv_end R4 q q4094_z)) (by decide)
          have pl := pk.resolve_left kd
          have e1_z := rt_c1 i0_z (by omega)
          replace hm_z : rn _ _ _ _ [.int 1] _ _ _ := hm_z
          replace hm_z := rn_ifF (am_cur_of (i := (59, 3, .ifCond .eq 13, (35, 0, 0), 0)) (by decide +kernel)) (by decide) hm_z
          replace hm_z := rn_goto (am_cur_of (i := (62, 3, .goto (-37), (15, 0, 0), 0)) (by decide +kernel)) hm_z
          replace hc_z : rn _ _ _ _ [.int wn] _ _ _ := hc_z
          replace hc_z := rn_istore_n (am_cur_of (i := (136, 1, .istore_n 2, (0, 0, 0), 0)) (by decide +kernel)) hc_z
          obtain ⟨_, s4098_z, s4099_z, g2_z, hc_z⟩ := hc_z
          replace g0_z := s4098_z 0 _ (by decide) rfl g0_z
          replace g1_z := s4098_z 1 _ (by decide) rfl g1_z
          replace g3_z := s4098_z 3 _ (by decide) rfl g3_z
          clear s4098_z s4099_z
          replace hc_z := rn_iinc (w := i + 1) (am_cur_of (i := (137, 3, .iinc 3 1, (0, 0, 0), 0)) (by decide +kernel)) g3_z rfl hc_z
          obtain ⟨_, s4100_z, s4101_z, g3_z, hc_z⟩ := hc_z
          replace g0_z := s4100_z 0 _ (by decide) rfl g0_z
          replace g1_z := s4100_z 1 _ (by decide) rfl g1_z
          replace g2_z := s4100_z 2 _ (by decide) rfl g2_z
          clear s4100_z s4101_z
          replace hc_z := rn_gotoL (am_cur_of (i := (140, 3, .goto (-41), (58, 0, 0), 0)) (by decide +kernel)) hc_z
          exact ih_z (i + 1) wn x2_z p2_z _ h4093_z h4096_z _ _ (by omega) (by omega) (by omega) R2 A2 B2 Z2 W2 g0_z g1_z g2_z g3_z g0m hc_z hm_z
        · obtain ⟨wv, v0_z, f1_z, f2_z, f3_z, f4_z⟩ := FF
          have K := rs_stick (a := 42) (by decide) (by decide) rfl v0_z f1_z f2_z hc_z
          replace hm_z : rn _ _ _ _ [.int 0] _ _ _ := hm_z
          replace hm_z := rn_ifT (am_cur_of (i := (59, 3, .ifCond .eq 13, (35, 0, 0), 0)) (by decide +kernel)) (by decide) hm_z
          replace hm_z := rn_iconst (w := 0) (am_cur_of (i := (72, 1, .iconst 0, (0, 0, 0), 0)) (by decide +kernel)) (by decide) hm_z
          replace hm_z := rn_iret (am_cur_of (i := (73, 1, .ireturn, (0, 0, 0), 0)) (by decide +kernel)) hm_z
          obtain ⟨e4102_z, e4103_z⟩ := hm_z
          subst e4102_z e4103_z
          exact Or.inr (Or.inl ⟨rfl, p, wv, v0_z, K.1, K.2, f3_z, f4_z⟩)
    · obtain ⟨np, op, z1_z, z2_z, z3_z, z4_z, z5_z, z6_z, z7_z, z8_z, z9_z, z10_z⟩ := id Z
      by_cases kk : (rg_v g 164 8 = 4 ∧ rg_v g 164 9 = 59) ∧ op = 0
      · obtain ⟨⟨k4_z, k59_z⟩, rfl⟩ := kk
        replace hm_z := sr_exit w0_z z5_z k4_z k59_z g0m hm_z
        have ks := tk_semiM R.2.2.2.2.2.2.2.2.2 k4_z k59_z
        replace hc_z := rn_iload_n (am_cur_of (i := (99, 1, .iload_n 3, (0, 0, 0), 0)) (by decide +kernel)) g3_z hc_z
        replace hc_z := rn_aload_n (am_cur_of (i := (100, 1, .aload_n 0, (0, 0, 0), 0)) (by decide +kernel)) g0_z hc_z
        replace hc_z := rn_getI (v := S) (am_cur_of (i := (101, 3, .getfield 37, (4, 5, 414), 0)) (by decide +kernel)) (by decide +kernel) ES hc_z
        replace hc_z := rn_cmp (am_cur_of (i := (104, 3, .if_icmp .gt 39, (80, 0, 0), 0)) (by decide +kernel)) hc_z
        rcases hc_z with ⟨b4104_z, hc_z⟩ | ⟨b4104_z, hc_z⟩
        · replace b4104_z : S.toInt < i.toInt := b4104_z
          omega
        · replace b4104_z : i.toInt ≤ S.toInt := b4104_z
          replace hc_z := rn_aload_n (am_cur_of (i := (107, 1, .aload_n 0, (0, 0, 0), 0)) (by decide +kernel)) g0_z hc_z
          replace hc_z := rn_getI (v := 0) (am_cur_of (i := (108, 3, .getfield 51, (4, 1, 408), 0)) (by decide +kernel)) (by decide +kernel) R4 hc_z
          replace hc_z := rn_ifF (am_cur_of (i := (111, 3, .ifCond .ne 32, (80, 0, 0), 0)) (by decide +kernel)) (by decide) hc_z
          replace hc_z := rn_iload_n (am_cur_of (i := (114, 1, .iload_n 2, (0, 0, 0), 0)) (by decide +kernel)) g2_z hc_z
          replace hc_z := rn_iconst (w := 3) (am_cur_of (i := (115, 1, .iconst 3, (0, 0, 0), 0)) (by decide +kernel)) (by decide) hc_z
          replace hc_z := rn_cmpF (am_cur_of (i := (116, 3, .if_icmp .eq 27, (80, 0, 0), 0)) (by decide +kernel)) (by decide) hc_z
          replace hc_z := rn_iload_n (am_cur_of (i := (119, 1, .iload_n 2, (0, 0, 0), 0)) (by decide +kernel)) g2_z hc_z
          replace hc_z := rn_iconst (w := 2) (am_cur_of (i := (120, 1, .iconst 2, (0, 0, 0), 0)) (by decide +kernel)) (by decide) hc_z
          replace hc_z := rn_cmpF (am_cur_of (i := (121, 3, .if_icmp .ne 10, (74, 0, 0), 0)) (by decide +kernel)) (by decide) hc_z
          replace hc_z := rn_aload_n (am_cur_of (i := (124, 1, .aload_n 0, (0, 0, 0), 0)) (by decide +kernel)) g0_z hc_z
          replace hc_z := rn_callV (M' := am_m44) (o := 44) (ar := []) (rest := []) (L := lv_args 0 [.ref 44]) (am_cur_of (i := (125, 3, .invokevirtual 257, (44, 830, 3), 0)) (by decide +kernel)) rfl rfl rfl rfl hc_z
          obtain ⟨r4105_z, h4106_z, q4107_z, hc_z⟩ := hc_z
          obtain ⟨rfl, yq⟩ := rj_semi ks.1 ks.2 z4_z q4107_z
          replace yq := yq.symm
          subst yq
          replace hc_z : rn _ _ _ _ [.int 3] _ _ _ := hc_z
          replace hc_z := rn_goto (am_cur_of (i := (128, 3, .goto 8, (77, 0, 0), 0)) (by decide +kernel)) hc_z
          replace hc_z := rn_istore_n (am_cur_of (i := (136, 1, .istore_n 2, (0, 0, 0), 0)) (by decide +kernel)) hc_z
          obtain ⟨_, s4108_z, s4109_z, g2_z, hc_z⟩ := hc_z
          replace g0_z := s4108_z 0 _ (by decide) rfl g0_z
          replace g1_z := s4108_z 1 _ (by decide) rfl g1_z
          replace g3_z := s4108_z 3 _ (by decide) rfl g3_z
          clear s4108_z s4109_z
          replace hc_z := rn_iinc (w := i + 1) (am_cur_of (i := (137, 3, .iinc 3 1, (0, 0, 0), 0)) (by decide +kernel)) g3_z rfl hc_z
          obtain ⟨_, s4110_z, s4111_z, g3_z, hc_z⟩ := hc_z
          replace g0_z := s4110_z 0 _ (by decide) rfl g0_z
          replace g1_z := s4110_z 1 _ (by decide) rfl g1_z
          replace g2_z := s4110_z 2 _ (by decide) rfl g2_z
          clear s4110_z s4111_z
          replace hc_z := rn_goto (am_cur_of (i := (140, 3, .goto (-41), (58, 0, 0), 0)) (by decide +kernel)) hc_z
          replace hc_z := rn_iload_n (am_cur_of (i := (99, 1, .iload_n 3, (0, 0, 0), 0)) (by decide +kernel)) g3_z hc_z
          replace hc_z := rn_aload_n (am_cur_of (i := (100, 1, .aload_n 0, (0, 0, 0), 0)) (by decide +kernel)) g0_z hc_z
          replace hc_z := rn_getI (v := S) (am_cur_of (i := (101, 3, .getfield 37, (4, 5, 414), 0)) (by decide +kernel)) (by decide +kernel) ES hc_z
          replace hc_z := rn_cmp (am_cur_of (i := (104, 3, .if_icmp .gt 39, (80, 0, 0), 0)) (by decide +kernel)) hc_z
          rcases hc_z with ⟨b4112_z, hc_z⟩ | ⟨b4112_z, hc_z⟩
          · replace b4112_z : S.toInt < (i + 1).toInt := b4112_z
            obtain ⟨e1_z, R2, A2, B2⟩ := lw_t23 R A B Z g0_z g1_z g0m hc_z hm_z
            exact Or.inl ⟨e1_z, x, p, R2, by omega, A2, B2⟩
          · replace b4112_z : (i + 1).toInt ≤ S.toInt := b4112_z
            replace hc_z := rn_aload_n (am_cur_of (i := (107, 1, .aload_n 0, (0, 0, 0), 0)) (by decide +kernel)) g0_z hc_z
            replace hc_z := rn_getI (v := 0) (am_cur_of (i := (108, 3, .getfield 51, (4, 1, 408), 0)) (by decide +kernel)) (by decide +kernel) R4 hc_z
            replace hc_z := rn_ifF (am_cur_of (i := (111, 3, .ifCond .ne 32, (80, 0, 0), 0)) (by decide +kernel)) (by decide) hc_z
            replace hc_z := rn_iload_n (am_cur_of (i := (114, 1, .iload_n 2, (0, 0, 0), 0)) (by decide +kernel)) g2_z hc_z
            replace hc_z := rn_iconst (w := 3) (am_cur_of (i := (115, 1, .iconst 3, (0, 0, 0), 0)) (by decide +kernel)) (by decide) hc_z
            replace hc_z := rn_cmpT (am_cur_of (i := (116, 3, .if_icmp .eq 27, (80, 0, 0), 0)) (by decide +kernel)) (by decide) hc_z
            obtain ⟨e1_z, R2, A2, B2⟩ := lw_t23 R A B Z g0_z g1_z g0m hc_z hm_z
            exact Or.inl ⟨e1_z, x, p, R2, by omega, A2, B2⟩
      · replace hm_z := (show rn n' am_m170 32 ls2_z [] g r' g' from by
          by_cases k9_z : rg_v g 164 8 = 4 ∧ rg_v g 164 9 = 59
          · exact sr_signsO w0_z z5_z (by
              have : ¬ op = 0 := fun q => kk ⟨k9_z, q⟩
              by_cases q : op.toInt = 0
              · exact absurd (Int32.toInt_inj.mp (q.trans (by decide))) this
              · omega) g0m hm_z
          · exact sr_signsN w0_z k9_z g0m hm_z)
        replace hc_z := rn_iload_n (am_cur_of (i := (99, 1, .iload_n 3, (0, 0, 0), 0)) (by decide +kernel)) g3_z hc_z
        replace hc_z := rn_aload_n (am_cur_of (i := (100, 1, .aload_n 0, (0, 0, 0), 0)) (by decide +kernel)) g0_z hc_z
        replace hc_z := rn_getI (v := S) (am_cur_of (i := (101, 3, .getfield 37, (4, 5, 414), 0)) (by decide +kernel)) (by decide +kernel) ES hc_z
        replace hc_z := rn_cmp (am_cur_of (i := (104, 3, .if_icmp .gt 39, (80, 0, 0), 0)) (by decide +kernel)) hc_z
        rcases hc_z with ⟨b4113_z, hc_z⟩ | ⟨b4113_z, hc_z⟩
        · replace b4113_z : S.toInt < i.toInt := b4113_z
          omega
        · replace b4113_z : i.toInt ≤ S.toInt := b4113_z
          replace hc_z := rn_aload_n (am_cur_of (i := (107, 1, .aload_n 0, (0, 0, 0), 0)) (by decide +kernel)) g0_z hc_z
          replace hc_z := rn_getI (v := 0) (am_cur_of (i := (108, 3, .getfield 51, (4, 1, 408), 0)) (by decide +kernel)) (by decide +kernel) R4 hc_z
          replace hc_z := rn_ifF (am_cur_of (i := (111, 3, .ifCond .ne 32, (80, 0, 0), 0)) (by decide +kernel)) (by decide) hc_z
          replace hc_z := rn_iload_n (am_cur_of (i := (114, 1, .iload_n 2, (0, 0, 0), 0)) (by decide +kernel)) g2_z hc_z
          replace hc_z := rn_iconst (w := 3) (am_cur_of (i := (115, 1, .iconst 3, (0, 0, 0), 0)) (by decide +kernel)) (by decide) hc_z
          replace hc_z := rn_cmpF (am_cur_of (i := (116, 3, .if_icmp .eq 27, (80, 0, 0), 0)) (by decide +kernel)) (by decide) hc_z
          replace hc_z := rn_iload_n (am_cur_of (i := (119, 1, .iload_n 2, (0, 0, 0), 0)) (by decide +kernel)) g2_z hc_z
          replace hc_z := rn_iconst (w := 2) (am_cur_of (i := (120, 1, .iconst 2, (0, 0, 0), 0)) (by decide +kernel)) (by decide) hc_z
          replace hc_z := rn_cmpF (am_cur_of (i := (121, 3, .if_icmp .ne 10, (74, 0, 0), 0)) (by decide +kernel)) (by decide) hc_z
          replace hc_z := rn_aload_n (am_cur_of (i := (124, 1, .aload_n 0, (0, 0, 0), 0)) (by decide +kernel)) g0_z hc_z
          replace hc_z := rn_callV (M' := am_m44) (o := 44) (ar := []) (rest := []) (L := lv_args 0 [.ref 44]) (am_cur_of (i := (125, 3, .invokevirtual 257, (44, 830, 3), 0)) (by decide +kernel)) rfl rfl rfl rfl hc_z
          obtain ⟨r4114_z, h4115_z, q4116_z, hc_z⟩ := hc_z
          replace hm_z := rn_aload_n (am_cur_of (i := (65, 1, .aload_n 0, (0, 0, 0), 0)) (by decide +kernel)) g0m hm_z
          replace hm_z := rn_callV (M' := am_m178) (o := 164) (ar := []) (rest := []) (L := lv_args 0 [.ref 164]) (am_cur_of (i := (66, 3, .invokevirtual 324, (178, 1743, 3), 0)) (by decide +kernel)) rfl rfl rfl rfl hm_z
          obtain ⟨r4117_z, h4118_z, q4119_z, hm_z⟩ := hm_z
          rcases rj_all23 R A B Z w0_z q4116_z q4119_z with (⟨wn, x2_z, p2_z, e3_z, rfl, R2, le2_z, A2, B2, Z2, W2⟩ | ⟨rfl, FF⟩) | ⟨e3_z, yh, e14_z, rfl, yg⟩
          · have kd : ¬ rg_v h 44 10 = 0 := by
              intro q
              rcases rj_end R4 q q4116_z with q2_z | q2_z
              · exact absurd (R2.2.2.2.1.symm.trans q2_z) (by decide)
              · rw [e3_z] at q2_z
                obtain rfl : wn = 3 := by cases q2_z; rfl
                rcases W2 with ⟨q3_z, -⟩ | ⟨q3_z, -⟩ | ⟨q3_z, -⟩ <;> exact absurd q3_z (by decide)
            subst e3_z
            have pl := pk.resolve_left kd
            have e1_z := rt_c1 i0_z (by omega)
            replace hm_z : rn _ _ _ _ [.int 1] _ _ _ := hm_z
            replace hm_z := rn_ifT (am_cur_of (i := (69, 3, .ifCond .ne (-44), (15, 0, 0), 0)) (by decide +kernel)) (by decide) hm_z
            replace hc_z : rn _ _ _ _ [.int wn] _ _ _ := hc_z
            replace hc_z := rn_goto (am_cur_of (i := (128, 3, .goto 8, (77, 0, 0), 0)) (by decide +kernel)) hc_z
            replace hc_z := rn_istore_n (am_cur_of (i := (136, 1, .istore_n 2, (0, 0, 0), 0)) (by decide +kernel)) hc_z
            obtain ⟨_, s4120_z, s4121_z, g2_z, hc_z⟩ := hc_z
            replace g0_z := s4120_z 0 _ (by decide) rfl g0_z
            replace g1_z := s4120_z 1 _ (by decide) rfl g1_z
            replace g3_z := s4120_z 3 _ (by decide) rfl g3_z
            clear s4120_z s4121_z
            replace hc_z := rn_iinc (w := i + 1) (am_cur_of (i := (137, 3, .iinc 3 1, (0, 0, 0), 0)) (by decide +kernel)) g3_z rfl hc_z
            obtain ⟨_, s4122_z, s4123_z, g3_z, hc_z⟩ := hc_z
            replace g0_z := s4122_z 0 _ (by decide) rfl g0_z
            replace g1_z := s4122_z 1 _ (by decide) rfl g1_z
            replace g2_z := s4122_z 2 _ (by decide) rfl g2_z
            clear s4122_z s4123_z
            replace hc_z := rn_gotoL (am_cur_of (i := (140, 3, .goto (-41), (58, 0, 0), 0)) (by decide +kernel)) hc_z
            exact ih_z (i + 1) wn x2_z p2_z _ h4115_z h4118_z _ _ (by omega) (by omega) (by omega) R2 A2 B2 Z2 W2 g0_z g1_z g2_z g3_z g0m hc_z hm_z
          · obtain ⟨wv, v0_z, f1_z, f2_z, f3_z, f4_z⟩ := FF
            have K := rs_stick (a := 42) (by decide) (by decide) rfl v0_z f1_z f2_z hc_z
            replace hm_z : rn _ _ _ _ [.int 0] _ _ _ := hm_z
            replace hm_z := rn_ifF (am_cur_of (i := (69, 3, .ifCond .ne (-44), (15, 0, 0), 0)) (by decide +kernel)) (by decide) hm_z
            replace hm_z := rn_iconst (w := 0) (am_cur_of (i := (72, 1, .iconst 0, (0, 0, 0), 0)) (by decide +kernel)) (by decide) hm_z
            replace hm_z := rn_iret (am_cur_of (i := (73, 1, .ireturn, (0, 0, 0), 0)) (by decide +kernel)) hm_z
            obtain ⟨e4124_z, e4125_z⟩ := hm_z
            subst e4124_z e4125_z
            exact Or.inr (Or.inl ⟨rfl, p, wv, v0_z, K.1, K.2, f3_z, f4_z⟩)
          · subst e3_z
            replace yh := yh.symm
            subst yh
            subst yg
            have ns : ¬ (rg_v h 44 10 = 5 ∧ rg_v h 44 11 = 59) := fun q => kk ⟨tk_semiC R.2.2.2.2.2.2.2.2.2 q.1 q.2, z4_z.symm.trans e14_z⟩
            replace hc_z : rn _ _ _ _ [.int 3] _ _ _ := hc_z
            replace hc_z := rn_goto (am_cur_of (i := (128, 3, .goto 8, (77, 0, 0), 0)) (by decide +kernel)) hc_z
            replace hc_z := rn_istore_n (am_cur_of (i := (136, 1, .istore_n 2, (0, 0, 0), 0)) (by decide +kernel)) hc_z
            obtain ⟨_, s4126_z, s4127_z, g2_z, hc_z⟩ := hc_z
            replace g0_z := s4126_z 0 _ (by decide) rfl g0_z
            replace g1_z := s4126_z 1 _ (by decide) rfl g1_z
            replace g3_z := s4126_z 3 _ (by decide) rfl g3_z
            clear s4126_z s4127_z
            replace hc_z := rn_iinc (w := i + 1) (am_cur_of (i := (137, 3, .iinc 3 1, (0, 0, 0), 0)) (by decide +kernel)) g3_z rfl hc_z
            obtain ⟨_, s4128_z, s4129_z, g3_z, hc_z⟩ := hc_z
            replace g0_z := s4128_z 0 _ (by decide) rfl g0_z
            replace g1_z := s4128_z 1 _ (by decide) rfl g1_z
            replace g2_z := s4128_z 2 _ (by decide) rfl g2_z
            clear s4128_z s4129_z
            replace hc_z := rn_goto (am_cur_of (i := (140, 3, .goto (-41), (58, 0, 0), 0)) (by decide +kernel)) hc_z
            replace hc_z := rn_iload_n (am_cur_of (i := (99, 1, .iload_n 3, (0, 0, 0), 0)) (by decide +kernel)) g3_z hc_z
            replace hc_z := rn_aload_n (am_cur_of (i := (100, 1, .aload_n 0, (0, 0, 0), 0)) (by decide +kernel)) g0_z hc_z
            replace hc_z := rn_getI (v := S) (am_cur_of (i := (101, 3, .getfield 37, (4, 5, 414), 0)) (by decide +kernel)) (by decide +kernel) ES hc_z
            replace hc_z := rn_cmp (am_cur_of (i := (104, 3, .if_icmp .gt 39, (80, 0, 0), 0)) (by decide +kernel)) hc_z
            rcases hc_z with ⟨b4130_z, hc_z⟩ | ⟨b4130_z, hc_z⟩
            · replace b4130_z : S.toInt < (i + 1).toInt := b4130_z
              have U := lw_u23 R.2.2.1 g0_z g1_z hc_z
              replace hm_z : rn _ _ _ _ [.int 0] _ _ _ := hm_z
              replace hm_z := rn_ifF (am_cur_of (i := (69, 3, .ifCond .ne (-44), (15, 0, 0), 0)) (by decide +kernel)) (by decide) hm_z
              replace hm_z := rn_iconst (w := 0) (am_cur_of (i := (72, 1, .iconst 0, (0, 0, 0), 0)) (by decide +kernel)) (by decide) hm_z
              replace hm_z := rn_iret (am_cur_of (i := (73, 1, .ireturn, (0, 0, 0), 0)) (by decide +kernel)) hm_z
              obtain ⟨e4131_z, e4132_z⟩ := hm_z
              subst e4131_z e4132_z
              exact Or.inr (Or.inr ⟨rfl, p, (U 1 (by decide)).trans R4, (U 9 (by decide)).trans R5, fun q => ns ⟨(U 10 (by decide)).symm.trans q.1, (U 11 (by decide)).symm.trans q.2⟩, rfl, R6⟩)
            · replace b4130_z : (i + 1).toInt ≤ S.toInt := b4130_z
              replace hc_z := rn_aload_n (am_cur_of (i := (107, 1, .aload_n 0, (0, 0, 0), 0)) (by decide +kernel)) g0_z hc_z
              replace hc_z := rn_getI (v := 0) (am_cur_of (i := (108, 3, .getfield 51, (4, 1, 408), 0)) (by decide +kernel)) (by decide +kernel) R4 hc_z
              replace hc_z := rn_ifF (am_cur_of (i := (111, 3, .ifCond .ne 32, (80, 0, 0), 0)) (by decide +kernel)) (by decide) hc_z
              replace hc_z := rn_iload_n (am_cur_of (i := (114, 1, .iload_n 2, (0, 0, 0), 0)) (by decide +kernel)) g2_z hc_z
              replace hc_z := rn_iconst (w := 3) (am_cur_of (i := (115, 1, .iconst 3, (0, 0, 0), 0)) (by decide +kernel)) (by decide) hc_z
              replace hc_z := rn_cmpT (am_cur_of (i := (116, 3, .if_icmp .eq 27, (80, 0, 0), 0)) (by decide +kernel)) (by decide) hc_z
              have U := lw_u23 R.2.2.1 g0_z g1_z hc_z
              replace hm_z : rn _ _ _ _ [.int 0] _ _ _ := hm_z
              replace hm_z := rn_ifF (am_cur_of (i := (69, 3, .ifCond .ne (-44), (15, 0, 0), 0)) (by decide +kernel)) (by decide) hm_z
              replace hm_z := rn_iconst (w := 0) (am_cur_of (i := (72, 1, .iconst 0, (0, 0, 0), 0)) (by decide +kernel)) (by decide) hm_z
              replace hm_z := rn_iret (am_cur_of (i := (73, 1, .ireturn, (0, 0, 0), 0)) (by decide +kernel)) hm_z
              obtain ⟨e4133_z, e4134_z⟩ := hm_z
              subst e4133_z e4134_z
              exact Or.inr (Or.inr ⟨rfl, p, (U 1 (by decide)).trans R4, (U 9 (by decide)).trans R5, fun q => ns ⟨(U 10 (by decide)).symm.trans q.1, (U 11 (by decide)).symm.trans q.2⟩, rfl, R6⟩)
