/-! ===== THE LINES OF BOTH READERS, but the laws (wip/r/gen99ql.py) ===== -/
/-- how a LINE ends in both -/
def pl_Q (T : Nat → Int32) (S x : Int32) (d : Nat) (h' g' : am_H) (r' : Option Value) : Prop := (r' = some (.int 1) ∧ ∃ x2_z p2_z, rq T S x2_z p2_z d h' g' ∧ x.toInt ≤ p2_z.toInt ∧ rp d h' g' ∧ rp_t h' g') ∨ (r' = some (.int 0) ∧ ∃ p2_z, rq_F p2_z h' g')
theorem rp_tk {h h' g g' : am_H} (B : rp_t h g) (a : rg_v h' 44 7 = rg_v h 44 7) (b : ∀ k, rg_v g' 167 k = rg_v g 167 k) (c : rx_M g g') : rp_t h' g' := by
  obtain ⟨b0_z, b1_z, b2_z, b3_z, b4_z, b5_z, b6_z, t, o0_z, o1_z, o2_z, o3_z, o4_z, o5_z, o6_z⟩ := B
  exact ⟨b0_z, b1_z, b2_z, b3_z, b4_z, b5_z, b6_z, a.trans t, (b 0).trans o0_z, (b 1).trans o1_z, (b 2).trans o2_z, (b 3).trans o3_z, (rx_w c (by decide) (by decide)).trans o4_z, (rx_w c (by decide) (by decide)).trans o5_z, (rx_w c (by decide) (by decide)).trans o6_z⟩
theorem rp_more {n : Nat} {h h' : am_H} {r : Option Value} {so mo : Int32} (hf_z : rg_v h 44 1 = 0) (hc_z : rn n am_m32 0 (lv_args 0 [.ref 44, .int so, .int mo]) [] h r h') : (mo.toInt ≤ so.toInt ∧ rg_v h' 44 1 = 2 ∧ rg_v h' 44 2 = rg_v h 44 9) ∨ (so.toInt < mo.toInt ∧ ∃ n2_z r2_z, rn n2_z am_m19 0 (lv_args 0 [.ref 44]) [] h r2_z h' ∧ ((rg_v h' 44 1 = 0 ∧ r = some (.int 1)) ∨ (¬ rg_v h' 44 1 = 0 ∧ r = some (.int 0)))) := by
  have z0_z : (0 : Int32).toInt = 0 := by decide
  have g0_z : am_get (lv_args 0 [.ref 44, .int so, .int mo]) 0 = some (.ref 44) := rfl
  have g1_z : am_get (lv_args 0 [.ref 44, .int so, .int mo]) 1 = some (.int so) := rfl
  have g2_z : am_get (lv_args 0 [.ref 44, .int so, .int mo]) 2 = some (.int mo) := rfl
  replace hc_z := rn_iload_n (am_cur_of (i := (0, 1, .iload_n 1, (0, 0, 0), 0)) (by decide +kernel)) g1_z hc_z
  replace hc_z := rn_iload_n (am_cur_of (i := (1, 1, .iload_n 2, (0, 0, 0), 0)) (by decide +kernel)) g2_z hc_z
  replace hc_z := rn_cmp (am_cur_of (i := (2, 3, .if_icmp .lt 8, (6, 0, 0), 0)) (by decide +kernel)) hc_z
  rcases hc_z with ⟨b171_z, hc_z⟩ | ⟨b171_z, hc_z⟩
  · replace b171_z : so.toInt < mo.toInt := b171_z
    replace hc_z := rn_aload_n (am_cur_of (i := (10, 1, .aload_n 0, (0, 0, 0), 0)) (by decide +kernel)) g0_z hc_z
    replace hc_z := rn_callV (M' := am_m19) (o := 44) (ar := []) (rest := []) (L := lv_args 0 [.ref 44]) (am_cur_of (i := (11, 3, .invokevirtual 57, (19, 727, 3), 0)) (by decide +kernel)) rfl rfl rfl rfl hc_z
    obtain ⟨r172_z, h173_z, q174_z, hc_z⟩ := hc_z
    have vq174_z := rn_void rfl q174_z
    subst vq174_z
    replace hc_z : rn _ _ _ _ [] _ _ _ := hc_z
    replace hc_z := rn_aload_n (am_cur_of (i := (14, 1, .aload_n 0, (0, 0, 0), 0)) (by decide +kernel)) g0_z hc_z
    replace hc_z := rn_getI (v := rg_v h173_z 44 1) (am_cur_of (i := (15, 3, .getfield 51, (4, 1, 408), 0)) (by decide +kernel)) (by decide +kernel) rfl hc_z
    replace hc_z := rn_if (am_cur_of (i := (18, 3, .ifCond .ne 7, (13, 0, 0), 0)) (by decide +kernel)) hc_z
    rcases hc_z with ⟨b175_z, hc_z⟩ | ⟨b175_z, hc_z⟩
    · replace b175_z : ¬ (rg_v h173_z 44 1) = (0 : Int32) ∧ ¬ (rg_v h173_z 44 1).toInt = (0 : Int32).toInt := b175_z
      replace hc_z := rn_iconst (w := 0) (am_cur_of (i := (25, 1, .iconst 0, (0, 0, 0), 0)) (by decide +kernel)) (by decide) hc_z
      replace hc_z := rn_iret (am_cur_of (i := (26, 1, .ireturn, (0, 0, 0), 0)) (by decide +kernel)) hc_z
      obtain ⟨e176_z, e177_z⟩ := hc_z
      subst e177_z
      exact Or.inr ⟨by omega, _, none, q174_z, Or.inr ⟨b175_z.1, e176_z⟩⟩
    · replace b175_z : (rg_v h173_z 44 1) = (0 : Int32) ∧ (rg_v h173_z 44 1).toInt = (0 : Int32).toInt := b175_z
      replace hc_z := rn_iconst (w := 1) (am_cur_of (i := (21, 1, .iconst 1, (0, 0, 0), 0)) (by decide +kernel)) (by decide) hc_z
      replace hc_z := rn_goto (am_cur_of (i := (22, 3, .goto 4, (14, 0, 0), 0)) (by decide +kernel)) hc_z
      replace hc_z := rn_iret (am_cur_of (i := (26, 1, .ireturn, (0, 0, 0), 0)) (by decide +kernel)) hc_z
      obtain ⟨e178_z, e179_z⟩ := hc_z
      subst e179_z
      exact Or.inr ⟨by omega, _, none, q174_z, Or.inl ⟨b175_z.1, e178_z⟩⟩
  · replace b171_z : mo.toInt ≤ so.toInt := b171_z
    replace hc_z := rn_aload_n (am_cur_of (i := (5, 1, .aload_n 0, (0, 0, 0), 0)) (by decide +kernel)) g0_z hc_z
    replace hc_z := rn_iconst (w := 2) (am_cur_of (i := (6, 1, .iconst 2, (0, 0, 0), 0)) (by decide +kernel)) (by decide) hc_z
    replace hc_z := rn_callV (M' := am_m29) (o := 44) (ar := [.int 2]) (rest := []) (L := lv_args 0 [.ref 44, .int 2]) (am_cur_of (i := (7, 3, .invokevirtual 108, (29, 769, 3), 0)) (by decide +kernel)) rfl rfl rfl rfl hc_z
    obtain ⟨r180_z, h181_z, q182_z, hc_z⟩ := hc_z
    obtain ⟨rfl, yq182_z⟩ := rp_fail hf_z q182_z
    subst yq182_z
    replace hc_z : rn _ _ _ _ [] _ _ _ := hc_z
    exact Or.inl ⟨by omega, rs_stick (w := 2) (a := 32) (by decide) (by decide) rfl (by decide) rfl rfl hc_z⟩
theorem rp_own {n : Nat} {h h' : am_H} {r : Option Value} (hf_z : rg_v h 44 1 = 0) (hc_z : rn n am_m33 0 (lv_args 0 [.ref 44]) [] h r h') : (rg_v h 44 10 = 3 ∧ r = some (.int 1) ∧ h' = h) ∨ (¬ rg_v h 44 10 = 3 ∧ rg_v h' 44 1 = 1 ∧ rg_v h' 44 2 = rg_v h 44 9) := by
  have z3_z : (3 : Int32).toInt = 3 := by decide
  have g0_z : am_get (lv_args 0 [.ref 44]) 0 = some (.ref 44) := rfl
  replace hc_z := rn_aload_n (am_cur_of (i := (0, 1, .aload_n 0, (0, 0, 0), 0)) (by decide +kernel)) g0_z hc_z
  replace hc_z := rn_getI (v := rg_v h 44 10) (am_cur_of (i := (1, 3, .getfield 60, (4, 10, 419), 0)) (by decide +kernel)) (by decide +kernel) rfl hc_z
  replace hc_z := rn_iconst (w := 3) (am_cur_of (i := (4, 1, .iconst 3, (0, 0, 0), 0)) (by decide +kernel)) (by decide) hc_z
  replace hc_z := rn_cmp (am_cur_of (i := (5, 3, .if_icmp .eq 8, (7, 0, 0), 0)) (by decide +kernel)) hc_z
  rcases hc_z with ⟨b183_z, hc_z⟩ | ⟨b183_z, hc_z⟩
  · replace b183_z : (rg_v h 44 10) = (3 : Int32) ∧ (rg_v h 44 10).toInt = (3 : Int32).toInt := b183_z
    replace hc_z := rn_aload_n (am_cur_of (i := (13, 1, .aload_n 0, (0, 0, 0), 0)) (by decide +kernel)) g0_z hc_z
    replace hc_z := rn_getI (v := 0) (am_cur_of (i := (14, 3, .getfield 51, (4, 1, 408), 0)) (by decide +kernel)) (by decide +kernel) hf_z hc_z
    replace hc_z := rn_ifF (am_cur_of (i := (17, 3, .ifCond .ne 7, (12, 0, 0), 0)) (by decide +kernel)) (by decide) hc_z
    replace hc_z := rn_iconst (w := 1) (am_cur_of (i := (20, 1, .iconst 1, (0, 0, 0), 0)) (by decide +kernel)) (by decide) hc_z
    replace hc_z := rn_goto (am_cur_of (i := (21, 3, .goto 4, (13, 0, 0), 0)) (by decide +kernel)) hc_z
    replace hc_z := rn_iret (am_cur_of (i := (25, 1, .ireturn, (0, 0, 0), 0)) (by decide +kernel)) hc_z
    obtain ⟨e184_z, e185_z⟩ := hc_z
    exact Or.inl ⟨b183_z.1, e184_z, e185_z⟩
  · replace b183_z : ¬ (rg_v h 44 10) = (3 : Int32) ∧ ¬ (rg_v h 44 10).toInt = (3 : Int32).toInt := b183_z
    replace hc_z := rn_aload_n (am_cur_of (i := (8, 1, .aload_n 0, (0, 0, 0), 0)) (by decide +kernel)) g0_z hc_z
    replace hc_z := rn_iconst (w := 1) (am_cur_of (i := (9, 1, .iconst 1, (0, 0, 0), 0)) (by decide +kernel)) (by decide) hc_z
    replace hc_z := rn_callV (M' := am_m29) (o := 44) (ar := [.int 1]) (rest := []) (L := lv_args 0 [.ref 44, .int 1]) (am_cur_of (i := (10, 3, .invokevirtual 108, (29, 769, 3), 0)) (by decide +kernel)) rfl rfl rfl rfl hc_z
    obtain ⟨r186_z, h187_z, q188_z, hc_z⟩ := hc_z
    obtain ⟨rfl, yq188_z⟩ := rp_fail hf_z q188_z
    subst yq188_z
    replace hc_z : rn _ _ _ _ [] _ _ _ := hc_z
    exact Or.inr ⟨b183_z.1, rs_stick (w := 1) (a := 33) (by decide) (by decide) rfl (by decide) rfl rfl hc_z⟩
theorem rp_newB {n : Nat} {g g' : am_H} {r : Option Value} {nb : Int32} (n0_z : 0 ≤ nb.toInt) (n9_z : nb.toInt ≤ 9) (hc_z : rn n am_m164 0 (lv_args 0 [.ref 164, .ref 169, .int 4, .int nb]) [] g r g') : (¬ rg_v g 164 8 = 2 ∧ r = some (.int 0) ∧ g' = rp_W 1 g) ∨ (rg_v g 164 8 = 2 ∧ r = some (.int 0) ∧ g' = rp_W 3 g ∧ ∃ i, rp_fm (fun b => rg_v g 169 (4 + b)) nb.toInt (rg_v g 164 9) i ∧ 0 ≤ i.toInt) ∨ (rg_v g 164 8 = 2 ∧ r = some (.int 1) ∧ rp_fm (fun b => rg_v g 169 (4 + b)) nb.toInt (rg_v g 164 9) (-1) ∧ ∃ n2_z r2_z, rn n2_z am_m151 0 (lv_args 0 [.ref 164]) [] (am_up g 169 (4 + nb.toNatClampNeg) (.int (rg_v g 164 9))) r2_z g') := by
  have z0_z : (0 : Int32).toInt = 0 := by decide
  have z2_z : (2 : Int32).toInt = 2 := by decide
  have g0_z : am_get (lv_args 0 [.ref 164, .ref 169, .int 4, .int nb]) 0 = some (.ref 164) := rfl
  have g1_z : am_get (lv_args 0 [.ref 164, .ref 169, .int 4, .int nb]) 1 = some (.ref 169) := rfl
  have g2_z : am_get (lv_args 0 [.ref 164, .ref 169, .int 4, .int nb]) 2 = some (.int 4) := rfl
  have g3_z : am_get (lv_args 0 [.ref 164, .ref 169, .int 4, .int nb]) 3 = some (.int nb) := rfl
  have zf : (4 : Int32).toInt = 4 := by decide
  have cf_z : (4 : Int32).toNatClampNeg = 4 := by decide
  have cn := rt_cl n0_z
  have hfn := ab_iadd (x := 4) (y := nb) (by omega) (by omega)
  have cfn := rt_cl (x := 4 + nb) (by omega)
  replace hc_z := rn_aload_n (am_cur_of (i := (0, 1, .aload_n 0, (0, 0, 0), 0)) (by decide +kernel)) g0_z hc_z
  replace hc_z := rn_getI (v := rg_v g 164 8) (am_cur_of (i := (1, 3, .getfield 157, (12, 8, 1392), 0)) (by decide +kernel)) (by decide +kernel) rfl hc_z
  replace hc_z := rn_iconst (w := 2) (am_cur_of (i := (4, 1, .iconst 2, (0, 0, 0), 0)) (by decide +kernel)) (by decide) hc_z
  replace hc_z := rn_cmp (am_cur_of (i := (5, 3, .if_icmp .eq 9, (8, 0, 0), 0)) (by decide +kernel)) hc_z
  rcases hc_z with ⟨b189_z, hc_z⟩ | ⟨b189_z, hc_z⟩
  · replace b189_z : (rg_v g 164 8) = (2 : Int32) ∧ (rg_v g 164 8).toInt = (2 : Int32).toInt := b189_z
    replace hc_z := rn_aload_n (am_cur_of (i := (14, 1, .aload_n 1, (0, 0, 0), 0)) (by decide +kernel)) g1_z hc_z
    replace hc_z := rn_iload_n (am_cur_of (i := (15, 1, .iload_n 2, (0, 0, 0), 0)) (by decide +kernel)) g2_z hc_z
    replace hc_z := rn_iload_n (am_cur_of (i := (16, 1, .iload_n 3, (0, 0, 0), 0)) (by decide +kernel)) g3_z hc_z
    replace hc_z := rn_aload_n (am_cur_of (i := (17, 1, .aload_n 0, (0, 0, 0), 0)) (by decide +kernel)) g0_z hc_z
    replace hc_z := rn_getI (v := rg_v g 164 9) (am_cur_of (i := (18, 3, .getfield 168, (12, 9, 1393), 0)) (by decide +kernel)) (by decide +kernel) rfl hc_z
    replace hc_z := rn_callS (M' := am_m165) (ar := [.int (rg_v g 164 9), .int nb, .int 4, .ref 169]) (rest := []) (L := lv_args 0 [.ref 169, .int 4, .int nb, .int (rg_v g 164 9)]) (am_cur_of (i := (21, 3, .invokestatic 241, (165, 1692, 3), 0)) (by decide +kernel)) rfl rfl rfl rfl hc_z
    obtain ⟨r190_z, h191_z, q192_z, hc_z⟩ := hc_z
    obtain ⟨yq192_z, i2_z, rfl, hi2_z⟩ := rp_find (N := 8) (by decide +kernel) (by decide) (by omega) (by decide) q192_z
    replace yq192_z := yq192_z.symm
    subst yq192_z
    have hib := rp_fm_b hi2_z (by omega)
    replace hc_z : rn _ _ _ _ [.int i2_z] _ _ _ := hc_z
    replace hc_z := rn_if (am_cur_of (i := (24, 3, .ifCond .lt 9, (19, 0, 0), 0)) (by decide +kernel)) hc_z
    rcases hc_z with ⟨b193_z, hc_z⟩ | ⟨b193_z, hc_z⟩
    · replace b193_z : i2_z.toInt < (0 : Int32).toInt := b193_z
      replace hc_z := rn_aload_n (am_cur_of (i := (33, 1, .aload_n 1, (0, 0, 0), 0)) (by decide +kernel)) g1_z hc_z
      replace hc_z := rn_iload_n (am_cur_of (i := (34, 1, .iload_n 2, (0, 0, 0), 0)) (by decide +kernel)) g2_z hc_z
      replace hc_z := rn_iload_n (am_cur_of (i := (35, 1, .iload_n 3, (0, 0, 0), 0)) (by decide +kernel)) g3_z hc_z
      replace hc_z := rn_iadd (w := (4 : Int32) + nb) (am_cur_of (i := (36, 1, .iadd, (0, 0, 0), 0)) (by decide +kernel)) rfl hc_z
      replace hc_z := rn_aload_n (am_cur_of (i := (37, 1, .aload_n 0, (0, 0, 0), 0)) (by decide +kernel)) g0_z hc_z
      replace hc_z := rn_getI (v := rg_v g 164 9) (am_cur_of (i := (38, 3, .getfield 168, (12, 9, 1393), 0)) (by decide +kernel)) (by decide +kernel) rfl hc_z
      replace hc_z := rn_iastore (N := 8) (q := ((4 : Int32) + nb).toNatClampNeg) (am_cur_of (i := (41, 1, .iastore, (0, 0, 0), 0)) (by decide +kernel)) (by decide +kernel) rfl hc_z
      obtain ⟨p194_z, hc_z⟩ := hc_z
      replace hc_z := rn_aload_n (am_cur_of (i := (42, 1, .aload_n 0, (0, 0, 0), 0)) (by decide +kernel)) g0_z hc_z
      replace hc_z := rn_callV (M' := am_m151) (o := 164) (ar := []) (rest := []) (L := lv_args 0 [.ref 164]) (am_cur_of (i := (43, 3, .invokevirtual 191, (151, 1636, 3), 0)) (by decide +kernel)) rfl rfl rfl rfl hc_z
      obtain ⟨r195_z, h196_z, q197_z, hc_z⟩ := hc_z
      have vq197_z := rn_void rfl q197_z
      subst vq197_z
      replace hc_z : rn _ _ _ _ [] _ _ _ := hc_z
      replace hc_z := rn_iconst (w := 1) (am_cur_of (i := (46, 1, .iconst 1, (0, 0, 0), 0)) (by decide +kernel)) (by decide) hc_z
      replace hc_z := rn_iret (am_cur_of (i := (47, 1, .ireturn, (0, 0, 0), 0)) (by decide +kernel)) hc_z
      obtain ⟨e198_z, e199_z⟩ := hc_z
      subst e199_z
      rw [show (4 + nb).toNatClampNeg = 4 + nb.toNatClampNeg by omega] at q197_z
      refine Or.inr (Or.inr ⟨b189_z.1, e198_z, ?_, _, none, q197_z⟩)
      rcases hib with ⟨e, -⟩ | e
      · rw [e] at hi2_z
        exact hi2_z
      · omega
    · replace b193_z : (0 : Int32).toInt ≤ i2_z.toInt := b193_z
      replace hc_z := rn_aload_n (am_cur_of (i := (27, 1, .aload_n 0, (0, 0, 0), 0)) (by decide +kernel)) g0_z hc_z
      replace hc_z := rn_iconst (w := 3) (am_cur_of (i := (28, 1, .iconst 3, (0, 0, 0), 0)) (by decide +kernel)) (by decide) hc_z
      replace hc_z := rn_callV (M' := am_m158) (o := 164) (ar := [.int 3]) (rest := []) (L := lv_args 0 [.ref 164, .int 3]) (am_cur_of (i := (29, 3, .invokevirtual 181, (158, 1665, 3), 0)) (by decide +kernel)) rfl rfl rfl rfl hc_z
      obtain ⟨r200_z, h201_z, q202_z, hc_z⟩ := hc_z
      obtain ⟨rfl, yq202_z⟩ := rp_wrong q202_z
      subst yq202_z
      replace hc_z : rn _ _ _ _ [.int 0] _ _ _ := hc_z
      replace hc_z := rn_iret (am_cur_of (i := (32, 1, .ireturn, (0, 0, 0), 0)) (by decide +kernel)) hc_z
      obtain ⟨e203_z, e204_z⟩ := hc_z
      exact Or.inr (Or.inl ⟨b189_z.1, e203_z, e204_z, i2_z, hi2_z, by omega⟩)
  · replace b189_z : ¬ (rg_v g 164 8) = (2 : Int32) ∧ ¬ (rg_v g 164 8).toInt = (2 : Int32).toInt := b189_z
    replace hc_z := rn_aload_n (am_cur_of (i := (8, 1, .aload_n 0, (0, 0, 0), 0)) (by decide +kernel)) g0_z hc_z
    replace hc_z := rn_iconst (w := 1) (am_cur_of (i := (9, 1, .iconst 1, (0, 0, 0), 0)) (by decide +kernel)) (by decide) hc_z
    replace hc_z := rn_callV (M' := am_m158) (o := 164) (ar := [.int 1]) (rest := []) (L := lv_args 0 [.ref 164, .int 1]) (am_cur_of (i := (10, 3, .invokevirtual 181, (158, 1665, 3), 0)) (by decide +kernel)) rfl rfl rfl rfl hc_z
    obtain ⟨r205_z, h206_z, q207_z, hc_z⟩ := hc_z
    obtain ⟨rfl, yq207_z⟩ := rp_wrong q207_z
    subst yq207_z
    replace hc_z : rn _ _ _ _ [.int 0] _ _ _ := hc_z
    replace hc_z := rn_iret (am_cur_of (i := (13, 1, .ireturn, (0, 0, 0), 0)) (by decide +kernel)) hc_z
    obtain ⟨e208_z, e209_z⟩ := hc_z
    exact Or.inl ⟨b189_z.1, e208_z, e209_z⟩
theorem rp_newT {n : Nat} {g g' : am_H} {r : Option Value} {nb : Int32} (n0_z : 0 ≤ nb.toInt) (n9_z : nb.toInt ≤ 9) (hc_z : rn n am_m164 0 (lv_args 0 [.ref 164, .ref 175, .int 3, .int nb]) [] g r g') : (¬ rg_v g 164 8 = 2 ∧ r = some (.int 0) ∧ g' = rp_W 1 g) ∨ (rg_v g 164 8 = 2 ∧ r = some (.int 0) ∧ g' = rp_W 3 g ∧ ∃ i, rp_fm (fun b => rg_v g 175 (3 + b)) nb.toInt (rg_v g 164 9) i ∧ 0 ≤ i.toInt) ∨ (rg_v g 164 8 = 2 ∧ r = some (.int 1) ∧ rp_fm (fun b => rg_v g 175 (3 + b)) nb.toInt (rg_v g 164 9) (-1) ∧ ∃ n2_z r2_z, rn n2_z am_m151 0 (lv_args 0 [.ref 164]) [] (am_up g 175 (3 + nb.toNatClampNeg) (.int (rg_v g 164 9))) r2_z g') := by
  have z0_z : (0 : Int32).toInt = 0 := by decide
  have z2_z : (2 : Int32).toInt = 2 := by decide
  have g0_z : am_get (lv_args 0 [.ref 164, .ref 175, .int 3, .int nb]) 0 = some (.ref 164) := rfl
  have g1_z : am_get (lv_args 0 [.ref 164, .ref 175, .int 3, .int nb]) 1 = some (.ref 175) := rfl
  have g2_z : am_get (lv_args 0 [.ref 164, .ref 175, .int 3, .int nb]) 2 = some (.int 3) := rfl
  have g3_z : am_get (lv_args 0 [.ref 164, .ref 175, .int 3, .int nb]) 3 = some (.int nb) := rfl
  have zf : (3 : Int32).toInt = 3 := by decide
  have cf_z : (3 : Int32).toNatClampNeg = 3 := by decide
  have cn := rt_cl n0_z
  have hfn := ab_iadd (x := 3) (y := nb) (by omega) (by omega)
  have cfn := rt_cl (x := 3 + nb) (by omega)
  replace hc_z := rn_aload_n (am_cur_of (i := (0, 1, .aload_n 0, (0, 0, 0), 0)) (by decide +kernel)) g0_z hc_z
  replace hc_z := rn_getI (v := rg_v g 164 8) (am_cur_of (i := (1, 3, .getfield 157, (12, 8, 1392), 0)) (by decide +kernel)) (by decide +kernel) rfl hc_z
  replace hc_z := rn_iconst (w := 2) (am_cur_of (i := (4, 1, .iconst 2, (0, 0, 0), 0)) (by decide +kernel)) (by decide) hc_z
  replace hc_z := rn_cmp (am_cur_of (i := (5, 3, .if_icmp .eq 9, (8, 0, 0), 0)) (by decide +kernel)) hc_z
  rcases hc_z with ⟨b210_z, hc_z⟩ | ⟨b210_z, hc_z⟩
  · replace b210_z : (rg_v g 164 8) = (2 : Int32) ∧ (rg_v g 164 8).toInt = (2 : Int32).toInt := b210_z
    replace hc_z := rn_aload_n (am_cur_of (i := (14, 1, .aload_n 1, (0, 0, 0), 0)) (by decide +kernel)) g1_z hc_z
    replace hc_z := rn_iload_n (am_cur_of (i := (15, 1, .iload_n 2, (0, 0, 0), 0)) (by decide +kernel)) g2_z hc_z
    replace hc_z := rn_iload_n (am_cur_of (i := (16, 1, .iload_n 3, (0, 0, 0), 0)) (by decide +kernel)) g3_z hc_z
    replace hc_z := rn_aload_n (am_cur_of (i := (17, 1, .aload_n 0, (0, 0, 0), 0)) (by decide +kernel)) g0_z hc_z
    replace hc_z := rn_getI (v := rg_v g 164 9) (am_cur_of (i := (18, 3, .getfield 168, (12, 9, 1393), 0)) (by decide +kernel)) (by decide +kernel) rfl hc_z
    replace hc_z := rn_callS (M' := am_m165) (ar := [.int (rg_v g 164 9), .int nb, .int 3, .ref 175]) (rest := []) (L := lv_args 0 [.ref 175, .int 3, .int nb, .int (rg_v g 164 9)]) (am_cur_of (i := (21, 3, .invokestatic 241, (165, 1692, 3), 0)) (by decide +kernel)) rfl rfl rfl rfl hc_z
    obtain ⟨r211_z, h212_z, q213_z, hc_z⟩ := hc_z
    obtain ⟨yq213_z, i2_z, rfl, hi2_z⟩ := rp_find (N := 6) (by decide +kernel) (by decide) (by omega) (by decide) q213_z
    replace yq213_z := yq213_z.symm
    subst yq213_z
    have hib := rp_fm_b hi2_z (by omega)
    replace hc_z : rn _ _ _ _ [.int i2_z] _ _ _ := hc_z
    replace hc_z := rn_if (am_cur_of (i := (24, 3, .ifCond .lt 9, (19, 0, 0), 0)) (by decide +kernel)) hc_z
    rcases hc_z with ⟨b214_z, hc_z⟩ | ⟨b214_z, hc_z⟩
    · replace b214_z : i2_z.toInt < (0 : Int32).toInt := b214_z
      replace hc_z := rn_aload_n (am_cur_of (i := (33, 1, .aload_n 1, (0, 0, 0), 0)) (by decide +kernel)) g1_z hc_z
      replace hc_z := rn_iload_n (am_cur_of (i := (34, 1, .iload_n 2, (0, 0, 0), 0)) (by decide +kernel)) g2_z hc_z
      replace hc_z := rn_iload_n (am_cur_of (i := (35, 1, .iload_n 3, (0, 0, 0), 0)) (by decide +kernel)) g3_z hc_z
      replace hc_z := rn_iadd (w := (3 : Int32) + nb) (am_cur_of (i := (36, 1, .iadd, (0, 0, 0), 0)) (by decide +kernel)) rfl hc_z
      replace hc_z := rn_aload_n (am_cur_of (i := (37, 1, .aload_n 0, (0, 0, 0), 0)) (by decide +kernel)) g0_z hc_z
      replace hc_z := rn_getI (v := rg_v g 164 9) (am_cur_of (i := (38, 3, .getfield 168, (12, 9, 1393), 0)) (by decide +kernel)) (by decide +kernel) rfl hc_z
      replace hc_z := rn_iastore (N := 6) (q := ((3 : Int32) + nb).toNatClampNeg) (am_cur_of (i := (41, 1, .iastore, (0, 0, 0), 0)) (by decide +kernel)) (by decide +kernel) rfl hc_z
      obtain ⟨p215_z, hc_z⟩ := hc_z
      replace hc_z := rn_aload_n (am_cur_of (i := (42, 1, .aload_n 0, (0, 0, 0), 0)) (by decide +kernel)) g0_z hc_z
      replace hc_z := rn_callV (M' := am_m151) (o := 164) (ar := []) (rest := []) (L := lv_args 0 [.ref 164]) (am_cur_of (i := (43, 3, .invokevirtual 191, (151, 1636, 3), 0)) (by decide +kernel)) rfl rfl rfl rfl hc_z
      obtain ⟨r216_z, h217_z, q218_z, hc_z⟩ := hc_z
      have vq218_z := rn_void rfl q218_z
      subst vq218_z
      replace hc_z : rn _ _ _ _ [] _ _ _ := hc_z
      replace hc_z := rn_iconst (w := 1) (am_cur_of (i := (46, 1, .iconst 1, (0, 0, 0), 0)) (by decide +kernel)) (by decide) hc_z
      replace hc_z := rn_iret (am_cur_of (i := (47, 1, .ireturn, (0, 0, 0), 0)) (by decide +kernel)) hc_z
      obtain ⟨e219_z, e220_z⟩ := hc_z
      subst e220_z
      rw [show (3 + nb).toNatClampNeg = 3 + nb.toNatClampNeg by omega] at q218_z
      refine Or.inr (Or.inr ⟨b210_z.1, e219_z, ?_, _, none, q218_z⟩)
      rcases hib with ⟨e, -⟩ | e
      · rw [e] at hi2_z
        exact hi2_z
      · omega
    · replace b214_z : (0 : Int32).toInt ≤ i2_z.toInt := b214_z
      replace hc_z := rn_aload_n (am_cur_of (i := (27, 1, .aload_n 0, (0, 0, 0), 0)) (by decide +kernel)) g0_z hc_z
      replace hc_z := rn_iconst (w := 3) (am_cur_of (i := (28, 1, .iconst 3, (0, 0, 0), 0)) (by decide +kernel)) (by decide) hc_z
      replace hc_z := rn_callV (M' := am_m158) (o := 164) (ar := [.int 3]) (rest := []) (L := lv_args 0 [.ref 164, .int 3]) (am_cur_of (i := (29, 3, .invokevirtual 181, (158, 1665, 3), 0)) (by decide +kernel)) rfl rfl rfl rfl hc_z
      obtain ⟨r221_z, h222_z, q223_z, hc_z⟩ := hc_z
      obtain ⟨rfl, yq223_z⟩ := rp_wrong q223_z
      subst yq223_z
      replace hc_z : rn _ _ _ _ [.int 0] _ _ _ := hc_z
      replace hc_z := rn_iret (am_cur_of (i := (32, 1, .ireturn, (0, 0, 0), 0)) (by decide +kernel)) hc_z
      obtain ⟨e224_z, e225_z⟩ := hc_z
      exact Or.inr (Or.inl ⟨b210_z.1, e224_z, e225_z, i2_z, hi2_z, by omega⟩)
  · replace b210_z : ¬ (rg_v g 164 8) = (2 : Int32) ∧ ¬ (rg_v g 164 8).toInt = (2 : Int32).toInt := b210_z
    replace hc_z := rn_aload_n (am_cur_of (i := (8, 1, .aload_n 0, (0, 0, 0), 0)) (by decide +kernel)) g0_z hc_z
    replace hc_z := rn_iconst (w := 1) (am_cur_of (i := (9, 1, .iconst 1, (0, 0, 0), 0)) (by decide +kernel)) (by decide) hc_z
    replace hc_z := rn_callV (M' := am_m158) (o := 164) (ar := [.int 1]) (rest := []) (L := lv_args 0 [.ref 164, .int 1]) (am_cur_of (i := (10, 3, .invokevirtual 181, (158, 1665, 3), 0)) (by decide +kernel)) rfl rfl rfl rfl hc_z
    obtain ⟨r226_z, h227_z, q228_z, hc_z⟩ := hc_z
    obtain ⟨rfl, yq228_z⟩ := rp_wrong q228_z
    subst yq228_z
    replace hc_z : rn _ _ _ _ [.int 0] _ _ _ := hc_z
    replace hc_z := rn_iret (am_cur_of (i := (13, 1, .ireturn, (0, 0, 0), 0)) (by decide +kernel)) hc_z
    obtain ⟨e229_z, e230_z⟩ := hc_z
    exact Or.inl ⟨b210_z.1, e229_z, e230_z⟩
theorem pl_bed2 {T : Nat → Int32} {S x p : Int32} {n n' : Nat} {h h' g g' : am_H} {r r' : Option Value} (R : rq T S x p 2 h g) (A : rp 2 h g) (B : rp_t h g) (hc_z : rn n am_m27 0 (lv_args 0 [.ref 44]) [] h r h') (hm_z : rn n' am_m159 0 (lv_args 0 [.ref 164]) [] g r' g') : pl_Q T S x 2 h' g' r' := by
  have z0_z : (0 : Int32).toInt = 0 := by decide
  have z1_z : (1 : Int32).toInt = 1 := by decide
  have z3_z : (3 : Int32).toInt = 3 := by decide
  have z4_z : (4 : Int32).toInt = 4 := by decide
  have z9999_z : (9999 : Int32).toInt = 9999 := by decide
  have g0_z : am_get (lv_args 0 [.ref 44]) 0 = some (.ref 44) := rfl
  have g0m : am_get (lv_args 0 [.ref 164]) 0 = some (.ref 164) := rfl
  obtain ⟨⟨⟨a1_z, a2_z, a3_z, a4_z, a5_z, a6_z⟩, ⟨nb1_z, nb2_z, nb3_z⟩, ⟨nt1_z, nt2_z, nt3_z⟩, ⟨nl1_z, nl2_z, nl3_z⟩, ⟨nr1_z, nr2_z, nr3_z⟩, ⟨nk1_z, nk2_z, nk3_z⟩, ⟨AC0, AC1, AC2, AC3⟩, AD, AE, AG⟩, ⟨⟨c1_z, c2_z, c3_z, c4_z, c5_z, c6_z, c7_z, c8_z⟩, ⟨m2_z, m3_z, m4_z, m5_z, m6_z, m7_z, m8_z⟩, R3, R4, R5, R6, R7, R8, R9, R10⟩⟩ := (⟨A, R⟩ : rp 2 h g ∧ rq T S x p 2 h g)
  replace hc_z := rn_aload_n (am_cur_of (i := (0, 1, .aload_n 0, (0, 0, 0), 0)) (by decide +kernel)) g0_z hc_z
  replace hc_z := rn_iconst (w := 0) (am_cur_of (i := (1, 1, .iconst 0, (0, 0, 0), 0)) (by decide +kernel)) (by decide) hc_z
  replace hc_z := rn_callV (M' := am_m28) (o := 44) (ar := [.int 0]) (rest := []) (L := lv_args 0 [.ref 44, .int 0]) (am_cur_of (i := (2, 3, .invokevirtual 139, (28, 765, 3), 0)) (by decide +kernel)) rfl rfl rfl rfl hc_z
  obtain ⟨r231_z, h232_z, q233_z, hc_z⟩ := hc_z
  have vo := rn_void rfl q233_z
  subst vo
  replace hm_z := rn_aload_n (am_cur_of (i := (0, 1, .aload_n 0, (0, 0, 0), 0)) (by decide +kernel)) g0m hm_z
  replace hm_z := rn_iconst (w := 0) (am_cur_of (i := (1, 1, .iconst 0, (0, 0, 0), 0)) (by decide +kernel)) (by decide) hm_z
  replace hm_z := rn_callV (M' := am_m160) (o := 164) (ar := [.int 0]) (rest := []) (L := lv_args 0 [.ref 164, .int 0]) (am_cur_of (i := (2, 3, .invokevirtual 245, (160, 1673, 3), 0)) (by decide +kernel)) rfl rfl rfl rfl hm_z
  obtain ⟨r234_z, h235_z, q236_z, hm_z⟩ := hm_z
  rcases pr_once0 R B q233_z q236_z with ⟨x1_z, p1_z, rfl, R', le1_z, B', X, Y⟩ | ⟨rfl, F⟩
  · replace A := rp_x (by decide) A X Y
    replace B := B'
    replace R := R'
    clear B' R'
    replace hm_z : rn _ _ _ _ [.int 1] _ _ _ := hm_z
    replace hc_z : rn _ _ _ _ [] _ _ _ := hc_z
    clear a1_z a2_z a3_z a4_z a5_z a6_z nb1_z nb2_z nb3_z nt1_z nt2_z nt3_z nl1_z nl2_z nl3_z nr1_z nr2_z nr3_z nk1_z nk2_z nk3_z AC0 AC1 AC2 AC3 AD AE AG c1_z c2_z c3_z c4_z c5_z c6_z c7_z c8_z m2_z m3_z m4_z m5_z m6_z m7_z m8_z R3 R4 R5 R6 R7 R8 R9 R10
    obtain ⟨⟨⟨a1_z, a2_z, a3_z, a4_z, a5_z, a6_z⟩, ⟨nb1_z, nb2_z, nb3_z⟩, ⟨nt1_z, nt2_z, nt3_z⟩, ⟨nl1_z, nl2_z, nl3_z⟩, ⟨nr1_z, nr2_z, nr3_z⟩, ⟨nk1_z, nk2_z, nk3_z⟩, ⟨AC0, AC1, AC2, AC3⟩, AD, AE, AG⟩, ⟨⟨c1_z, c2_z, c3_z, c4_z, c5_z, c6_z, c7_z, c8_z⟩, ⟨m2_z, m3_z, m4_z, m5_z, m6_z, m7_z, m8_z⟩, R3, R4, R5, R6, R7, R8, R9, R10⟩⟩ := (⟨A, R⟩ : rp 2 h232_z h235_z ∧ rq T S x1_z p1_z 2 h232_z h235_z)
    replace hc_z := rn_aload_n (am_cur_of (i := (5, 1, .aload_n 0, (0, 0, 0), 0)) (by decide +kernel)) g0_z hc_z
    replace hc_z := rn_getM (x := 2) (am_cur_of (i := (6, 3, .getfield 25, (4, 6, 415), 0)) (by decide +kernel)) R3 hc_z
    replace hc_z := rn_aload_n (am_cur_of (i := (9, 1, .aload_n 0, (0, 0, 0), 0)) (by decide +kernel)) g0_z hc_z
    replace hc_z := rn_iconst (w := 1) (am_cur_of (i := (10, 1, .iconst 1, (0, 0, 0), 0)) (by decide +kernel)) (by decide) hc_z
    replace hc_z := rn_sipush (w := 9999) (am_cur_of (i := (11, 3, .sipush 9999, (0, 0, 0), 0)) (by decide +kernel)) (by decide) hc_z
    replace hc_z := rn_callV (M' := am_m30) (o := 44) (ar := [.int 9999, .int 1]) (rest := [.ref 2]) (L := lv_args 0 [.ref 44, .int 1, .int 9999]) (am_cur_of (i := (14, 3, .invokevirtual 142, (30, 773, 3), 0)) (by decide +kernel)) rfl rfl rfl rfl hc_z
    obtain ⟨r237_z, h238_z, q239_z, hc_z⟩ := hc_z
    replace hm_z := rn_ifF (am_cur_of (i := (5, 3, .ifCond .eq 14, (9, 0, 0), 0)) (by decide +kernel)) (by decide) hm_z
    replace hm_z := rn_aload_n (am_cur_of (i := (8, 1, .aload_n 0, (0, 0, 0), 0)) (by decide +kernel)) g0m hm_z
    replace hm_z := rn_iconst (w := 1) (am_cur_of (i := (9, 1, .iconst 1, (0, 0, 0), 0)) (by decide +kernel)) (by decide) hm_z
    replace hm_z := rn_sipush (w := 9999) (am_cur_of (i := (10, 3, .sipush 9999, (0, 0, 0), 0)) (by decide +kernel)) (by decide) hm_z
    replace hm_z := rn_callV (M' := am_m161) (o := 164) (ar := [.int 9999, .int 1]) (rest := []) (L := lv_args 0 [.ref 164, .int 1, .int 9999]) (am_cur_of (i := (13, 3, .invokevirtual 197, (161, 1677, 3), 0)) (by decide +kernel)) rfl rfl rfl rfl hm_z
    obtain ⟨r240_z, h241_z, q242_z, hm_z⟩ := hm_z
    have R' : rq T S x1_z p1_z 2 h232_z h235_z := ⟨⟨c1_z, c2_z, c3_z, c4_z, c5_z, c6_z, fun k hk_z => c7_z k hk_z, fun k hk_z => c8_z k hk_z⟩, ⟨m2_z, m3_z, m4_z, m5_z, m6_z, fun k hk_z => m7_z k hk_z, fun k hk_z => m8_z k hk_z⟩, R3, R4, R5, R6, R7, R8, R9, R10⟩
    have A' : rp 2 h232_z h235_z := ⟨⟨a1_z, a2_z, a3_z, a4_z, a5_z, a6_z⟩, ⟨nb1_z, nb2_z, nb3_z⟩, ⟨nt1_z, nt2_z, nt3_z⟩, ⟨nl1_z, nl2_z, nl3_z⟩, ⟨nr1_z, nr2_z, nr3_z⟩, ⟨nk1_z, nk2_z, nk3_z⟩, ⟨fun hb_z k hk_z => AC0 hb_z k hk_z, fun hb_z k hk_z => AC1 hb_z k hk_z, fun hb_z k hk_z => AC2 hb_z k hk_z, fun hb_z k hk_z => AC3 hb_z k hk_z⟩, fun t ht => AD t ht, fun t ht => AE t ht, fun t ht => AG t ht⟩
    have B' : rp_t h232_z h235_z := by
      obtain ⟨b0_z, b1_z, b2_z, b3_z, b4_z, b5_z, b6_z, t, o0_z, o1_z, o2_z, o3_z, o4_z, o5_z, o6_z⟩ := B
      exact ⟨b0_z, b1_z, b2_z, b3_z, b4_z, b5_z, b6_z, t, o0_z, o1_z, o2_z, o3_z, o4_z, o5_z, o6_z⟩
    rcases pr_num R' (by decide) (by decide) q239_z q242_z with ⟨v2_z, x2_z, p2_z, rfl, rfl, lo2_z, hi2_z, R, le2_z, got, X, Y, t7_z, t167_z⟩ | ⟨rfl, F⟩
    · replace A := rp_x (by decide) A' X Y
      replace B := rp_tk B' t7_z t167_z Y
      clear A' B' R'
      replace le2_z : x.toInt ≤ p2_z.toInt := Int.le_trans (Int.le_trans le1_z R8) le2_z
      replace hm_z : rn _ _ _ _ [.int 1] _ _ _ := hm_z
      replace hc_z : rn _ _ _ _ [.int v2_z, .ref 2] _ _ _ := hc_z
      clear a1_z a2_z a3_z a4_z a5_z a6_z nb1_z nb2_z nb3_z nt1_z nt2_z nt3_z nl1_z nl2_z nl3_z nr1_z nr2_z nr3_z nk1_z nk2_z nk3_z AC0 AC1 AC2 AC3 AD AE AG c1_z c2_z c3_z c4_z c5_z c6_z c7_z c8_z m2_z m3_z m4_z m5_z m6_z m7_z m8_z R3 R4 R5 R6 R7 R8 R9 R10
      obtain ⟨⟨⟨a1_z, a2_z, a3_z, a4_z, a5_z, a6_z⟩, ⟨nb1_z, nb2_z, nb3_z⟩, ⟨nt1_z, nt2_z, nt3_z⟩, ⟨nl1_z, nl2_z, nl3_z⟩, ⟨nr1_z, nr2_z, nr3_z⟩, ⟨nk1_z, nk2_z, nk3_z⟩, ⟨AC0, AC1, AC2, AC3⟩, AD, AE, AG⟩, ⟨⟨c1_z, c2_z, c3_z, c4_z, c5_z, c6_z, c7_z, c8_z⟩, ⟨m2_z, m3_z, m4_z, m5_z, m6_z, m7_z, m8_z⟩, R3, R4, R5, R6, R7, R8, R9, R10⟩⟩ := (⟨A, R⟩ : rp 2 h238_z h241_z ∧ rq T S x2_z p2_z 2 h238_z h241_z)
      replace hc_z := rn_put (am_cur_of (i := (17, 3, .putfield 145, (1, 0, 250), 0)) (by decide +kernel)) (by decide +kernel) hc_z
      replace hc_z := rn_aload_n (am_cur_of (i := (20, 1, .aload_n 0, (0, 0, 0), 0)) (by decide +kernel)) g0_z hc_z
      replace hc_z := rn_getI (v := 0) (am_cur_of (i := (21, 3, .getfield 51, (4, 1, 408), 0)) (by decide +kernel)) (by decide +kernel) (show rg_v (am_up h238_z 2 0 (.int v2_z)) 44 1 = 0 from R4) hc_z
      replace hc_z := rn_ifF (am_cur_of (i := (24, 3, .ifCond .ne 30, (26, 0, 0), 0)) (by decide +kernel)) (by decide) hc_z
      replace hc_z := rn_aload_n (am_cur_of (i := (27, 1, .aload_n 0, (0, 0, 0), 0)) (by decide +kernel)) g0_z hc_z
      replace hc_z := rn_getI (v := rg_v h238_z 44 10) (am_cur_of (i := (28, 3, .getfield 60, (4, 10, 419), 0)) (by decide +kernel)) (by decide +kernel) (show rg_v (am_up h238_z 2 0 (.int v2_z)) 44 10 = rg_v h238_z 44 10 from rfl) hc_z
      replace hc_z := rn_iconst (w := 4) (am_cur_of (i := (31, 1, .iconst 4, (0, 0, 0), 0)) (by decide +kernel)) (by decide) hc_z
      replace hc_z := rn_cmp (am_cur_of (i := (32, 3, .if_icmp .ne 22, (26, 0, 0), 0)) (by decide +kernel)) hc_z
      rcases hc_z with ⟨b243_z, hc_z⟩ | ⟨b243_z, hc_z⟩
      · replace b243_z : ¬ (rg_v h238_z 44 10) = (4 : Int32) ∧ ¬ (rg_v h238_z 44 10).toInt = (4 : Int32).toInt := b243_z
        replace hc_z := rn_vret (am_cur_of (i := (54, 1, .return_, (0, 0, 0), 0)) (by decide +kernel)) hc_z
        obtain ⟨e244_z, e245_z⟩ := hc_z
        subst e244_z e245_z
        replace hm_z := rn_ifT (am_cur_of (i := (16, 3, .ifCond .ne 5, (11, 0, 0), 0)) (by decide +kernel)) (by decide) hm_z
        replace hm_z := rn_aload_n (am_cur_of (i := (21, 1, .aload_n 0, (0, 0, 0), 0)) (by decide +kernel)) g0m hm_z
        replace hm_z := rn_getR (x := 168) (am_cur_of (i := (22, 3, .getfield 24, (12, 23, 1407), 0)) (by decide +kernel)) (by decide +kernel) hm_z
        replace hm_z := rn_bipush (w := 6) (am_cur_of (i := (25, 2, .bipush 6, (0, 0, 0), 0)) (by decide +kernel)) (by decide) hm_z
        replace hm_z := rn_aload_n (am_cur_of (i := (27, 1, .aload_n 0, (0, 0, 0), 0)) (by decide +kernel)) g0m hm_z
        replace hm_z := rn_getI (v := v2_z) (am_cur_of (i := (28, 3, .getfield 188, (12, 11, 1395), 0)) (by decide +kernel)) (by decide +kernel) got hm_z
        replace hm_z := rn_iastore (N := 12) (q := 6) (am_cur_of (i := (31, 1, .iastore, (0, 0, 0), 0)) (by decide +kernel)) (by decide +kernel) rfl hm_z
        obtain ⟨p246_z, hm_z⟩ := hm_z
        replace hm_z := rn_aload_n (am_cur_of (i := (32, 1, .aload_n 0, (0, 0, 0), 0)) (by decide +kernel)) g0m hm_z
        replace hm_z := rn_getI (v := rg_v h241_z 164 8) (am_cur_of (i := (33, 3, .getfield 157, (12, 8, 1392), 0)) (by decide +kernel)) (by decide +kernel) (show rg_v (am_up h241_z 168 6 (.int v2_z)) 164 8 = rg_v h241_z 164 8 from rfl) hm_z
        replace hm_z := rn_iconst (w := 3) (am_cur_of (i := (36, 1, .iconst 3, (0, 0, 0), 0)) (by decide +kernel)) (by decide) hm_z
        replace hm_z := rn_cmp (am_cur_of (i := (37, 3, .if_icmp .eq 5, (23, 0, 0), 0)) (by decide +kernel)) hm_z
        rcases hm_z with ⟨b247_z, hm_z⟩ | ⟨b247_z, hm_z⟩
        · replace b247_z : (rg_v h241_z 164 8) = (3 : Int32) ∧ (rg_v h241_z 164 8).toInt = (3 : Int32).toInt := b247_z
          exact absurd b247_z.1 (tk_n4 R10 b243_z.1)
        · replace b247_z : ¬ (rg_v h241_z 164 8) = (3 : Int32) ∧ ¬ (rg_v h241_z 164 8).toInt = (3 : Int32).toInt := b247_z
          replace hm_z := rn_iconst (w := 1) (am_cur_of (i := (40, 1, .iconst 1, (0, 0, 0), 0)) (by decide +kernel)) (by decide) hm_z
          replace hm_z := rn_iret (am_cur_of (i := (41, 1, .ireturn, (0, 0, 0), 0)) (by decide +kernel)) hm_z
          obtain ⟨e248_z, e249_z⟩ := hm_z
          subst e248_z e249_z
          have R' : rq T S x2_z p2_z 2 (am_up h238_z 2 0 (.int v2_z)) (am_up h241_z 168 6 (.int v2_z)) := ⟨⟨c1_z, c2_z, c3_z, c4_z, c5_z, c6_z, fun k hk_z => c7_z k hk_z, fun k hk_z => c8_z k hk_z⟩, ⟨m2_z, m3_z, m4_z, m5_z, m6_z, fun k hk_z => m7_z k hk_z, fun k hk_z => m8_z k hk_z⟩, R3, R4, R5, R6, R7, R8, R9, R10⟩
          have A' : rp 2 (am_up h238_z 2 0 (.int v2_z)) (am_up h241_z 168 6 (.int v2_z)) := ⟨⟨rfl, a2_z, a3_z, a4_z, a5_z, a6_z⟩, ⟨nb1_z, nb2_z, nb3_z⟩, ⟨nt1_z, nt2_z, nt3_z⟩, ⟨nl1_z, nl2_z, nl3_z⟩, ⟨nr1_z, nr2_z, nr3_z⟩, ⟨nk1_z, nk2_z, nk3_z⟩, ⟨fun hb_z k hk_z => AC0 hb_z k hk_z, fun hb_z k hk_z => AC1 hb_z k hk_z, fun hb_z k hk_z => AC2 hb_z k hk_z, fun hb_z k hk_z => AC3 hb_z k hk_z⟩, fun t ht => AD t ht, fun t ht => AE t ht, fun t ht => AG t ht⟩
          have B' : rp_t (am_up h238_z 2 0 (.int v2_z)) (am_up h241_z 168 6 (.int v2_z)) := by
            obtain ⟨b0_z, b1_z, b2_z, b3_z, b4_z, b5_z, b6_z, t, o0_z, o1_z, o2_z, o3_z, o4_z, o5_z, o6_z⟩ := B
            exact ⟨b0_z, b1_z, b2_z, b3_z, b4_z, b5_z, b6_z, t, o0_z, o1_z, o2_z, o3_z, o4_z, o5_z, o6_z⟩
          exact Or.inl ⟨rfl, _, _, R', le2_z, A', B'⟩
      · replace b243_z : (rg_v h238_z 44 10) = (4 : Int32) ∧ (rg_v h238_z 44 10).toInt = (4 : Int32).toInt := b243_z
        replace hc_z := rn_aload_n (am_cur_of (i := (35, 1, .aload_n 0, (0, 0, 0), 0)) (by decide +kernel)) g0_z hc_z
        replace hc_z := rn_getM (x := 2) (am_cur_of (i := (36, 3, .getfield 25, (4, 6, 415), 0)) (by decide +kernel)) (show (am_up h238_z 2 0 (.int v2_z)) 44 6 = .ref 2 from R3) hc_z
        replace hc_z := rn_aload_n (am_cur_of (i := (39, 1, .aload_n 0, (0, 0, 0), 0)) (by decide +kernel)) g0_z hc_z
        replace hc_z := rn_iconst (w := 0) (am_cur_of (i := (40, 1, .iconst 0, (0, 0, 0), 0)) (by decide +kernel)) (by decide) hc_z
        replace hc_z := rn_aload_n (am_cur_of (i := (41, 1, .aload_n 0, (0, 0, 0), 0)) (by decide +kernel)) g0_z hc_z
        replace hc_z := rn_getM (x := 2) (am_cur_of (i := (42, 3, .getfield 25, (4, 6, 415), 0)) (by decide +kernel)) (show (am_up h238_z 2 0 (.int v2_z)) 44 6 = .ref 2 from R3) hc_z
        replace hc_z := rn_getI (v := v2_z) (am_cur_of (i := (45, 3, .getfield 145, (1, 0, 250), 0)) (by decide +kernel)) (by decide +kernel) (show rg_v (am_up h238_z 2 0 (.int v2_z)) 2 0 = v2_z from rfl) hc_z
        replace hc_z := rn_callV (M' := am_m30) (o := 44) (ar := [.int v2_z, .int 0]) (rest := [.ref 2]) (L := lv_args 0 [.ref 44, .int 0, .int v2_z]) (am_cur_of (i := (48, 3, .invokevirtual 142, (30, 773, 3), 0)) (by decide +kernel)) rfl rfl rfl rfl hc_z
        obtain ⟨r250_z, h251_z, q252_z, hc_z⟩ := hc_z
        replace hm_z := rn_ifT (am_cur_of (i := (16, 3, .ifCond .ne 5, (11, 0, 0), 0)) (by decide +kernel)) (by decide) hm_z
        replace hm_z := rn_aload_n (am_cur_of (i := (21, 1, .aload_n 0, (0, 0, 0), 0)) (by decide +kernel)) g0m hm_z
        replace hm_z := rn_getR (x := 168) (am_cur_of (i := (22, 3, .getfield 24, (12, 23, 1407), 0)) (by decide +kernel)) (by decide +kernel) hm_z
        replace hm_z := rn_bipush (w := 6) (am_cur_of (i := (25, 2, .bipush 6, (0, 0, 0), 0)) (by decide +kernel)) (by decide) hm_z
        replace hm_z := rn_aload_n (am_cur_of (i := (27, 1, .aload_n 0, (0, 0, 0), 0)) (by decide +kernel)) g0m hm_z
        replace hm_z := rn_getI (v := v2_z) (am_cur_of (i := (28, 3, .getfield 188, (12, 11, 1395), 0)) (by decide +kernel)) (by decide +kernel) got hm_z
        replace hm_z := rn_iastore (N := 12) (q := 6) (am_cur_of (i := (31, 1, .iastore, (0, 0, 0), 0)) (by decide +kernel)) (by decide +kernel) rfl hm_z
        obtain ⟨p253_z, hm_z⟩ := hm_z
        replace hm_z := rn_aload_n (am_cur_of (i := (32, 1, .aload_n 0, (0, 0, 0), 0)) (by decide +kernel)) g0m hm_z
        replace hm_z := rn_getI (v := rg_v h241_z 164 8) (am_cur_of (i := (33, 3, .getfield 157, (12, 8, 1392), 0)) (by decide +kernel)) (by decide +kernel) (show rg_v (am_up h241_z 168 6 (.int v2_z)) 164 8 = rg_v h241_z 164 8 from rfl) hm_z
        replace hm_z := rn_iconst (w := 3) (am_cur_of (i := (36, 1, .iconst 3, (0, 0, 0), 0)) (by decide +kernel)) (by decide) hm_z
        replace hm_z := rn_cmp (am_cur_of (i := (37, 3, .if_icmp .eq 5, (23, 0, 0), 0)) (by decide +kernel)) hm_z
        rcases hm_z with ⟨b254_z, hm_z⟩ | ⟨b254_z, hm_z⟩
        · replace b254_z : (rg_v h241_z 164 8) = (3 : Int32) ∧ (rg_v h241_z 164 8).toInt = (3 : Int32).toInt := b254_z
          replace hm_z := rn_aload_n (am_cur_of (i := (42, 1, .aload_n 0, (0, 0, 0), 0)) (by decide +kernel)) g0m hm_z
          replace hm_z := rn_iconst (w := 0) (am_cur_of (i := (43, 1, .iconst 0, (0, 0, 0), 0)) (by decide +kernel)) (by decide) hm_z
          replace hm_z := rn_aload_n (am_cur_of (i := (44, 1, .aload_n 0, (0, 0, 0), 0)) (by decide +kernel)) g0m hm_z
          replace hm_z := rn_getR (x := 168) (am_cur_of (i := (45, 3, .getfield 24, (12, 23, 1407), 0)) (by decide +kernel)) (by decide +kernel) hm_z
          replace hm_z := rn_bipush (w := 6) (am_cur_of (i := (48, 2, .bipush 6, (0, 0, 0), 0)) (by decide +kernel)) (by decide) hm_z
          replace hm_z := rn_iaload (N := 12) (q := 6) (v := v2_z) (am_cur_of (i := (50, 1, .iaload, (0, 0, 0), 0)) (by decide +kernel)) (by decide +kernel) rfl (show rg_v (am_up h241_z 168 6 (.int v2_z)) 168 6 = v2_z from rfl) hm_z
          obtain ⟨p255_z, hm_z⟩ := hm_z
          replace hm_z := rn_callV (M' := am_m161) (o := 164) (ar := [.int v2_z, .int 0]) (rest := []) (L := lv_args 0 [.ref 164, .int 0, .int v2_z]) (am_cur_of (i := (51, 3, .invokevirtual 197, (161, 1677, 3), 0)) (by decide +kernel)) rfl rfl rfl rfl hm_z
          obtain ⟨r256_z, h257_z, q258_z, hm_z⟩ := hm_z
          have R' : rq T S x2_z p2_z 2 (am_up h238_z 2 0 (.int v2_z)) (am_up h241_z 168 6 (.int v2_z)) := ⟨⟨c1_z, c2_z, c3_z, c4_z, c5_z, c6_z, fun k hk_z => c7_z k hk_z, fun k hk_z => c8_z k hk_z⟩, ⟨m2_z, m3_z, m4_z, m5_z, m6_z, fun k hk_z => m7_z k hk_z, fun k hk_z => m8_z k hk_z⟩, R3, R4, R5, R6, R7, R8, R9, R10⟩
          have A' : rp 2 (am_up h238_z 2 0 (.int v2_z)) (am_up h241_z 168 6 (.int v2_z)) := ⟨⟨rfl, a2_z, a3_z, a4_z, a5_z, a6_z⟩, ⟨nb1_z, nb2_z, nb3_z⟩, ⟨nt1_z, nt2_z, nt3_z⟩, ⟨nl1_z, nl2_z, nl3_z⟩, ⟨nr1_z, nr2_z, nr3_z⟩, ⟨nk1_z, nk2_z, nk3_z⟩, ⟨fun hb_z k hk_z => AC0 hb_z k hk_z, fun hb_z k hk_z => AC1 hb_z k hk_z, fun hb_z k hk_z => AC2 hb_z k hk_z, fun hb_z k hk_z => AC3 hb_z k hk_z⟩, fun t ht => AD t ht, fun t ht => AE t ht, fun t ht => AG t ht⟩
          have B' : rp_t (am_up h238_z 2 0 (.int v2_z)) (am_up h241_z 168 6 (.int v2_z)) := by
            obtain ⟨b0_z, b1_z, b2_z, b3_z, b4_z, b5_z, b6_z, t, o0_z, o1_z, o2_z, o3_z, o4_z, o5_z, o6_z⟩ := B
            exact ⟨b0_z, b1_z, b2_z, b3_z, b4_z, b5_z, b6_z, t, o0_z, o1_z, o2_z, o3_z, o4_z, o5_z, o6_z⟩
          rcases pr_num R' (by decide) (by omega) q252_z q258_z with ⟨v3_z, x3_z, p3_z, rfl, rfl, lo3_z, hi3_z, R, le3_z, got, X, Y, t7_z, t167_z⟩ | ⟨rfl, F⟩
          · replace A := rp_x (by decide) A' X Y
            replace B := rp_tk B' t7_z t167_z Y
            clear A' B' R'
            replace le3_z : x.toInt ≤ p3_z.toInt := Int.le_trans (Int.le_trans le2_z R8) le3_z
            replace hm_z : rn _ _ _ _ [.int 1] _ _ _ := hm_z
            replace hc_z : rn _ _ _ _ [.int v3_z, .ref 2] _ _ _ := hc_z
            clear a1_z a2_z a3_z a4_z a5_z a6_z nb1_z nb2_z nb3_z nt1_z nt2_z nt3_z nl1_z nl2_z nl3_z nr1_z nr2_z nr3_z nk1_z nk2_z nk3_z AC0 AC1 AC2 AC3 AD AE AG c1_z c2_z c3_z c4_z c5_z c6_z c7_z c8_z m2_z m3_z m4_z m5_z m6_z m7_z m8_z R3 R4 R5 R6 R7 R8 R9 R10
            obtain ⟨⟨⟨a1_z, a2_z, a3_z, a4_z, a5_z, a6_z⟩, ⟨nb1_z, nb2_z, nb3_z⟩, ⟨nt1_z, nt2_z, nt3_z⟩, ⟨nl1_z, nl2_z, nl3_z⟩, ⟨nr1_z, nr2_z, nr3_z⟩, ⟨nk1_z, nk2_z, nk3_z⟩, ⟨AC0, AC1, AC2, AC3⟩, AD, AE, AG⟩, ⟨⟨c1_z, c2_z, c3_z, c4_z, c5_z, c6_z, c7_z, c8_z⟩, ⟨m2_z, m3_z, m4_z, m5_z, m6_z, m7_z, m8_z⟩, R3, R4, R5, R6, R7, R8, R9, R10⟩⟩ := (⟨A, R⟩ : rp 2 h251_z h257_z ∧ rq T S x3_z p3_z 2 h251_z h257_z)
            replace hc_z := rn_put (am_cur_of (i := (51, 3, .putfield 148, (1, 1, 254), 0)) (by decide +kernel)) (by decide +kernel) hc_z
            replace hc_z := rn_vret (am_cur_of (i := (54, 1, .return_, (0, 0, 0), 0)) (by decide +kernel)) hc_z
            obtain ⟨e259_z, e260_z⟩ := hc_z
            subst e259_z e260_z
            replace hm_z := rn_ifT (am_cur_of (i := (54, 3, .ifCond .ne 5, (33, 0, 0), 0)) (by decide +kernel)) (by decide) hm_z
            replace hm_z := rn_aload_n (am_cur_of (i := (59, 1, .aload_n 0, (0, 0, 0), 0)) (by decide +kernel)) g0m hm_z
            replace hm_z := rn_getR (x := 168) (am_cur_of (i := (60, 3, .getfield 24, (12, 23, 1407), 0)) (by decide +kernel)) (by decide +kernel) hm_z
            replace hm_z := rn_bipush (w := 7) (am_cur_of (i := (63, 2, .bipush 7, (0, 0, 0), 0)) (by decide +kernel)) (by decide) hm_z
            replace hm_z := rn_aload_n (am_cur_of (i := (65, 1, .aload_n 0, (0, 0, 0), 0)) (by decide +kernel)) g0m hm_z
            replace hm_z := rn_getI (v := v3_z) (am_cur_of (i := (66, 3, .getfield 188, (12, 11, 1395), 0)) (by decide +kernel)) (by decide +kernel) got hm_z
            replace hm_z := rn_iastore (N := 12) (q := 7) (am_cur_of (i := (69, 1, .iastore, (0, 0, 0), 0)) (by decide +kernel)) (by decide +kernel) rfl hm_z
            obtain ⟨p261_z, hm_z⟩ := hm_z
            replace hm_z := rn_iconst (w := 1) (am_cur_of (i := (70, 1, .iconst 1, (0, 0, 0), 0)) (by decide +kernel)) (by decide) hm_z
            replace hm_z := rn_iret (am_cur_of (i := (71, 1, .ireturn, (0, 0, 0), 0)) (by decide +kernel)) hm_z
            obtain ⟨e262_z, e263_z⟩ := hm_z
            subst e262_z e263_z
            have R' : rq T S x3_z p3_z 2 (am_up h251_z 2 1 (.int v3_z)) (am_up h257_z 168 7 (.int v3_z)) := ⟨⟨c1_z, c2_z, c3_z, c4_z, c5_z, c6_z, fun k hk_z => c7_z k hk_z, fun k hk_z => c8_z k hk_z⟩, ⟨m2_z, m3_z, m4_z, m5_z, m6_z, fun k hk_z => m7_z k hk_z, fun k hk_z => m8_z k hk_z⟩, R3, R4, R5, R6, R7, R8, R9, R10⟩
            have A' : rp 2 (am_up h251_z 2 1 (.int v3_z)) (am_up h257_z 168 7 (.int v3_z)) := ⟨⟨a1_z, rfl, a3_z, a4_z, a5_z, a6_z⟩, ⟨nb1_z, nb2_z, nb3_z⟩, ⟨nt1_z, nt2_z, nt3_z⟩, ⟨nl1_z, nl2_z, nl3_z⟩, ⟨nr1_z, nr2_z, nr3_z⟩, ⟨nk1_z, nk2_z, nk3_z⟩, ⟨fun hb_z k hk_z => AC0 hb_z k hk_z, fun hb_z k hk_z => AC1 hb_z k hk_z, fun hb_z k hk_z => AC2 hb_z k hk_z, fun hb_z k hk_z => AC3 hb_z k hk_z⟩, fun t ht => AD t ht, fun t ht => AE t ht, fun t ht => AG t ht⟩
            have B' : rp_t (am_up h251_z 2 1 (.int v3_z)) (am_up h257_z 168 7 (.int v3_z)) := by
              obtain ⟨b0_z, b1_z, b2_z, b3_z, b4_z, b5_z, b6_z, t, o0_z, o1_z, o2_z, o3_z, o4_z, o5_z, o6_z⟩ := B
              exact ⟨b0_z, b1_z, b2_z, b3_z, b4_z, b5_z, b6_z, t, o0_z, o1_z, o2_z, o3_z, o4_z, o5_z, o6_z⟩
            exact Or.inl ⟨rfl, _, _, R', le3_z, A', B'⟩
          · obtain ⟨wv, w0_z, f1_z, f2_z, f3_z, f4_z⟩ := F
            have K := rs_stick (a := 27) (by decide) (by decide) rfl w0_z f1_z f2_z hc_z
            replace hm_z : rn _ _ _ _ [.int 0] _ _ _ := hm_z
            replace hm_z := rn_ifF (am_cur_of (i := (54, 3, .ifCond .ne 5, (33, 0, 0), 0)) (by decide +kernel)) (by decide) hm_z
            replace hm_z := rn_iconst (w := 0) (am_cur_of (i := (57, 1, .iconst 0, (0, 0, 0), 0)) (by decide +kernel)) (by decide) hm_z
            replace hm_z := rn_iret (am_cur_of (i := (58, 1, .ireturn, (0, 0, 0), 0)) (by decide +kernel)) hm_z
            obtain ⟨e264_z, e265_z⟩ := hm_z
            subst e264_z e265_z
            exact Or.inr ⟨rfl, _, wv, w0_z, K.1, K.2, f3_z, f4_z⟩
        · replace b254_z : ¬ (rg_v h241_z 164 8) = (3 : Int32) ∧ ¬ (rg_v h241_z 164 8).toInt = (3 : Int32).toInt := b254_z
          exact absurd (tk_4 R10 b243_z.1).1 b254_z.1
    · obtain ⟨wv, w0_z, f1_z, f2_z, f3_z, f4_z⟩ := F
      have K := rs_stick (a := 27) (by decide) (by decide) rfl w0_z f1_z f2_z hc_z
      replace hm_z : rn _ _ _ _ [.int 0] _ _ _ := hm_z
      replace hm_z := rn_ifF (am_cur_of (i := (16, 3, .ifCond .ne 5, (11, 0, 0), 0)) (by decide +kernel)) (by decide) hm_z
      replace hm_z := rn_iconst (w := 0) (am_cur_of (i := (19, 1, .iconst 0, (0, 0, 0), 0)) (by decide +kernel)) (by decide) hm_z
      replace hm_z := rn_iret (am_cur_of (i := (20, 1, .ireturn, (0, 0, 0), 0)) (by decide +kernel)) hm_z
      obtain ⟨e266_z, e267_z⟩ := hm_z
      subst e266_z e267_z
      exact Or.inr ⟨rfl, _, wv, w0_z, K.1, K.2, f3_z, f4_z⟩
  · obtain ⟨wv, w0_z, f1_z, f2_z, f3_z, f4_z⟩ := F
    have K := rs_stick (a := 27) (by decide) (by decide) rfl w0_z f1_z f2_z hc_z
    replace hm_z : rn _ _ _ _ [.int 0] _ _ _ := hm_z
    replace hm_z := rn_ifT (am_cur_of (i := (5, 3, .ifCond .eq 14, (9, 0, 0), 0)) (by decide +kernel)) (by decide) hm_z
    replace hm_z := rn_iconst (w := 0) (am_cur_of (i := (19, 1, .iconst 0, (0, 0, 0), 0)) (by decide +kernel)) (by decide) hm_z
    replace hm_z := rn_iret (am_cur_of (i := (20, 1, .ireturn, (0, 0, 0), 0)) (by decide +kernel)) hm_z
    obtain ⟨e268_z, e269_z⟩ := hm_z
    subst e268_z e269_z
    exact Or.inr ⟨rfl, _, wv, w0_z, K.1, K.2, f3_z, f4_z⟩
theorem pl_pump2 {T : Nat → Int32} {S x p : Int32} {n n' : Nat} {h h' g g' : am_H} {r r' : Option Value} (R : rq T S x p 2 h g) (A : rp 2 h g) (B : rp_t h g) (hc_z : rn n am_m36 0 (lv_args 0 [.ref 44]) [] h r h') (hm_z : rn n' am_m167 0 (lv_args 0 [.ref 164]) [] g r' g') : pl_Q T S x 2 h' g' r' := by
  have z1_z : (1 : Int32).toInt = 1 := by decide
  have z99_z : (99 : Int32).toInt = 99 := by decide
  have g0_z : am_get (lv_args 0 [.ref 44]) 0 = some (.ref 44) := rfl
  have g0m : am_get (lv_args 0 [.ref 164]) 0 = some (.ref 164) := rfl
  obtain ⟨⟨⟨a1_z, a2_z, a3_z, a4_z, a5_z, a6_z⟩, ⟨nb1_z, nb2_z, nb3_z⟩, ⟨nt1_z, nt2_z, nt3_z⟩, ⟨nl1_z, nl2_z, nl3_z⟩, ⟨nr1_z, nr2_z, nr3_z⟩, ⟨nk1_z, nk2_z, nk3_z⟩, ⟨AC0, AC1, AC2, AC3⟩, AD, AE, AG⟩, ⟨⟨c1_z, c2_z, c3_z, c4_z, c5_z, c6_z, c7_z, c8_z⟩, ⟨m2_z, m3_z, m4_z, m5_z, m6_z, m7_z, m8_z⟩, R3, R4, R5, R6, R7, R8, R9, R10⟩⟩ := (⟨A, R⟩ : rp 2 h g ∧ rq T S x p 2 h g)
  replace hc_z := rn_aload_n (am_cur_of (i := (0, 1, .aload_n 0, (0, 0, 0), 0)) (by decide +kernel)) g0_z hc_z
  replace hc_z := rn_iconst (w := 3) (am_cur_of (i := (1, 1, .iconst 3, (0, 0, 0), 0)) (by decide +kernel)) (by decide) hc_z
  replace hc_z := rn_callV (M' := am_m28) (o := 44) (ar := [.int 3]) (rest := []) (L := lv_args 0 [.ref 44, .int 3]) (am_cur_of (i := (2, 3, .invokevirtual 139, (28, 765, 3), 0)) (by decide +kernel)) rfl rfl rfl rfl hc_z
  obtain ⟨r270_z, h271_z, q272_z, hc_z⟩ := hc_z
  have vo := rn_void rfl q272_z
  subst vo
  replace hm_z := rn_aload_n (am_cur_of (i := (0, 1, .aload_n 0, (0, 0, 0), 0)) (by decide +kernel)) g0m hm_z
  replace hm_z := rn_iconst (w := 1) (am_cur_of (i := (1, 1, .iconst 1, (0, 0, 0), 0)) (by decide +kernel)) (by decide) hm_z
  replace hm_z := rn_callV (M' := am_m160) (o := 164) (ar := [.int 1]) (rest := []) (L := lv_args 0 [.ref 164, .int 1]) (am_cur_of (i := (2, 3, .invokevirtual 245, (160, 1673, 3), 0)) (by decide +kernel)) rfl rfl rfl rfl hm_z
  obtain ⟨r273_z, h274_z, q275_z, hm_z⟩ := hm_z
  rcases pr_once1 R B q272_z q275_z with ⟨x1_z, p1_z, rfl, R', le1_z, B', X, Y⟩ | ⟨rfl, F⟩
  · replace A := rp_x (by decide) A X Y
    replace B := B'
    replace R := R'
    clear B' R'
    replace hm_z : rn _ _ _ _ [.int 1] _ _ _ := hm_z
    replace hc_z : rn _ _ _ _ [] _ _ _ := hc_z
    clear a1_z a2_z a3_z a4_z a5_z a6_z nb1_z nb2_z nb3_z nt1_z nt2_z nt3_z nl1_z nl2_z nl3_z nr1_z nr2_z nr3_z nk1_z nk2_z nk3_z AC0 AC1 AC2 AC3 AD AE AG c1_z c2_z c3_z c4_z c5_z c6_z c7_z c8_z m2_z m3_z m4_z m5_z m6_z m7_z m8_z R3 R4 R5 R6 R7 R8 R9 R10
    obtain ⟨⟨⟨a1_z, a2_z, a3_z, a4_z, a5_z, a6_z⟩, ⟨nb1_z, nb2_z, nb3_z⟩, ⟨nt1_z, nt2_z, nt3_z⟩, ⟨nl1_z, nl2_z, nl3_z⟩, ⟨nr1_z, nr2_z, nr3_z⟩, ⟨nk1_z, nk2_z, nk3_z⟩, ⟨AC0, AC1, AC2, AC3⟩, AD, AE, AG⟩, ⟨⟨c1_z, c2_z, c3_z, c4_z, c5_z, c6_z, c7_z, c8_z⟩, ⟨m2_z, m3_z, m4_z, m5_z, m6_z, m7_z, m8_z⟩, R3, R4, R5, R6, R7, R8, R9, R10⟩⟩ := (⟨A, R⟩ : rp 2 h271_z h274_z ∧ rq T S x1_z p1_z 2 h271_z h274_z)
    replace hc_z := rn_aload_n (am_cur_of (i := (5, 1, .aload_n 0, (0, 0, 0), 0)) (by decide +kernel)) g0_z hc_z
    replace hc_z := rn_getM (x := 2) (am_cur_of (i := (6, 3, .getfield 25, (4, 6, 415), 0)) (by decide +kernel)) R3 hc_z
    replace hc_z := rn_aload_n (am_cur_of (i := (9, 1, .aload_n 0, (0, 0, 0), 0)) (by decide +kernel)) g0_z hc_z
    replace hc_z := rn_iconst (w := 1) (am_cur_of (i := (10, 1, .iconst 1, (0, 0, 0), 0)) (by decide +kernel)) (by decide) hc_z
    replace hc_z := rn_bipush (w := 99) (am_cur_of (i := (11, 2, .bipush 99, (0, 0, 0), 0)) (by decide +kernel)) (by decide) hc_z
    replace hc_z := rn_callV (M' := am_m30) (o := 44) (ar := [.int 99, .int 1]) (rest := [.ref 2]) (L := lv_args 0 [.ref 44, .int 1, .int 99]) (am_cur_of (i := (13, 3, .invokevirtual 142, (30, 773, 3), 0)) (by decide +kernel)) rfl rfl rfl rfl hc_z
    obtain ⟨r276_z, h277_z, q278_z, hc_z⟩ := hc_z
    replace hm_z := rn_ifF (am_cur_of (i := (5, 3, .ifCond .eq 13, (9, 0, 0), 0)) (by decide +kernel)) (by decide) hm_z
    replace hm_z := rn_aload_n (am_cur_of (i := (8, 1, .aload_n 0, (0, 0, 0), 0)) (by decide +kernel)) g0m hm_z
    replace hm_z := rn_iconst (w := 1) (am_cur_of (i := (9, 1, .iconst 1, (0, 0, 0), 0)) (by decide +kernel)) (by decide) hm_z
    replace hm_z := rn_bipush (w := 99) (am_cur_of (i := (10, 2, .bipush 99, (0, 0, 0), 0)) (by decide +kernel)) (by decide) hm_z
    replace hm_z := rn_callV (M' := am_m161) (o := 164) (ar := [.int 99, .int 1]) (rest := []) (L := lv_args 0 [.ref 164, .int 1, .int 99]) (am_cur_of (i := (12, 3, .invokevirtual 197, (161, 1677, 3), 0)) (by decide +kernel)) rfl rfl rfl rfl hm_z
    obtain ⟨r279_z, h280_z, q281_z, hm_z⟩ := hm_z
    have R' : rq T S x1_z p1_z 2 h271_z h274_z := ⟨⟨c1_z, c2_z, c3_z, c4_z, c5_z, c6_z, fun k hk_z => c7_z k hk_z, fun k hk_z => c8_z k hk_z⟩, ⟨m2_z, m3_z, m4_z, m5_z, m6_z, fun k hk_z => m7_z k hk_z, fun k hk_z => m8_z k hk_z⟩, R3, R4, R5, R6, R7, R8, R9, R10⟩
    have A' : rp 2 h271_z h274_z := ⟨⟨a1_z, a2_z, a3_z, a4_z, a5_z, a6_z⟩, ⟨nb1_z, nb2_z, nb3_z⟩, ⟨nt1_z, nt2_z, nt3_z⟩, ⟨nl1_z, nl2_z, nl3_z⟩, ⟨nr1_z, nr2_z, nr3_z⟩, ⟨nk1_z, nk2_z, nk3_z⟩, ⟨fun hb_z k hk_z => AC0 hb_z k hk_z, fun hb_z k hk_z => AC1 hb_z k hk_z, fun hb_z k hk_z => AC2 hb_z k hk_z, fun hb_z k hk_z => AC3 hb_z k hk_z⟩, fun t ht => AD t ht, fun t ht => AE t ht, fun t ht => AG t ht⟩
    have B' : rp_t h271_z h274_z := by
      obtain ⟨b0_z, b1_z, b2_z, b3_z, b4_z, b5_z, b6_z, t, o0_z, o1_z, o2_z, o3_z, o4_z, o5_z, o6_z⟩ := B
      exact ⟨b0_z, b1_z, b2_z, b3_z, b4_z, b5_z, b6_z, t, o0_z, o1_z, o2_z, o3_z, o4_z, o5_z, o6_z⟩
    rcases pr_num R' (by decide) (by decide) q278_z q281_z with ⟨v2_z, x2_z, p2_z, rfl, rfl, lo2_z, hi2_z, R, le2_z, got, X, Y, t7_z, t167_z⟩ | ⟨rfl, F⟩
    · replace A := rp_x (by decide) A' X Y
      replace B := rp_tk B' t7_z t167_z Y
      clear A' B' R'
      replace le2_z : x.toInt ≤ p2_z.toInt := Int.le_trans (Int.le_trans le1_z R8) le2_z
      replace hm_z : rn _ _ _ _ [.int 1] _ _ _ := hm_z
      replace hc_z : rn _ _ _ _ [.int v2_z, .ref 2] _ _ _ := hc_z
      clear a1_z a2_z a3_z a4_z a5_z a6_z nb1_z nb2_z nb3_z nt1_z nt2_z nt3_z nl1_z nl2_z nl3_z nr1_z nr2_z nr3_z nk1_z nk2_z nk3_z AC0 AC1 AC2 AC3 AD AE AG c1_z c2_z c3_z c4_z c5_z c6_z c7_z c8_z m2_z m3_z m4_z m5_z m6_z m7_z m8_z R3 R4 R5 R6 R7 R8 R9 R10
      obtain ⟨⟨⟨a1_z, a2_z, a3_z, a4_z, a5_z, a6_z⟩, ⟨nb1_z, nb2_z, nb3_z⟩, ⟨nt1_z, nt2_z, nt3_z⟩, ⟨nl1_z, nl2_z, nl3_z⟩, ⟨nr1_z, nr2_z, nr3_z⟩, ⟨nk1_z, nk2_z, nk3_z⟩, ⟨AC0, AC1, AC2, AC3⟩, AD, AE, AG⟩, ⟨⟨c1_z, c2_z, c3_z, c4_z, c5_z, c6_z, c7_z, c8_z⟩, ⟨m2_z, m3_z, m4_z, m5_z, m6_z, m7_z, m8_z⟩, R3, R4, R5, R6, R7, R8, R9, R10⟩⟩ := (⟨A, R⟩ : rp 2 h277_z h280_z ∧ rq T S x2_z p2_z 2 h277_z h280_z)
      replace hc_z := rn_put (am_cur_of (i := (16, 3, .putfield 205, (1, 7, 278), 0)) (by decide +kernel)) (by decide +kernel) hc_z
      replace hc_z := rn_aload_n (am_cur_of (i := (19, 1, .aload_n 0, (0, 0, 0), 0)) (by decide +kernel)) g0_z hc_z
      replace hc_z := rn_getM (x := 2) (am_cur_of (i := (20, 3, .getfield 25, (4, 6, 415), 0)) (by decide +kernel)) (show (am_up h277_z 2 7 (.int v2_z)) 44 6 = .ref 2 from R3) hc_z
      replace hc_z := rn_aload_n (am_cur_of (i := (23, 1, .aload_n 0, (0, 0, 0), 0)) (by decide +kernel)) g0_z hc_z
      replace hc_z := rn_iconst (w := 1) (am_cur_of (i := (24, 1, .iconst 1, (0, 0, 0), 0)) (by decide +kernel)) (by decide) hc_z
      replace hc_z := rn_bipush (w := 99) (am_cur_of (i := (25, 2, .bipush 99, (0, 0, 0), 0)) (by decide +kernel)) (by decide) hc_z
      replace hc_z := rn_callV (M' := am_m30) (o := 44) (ar := [.int 99, .int 1]) (rest := [.ref 2]) (L := lv_args 0 [.ref 44, .int 1, .int 99]) (am_cur_of (i := (27, 3, .invokevirtual 142, (30, 773, 3), 0)) (by decide +kernel)) rfl rfl rfl rfl hc_z
      obtain ⟨r282_z, h283_z, q284_z, hc_z⟩ := hc_z
      replace hm_z := rn_ifT (am_cur_of (i := (15, 3, .ifCond .ne 5, (11, 0, 0), 0)) (by decide +kernel)) (by decide) hm_z
      replace hm_z := rn_aload_n (am_cur_of (i := (20, 1, .aload_n 0, (0, 0, 0), 0)) (by decide +kernel)) g0m hm_z
      replace hm_z := rn_getR (x := 168) (am_cur_of (i := (21, 3, .getfield 24, (12, 23, 1407), 0)) (by decide +kernel)) (by decide +kernel) hm_z
      replace hm_z := rn_bipush (w := 8) (am_cur_of (i := (24, 2, .bipush 8, (0, 0, 0), 0)) (by decide +kernel)) (by decide) hm_z
      replace hm_z := rn_aload_n (am_cur_of (i := (26, 1, .aload_n 0, (0, 0, 0), 0)) (by decide +kernel)) g0m hm_z
      replace hm_z := rn_getI (v := v2_z) (am_cur_of (i := (27, 3, .getfield 188, (12, 11, 1395), 0)) (by decide +kernel)) (by decide +kernel) got hm_z
      replace hm_z := rn_iastore (N := 12) (q := 8) (am_cur_of (i := (30, 1, .iastore, (0, 0, 0), 0)) (by decide +kernel)) (by decide +kernel) rfl hm_z
      obtain ⟨p285_z, hm_z⟩ := hm_z
      replace hm_z := rn_aload_n (am_cur_of (i := (31, 1, .aload_n 0, (0, 0, 0), 0)) (by decide +kernel)) g0m hm_z
      replace hm_z := rn_iconst (w := 1) (am_cur_of (i := (32, 1, .iconst 1, (0, 0, 0), 0)) (by decide +kernel)) (by decide) hm_z
      replace hm_z := rn_bipush (w := 99) (am_cur_of (i := (33, 2, .bipush 99, (0, 0, 0), 0)) (by decide +kernel)) (by decide) hm_z
      replace hm_z := rn_callV (M' := am_m161) (o := 164) (ar := [.int 99, .int 1]) (rest := []) (L := lv_args 0 [.ref 164, .int 1, .int 99]) (am_cur_of (i := (35, 3, .invokevirtual 197, (161, 1677, 3), 0)) (by decide +kernel)) rfl rfl rfl rfl hm_z
      obtain ⟨r286_z, h287_z, q288_z, hm_z⟩ := hm_z
      have R' : rq T S x2_z p2_z 2 (am_up h277_z 2 7 (.int v2_z)) (am_up h280_z 168 8 (.int v2_z)) := ⟨⟨c1_z, c2_z, c3_z, c4_z, c5_z, c6_z, fun k hk_z => c7_z k hk_z, fun k hk_z => c8_z k hk_z⟩, ⟨m2_z, m3_z, m4_z, m5_z, m6_z, fun k hk_z => m7_z k hk_z, fun k hk_z => m8_z k hk_z⟩, R3, R4, R5, R6, R7, R8, R9, R10⟩
      have A' : rp 2 (am_up h277_z 2 7 (.int v2_z)) (am_up h280_z 168 8 (.int v2_z)) := ⟨⟨a1_z, a2_z, rfl, a4_z, a5_z, a6_z⟩, ⟨nb1_z, nb2_z, nb3_z⟩, ⟨nt1_z, nt2_z, nt3_z⟩, ⟨nl1_z, nl2_z, nl3_z⟩, ⟨nr1_z, nr2_z, nr3_z⟩, ⟨nk1_z, nk2_z, nk3_z⟩, ⟨fun hb_z k hk_z => AC0 hb_z k hk_z, fun hb_z k hk_z => AC1 hb_z k hk_z, fun hb_z k hk_z => AC2 hb_z k hk_z, fun hb_z k hk_z => AC3 hb_z k hk_z⟩, fun t ht => AD t ht, fun t ht => AE t ht, fun t ht => AG t ht⟩
      have B' : rp_t (am_up h277_z 2 7 (.int v2_z)) (am_up h280_z 168 8 (.int v2_z)) := by
        obtain ⟨b0_z, b1_z, b2_z, b3_z, b4_z, b5_z, b6_z, t, o0_z, o1_z, o2_z, o3_z, o4_z, o5_z, o6_z⟩ := B
        exact ⟨b0_z, b1_z, b2_z, b3_z, b4_z, b5_z, b6_z, t, o0_z, o1_z, o2_z, o3_z, o4_z, o5_z, o6_z⟩
      rcases pr_num R' (by decide) (by decide) q284_z q288_z with ⟨v3_z, x3_z, p3_z, rfl, rfl, lo3_z, hi3_z, R, le3_z, got, X, Y, t7_z, t167_z⟩ | ⟨rfl, F⟩
      · replace A := rp_x (by decide) A' X Y
        replace B := rp_tk B' t7_z t167_z Y
        clear A' B' R'
        replace le3_z : x.toInt ≤ p3_z.toInt := Int.le_trans (Int.le_trans le2_z R8) le3_z
        replace hm_z : rn _ _ _ _ [.int 1] _ _ _ := hm_z
        replace hc_z : rn _ _ _ _ [.int v3_z, .ref 2] _ _ _ := hc_z
        clear a1_z a2_z a3_z a4_z a5_z a6_z nb1_z nb2_z nb3_z nt1_z nt2_z nt3_z nl1_z nl2_z nl3_z nr1_z nr2_z nr3_z nk1_z nk2_z nk3_z AC0 AC1 AC2 AC3 AD AE AG c1_z c2_z c3_z c4_z c5_z c6_z c7_z c8_z m2_z m3_z m4_z m5_z m6_z m7_z m8_z R3 R4 R5 R6 R7 R8 R9 R10
        obtain ⟨⟨⟨a1_z, a2_z, a3_z, a4_z, a5_z, a6_z⟩, ⟨nb1_z, nb2_z, nb3_z⟩, ⟨nt1_z, nt2_z, nt3_z⟩, ⟨nl1_z, nl2_z, nl3_z⟩, ⟨nr1_z, nr2_z, nr3_z⟩, ⟨nk1_z, nk2_z, nk3_z⟩, ⟨AC0, AC1, AC2, AC3⟩, AD, AE, AG⟩, ⟨⟨c1_z, c2_z, c3_z, c4_z, c5_z, c6_z, c7_z, c8_z⟩, ⟨m2_z, m3_z, m4_z, m5_z, m6_z, m7_z, m8_z⟩, R3, R4, R5, R6, R7, R8, R9, R10⟩⟩ := (⟨A, R⟩ : rp 2 h283_z h287_z ∧ rq T S x3_z p3_z 2 h283_z h287_z)
        replace hc_z := rn_put (am_cur_of (i := (30, 3, .putfield 208, (1, 8, 282), 0)) (by decide +kernel)) (by decide +kernel) hc_z
        replace hc_z := rn_vret (am_cur_of (i := (33, 1, .return_, (0, 0, 0), 0)) (by decide +kernel)) hc_z
        obtain ⟨e289_z, e290_z⟩ := hc_z
        subst e289_z e290_z
        replace hm_z := rn_ifT (am_cur_of (i := (38, 3, .ifCond .ne 5, (24, 0, 0), 0)) (by decide +kernel)) (by decide) hm_z
        replace hm_z := rn_aload_n (am_cur_of (i := (43, 1, .aload_n 0, (0, 0, 0), 0)) (by decide +kernel)) g0m hm_z
        replace hm_z := rn_getR (x := 168) (am_cur_of (i := (44, 3, .getfield 24, (12, 23, 1407), 0)) (by decide +kernel)) (by decide +kernel) hm_z
        replace hm_z := rn_bipush (w := 9) (am_cur_of (i := (47, 2, .bipush 9, (0, 0, 0), 0)) (by decide +kernel)) (by decide) hm_z
        replace hm_z := rn_aload_n (am_cur_of (i := (49, 1, .aload_n 0, (0, 0, 0), 0)) (by decide +kernel)) g0m hm_z
        replace hm_z := rn_getI (v := v3_z) (am_cur_of (i := (50, 3, .getfield 188, (12, 11, 1395), 0)) (by decide +kernel)) (by decide +kernel) got hm_z
        replace hm_z := rn_iastore (N := 12) (q := 9) (am_cur_of (i := (53, 1, .iastore, (0, 0, 0), 0)) (by decide +kernel)) (by decide +kernel) rfl hm_z
        obtain ⟨p291_z, hm_z⟩ := hm_z
        replace hm_z := rn_iconst (w := 1) (am_cur_of (i := (54, 1, .iconst 1, (0, 0, 0), 0)) (by decide +kernel)) (by decide) hm_z
        replace hm_z := rn_iret (am_cur_of (i := (55, 1, .ireturn, (0, 0, 0), 0)) (by decide +kernel)) hm_z
        obtain ⟨e292_z, e293_z⟩ := hm_z
        subst e292_z e293_z
        have R' : rq T S x3_z p3_z 2 (am_up h283_z 2 8 (.int v3_z)) (am_up h287_z 168 9 (.int v3_z)) := ⟨⟨c1_z, c2_z, c3_z, c4_z, c5_z, c6_z, fun k hk_z => c7_z k hk_z, fun k hk_z => c8_z k hk_z⟩, ⟨m2_z, m3_z, m4_z, m5_z, m6_z, fun k hk_z => m7_z k hk_z, fun k hk_z => m8_z k hk_z⟩, R3, R4, R5, R6, R7, R8, R9, R10⟩
        have A' : rp 2 (am_up h283_z 2 8 (.int v3_z)) (am_up h287_z 168 9 (.int v3_z)) := ⟨⟨a1_z, a2_z, a3_z, rfl, a5_z, a6_z⟩, ⟨nb1_z, nb2_z, nb3_z⟩, ⟨nt1_z, nt2_z, nt3_z⟩, ⟨nl1_z, nl2_z, nl3_z⟩, ⟨nr1_z, nr2_z, nr3_z⟩, ⟨nk1_z, nk2_z, nk3_z⟩, ⟨fun hb_z k hk_z => AC0 hb_z k hk_z, fun hb_z k hk_z => AC1 hb_z k hk_z, fun hb_z k hk_z => AC2 hb_z k hk_z, fun hb_z k hk_z => AC3 hb_z k hk_z⟩, fun t ht => AD t ht, fun t ht => AE t ht, fun t ht => AG t ht⟩
        have B' : rp_t (am_up h283_z 2 8 (.int v3_z)) (am_up h287_z 168 9 (.int v3_z)) := by
          obtain ⟨b0_z, b1_z, b2_z, b3_z, b4_z, b5_z, b6_z, t, o0_z, o1_z, o2_z, o3_z, o4_z, o5_z, o6_z⟩ := B
          exact ⟨b0_z, b1_z, b2_z, b3_z, b4_z, b5_z, b6_z, t, o0_z, o1_z, o2_z, o3_z, o4_z, o5_z, o6_z⟩
        exact Or.inl ⟨rfl, _, _, R', le3_z, A', B'⟩
      · obtain ⟨wv, w0_z, f1_z, f2_z, f3_z, f4_z⟩ := F
        have K := rs_stick (a := 36) (by decide) (by decide) rfl w0_z f1_z f2_z hc_z
        replace hm_z : rn _ _ _ _ [.int 0] _ _ _ := hm_z
        replace hm_z := rn_ifF (am_cur_of (i := (38, 3, .ifCond .ne 5, (24, 0, 0), 0)) (by decide +kernel)) (by decide) hm_z
        replace hm_z := rn_iconst (w := 0) (am_cur_of (i := (41, 1, .iconst 0, (0, 0, 0), 0)) (by decide +kernel)) (by decide) hm_z
        replace hm_z := rn_iret (am_cur_of (i := (42, 1, .ireturn, (0, 0, 0), 0)) (by decide +kernel)) hm_z
        obtain ⟨e294_z, e295_z⟩ := hm_z
        subst e294_z e295_z
        exact Or.inr ⟨rfl, _, wv, w0_z, K.1, K.2, f3_z, f4_z⟩
    · obtain ⟨wv, w0_z, f1_z, f2_z, f3_z, f4_z⟩ := F
      have K := rs_stick (a := 36) (by decide) (by decide) rfl w0_z f1_z f2_z hc_z
      replace hm_z : rn _ _ _ _ [.int 0] _ _ _ := hm_z
      replace hm_z := rn_ifF (am_cur_of (i := (15, 3, .ifCond .ne 5, (11, 0, 0), 0)) (by decide +kernel)) (by decide) hm_z
      replace hm_z := rn_iconst (w := 0) (am_cur_of (i := (18, 1, .iconst 0, (0, 0, 0), 0)) (by decide +kernel)) (by decide) hm_z
      replace hm_z := rn_iret (am_cur_of (i := (19, 1, .ireturn, (0, 0, 0), 0)) (by decide +kernel)) hm_z
      obtain ⟨e296_z, e297_z⟩ := hm_z
      subst e296_z e297_z
      exact Or.inr ⟨rfl, _, wv, w0_z, K.1, K.2, f3_z, f4_z⟩
  · obtain ⟨wv, w0_z, f1_z, f2_z, f3_z, f4_z⟩ := F
    have K := rs_stick (a := 36) (by decide) (by decide) rfl w0_z f1_z f2_z hc_z
    replace hm_z : rn _ _ _ _ [.int 0] _ _ _ := hm_z
    replace hm_z := rn_ifT (am_cur_of (i := (5, 3, .ifCond .eq 13, (9, 0, 0), 0)) (by decide +kernel)) (by decide) hm_z
    replace hm_z := rn_iconst (w := 0) (am_cur_of (i := (18, 1, .iconst 0, (0, 0, 0), 0)) (by decide +kernel)) (by decide) hm_z
    replace hm_z := rn_iret (am_cur_of (i := (19, 1, .ireturn, (0, 0, 0), 0)) (by decide +kernel)) hm_z
    obtain ⟨e298_z, e299_z⟩ := hm_z
    subst e298_z e299_z
    exact Or.inr ⟨rfl, _, wv, w0_z, K.1, K.2, f3_z, f4_z⟩
theorem pl_bed23 {T : Nat → Int32} {S x p : Int32} {n n' : Nat} {h h' g g' : am_H} {r r' : Option Value} (R : rq T S x p 23 h g) (A : rp 23 h g) (B : rp_t h g) (hc_z : rn n am_m27 0 (lv_args 0 [.ref 44]) [] h r h') (hm_z : rn n' am_m159 0 (lv_args 0 [.ref 164]) [] g r' g') : pl_Q T S x 23 h' g' r' := by
  have z0_z : (0 : Int32).toInt = 0 := by decide
  have z1_z : (1 : Int32).toInt = 1 := by decide
  have z3_z : (3 : Int32).toInt = 3 := by decide
  have z4_z : (4 : Int32).toInt = 4 := by decide
  have z9999_z : (9999 : Int32).toInt = 9999 := by decide
  have g0_z : am_get (lv_args 0 [.ref 44]) 0 = some (.ref 44) := rfl
  have g0m : am_get (lv_args 0 [.ref 164]) 0 = some (.ref 164) := rfl
  obtain ⟨⟨⟨a1_z, a2_z, a3_z, a4_z, a5_z, a6_z⟩, ⟨nb1_z, nb2_z, nb3_z⟩, ⟨nt1_z, nt2_z, nt3_z⟩, ⟨nl1_z, nl2_z, nl3_z⟩, ⟨nr1_z, nr2_z, nr3_z⟩, ⟨nk1_z, nk2_z, nk3_z⟩, ⟨AC0, AC1, AC2, AC3⟩, AD, AE, AG⟩, ⟨⟨c1_z, c2_z, c3_z, c4_z, c5_z, c6_z, c7_z, c8_z⟩, ⟨m2_z, m3_z, m4_z, m5_z, m6_z, m7_z, m8_z⟩, R3, R4, R5, R6, R7, R8, R9, R10⟩⟩ := (⟨A, R⟩ : rp 23 h g ∧ rq T S x p 23 h g)
  replace hc_z := rn_aload_n (am_cur_of (i := (0, 1, .aload_n 0, (0, 0, 0), 0)) (by decide +kernel)) g0_z hc_z
  replace hc_z := rn_iconst (w := 0) (am_cur_of (i := (1, 1, .iconst 0, (0, 0, 0), 0)) (by decide +kernel)) (by decide) hc_z
  replace hc_z := rn_callV (M' := am_m28) (o := 44) (ar := [.int 0]) (rest := []) (L := lv_args 0 [.ref 44, .int 0]) (am_cur_of (i := (2, 3, .invokevirtual 139, (28, 765, 3), 0)) (by decide +kernel)) rfl rfl rfl rfl hc_z
  obtain ⟨r300_z, h301_z, q302_z, hc_z⟩ := hc_z
  have vo := rn_void rfl q302_z
  subst vo
  replace hm_z := rn_aload_n (am_cur_of (i := (0, 1, .aload_n 0, (0, 0, 0), 0)) (by decide +kernel)) g0m hm_z
  replace hm_z := rn_iconst (w := 0) (am_cur_of (i := (1, 1, .iconst 0, (0, 0, 0), 0)) (by decide +kernel)) (by decide) hm_z
  replace hm_z := rn_callV (M' := am_m160) (o := 164) (ar := [.int 0]) (rest := []) (L := lv_args 0 [.ref 164, .int 0]) (am_cur_of (i := (2, 3, .invokevirtual 245, (160, 1673, 3), 0)) (by decide +kernel)) rfl rfl rfl rfl hm_z
  obtain ⟨r303_z, h304_z, q305_z, hm_z⟩ := hm_z
  rcases pr_once0 R B q302_z q305_z with ⟨x1_z, p1_z, rfl, R', le1_z, B', X, Y⟩ | ⟨rfl, F⟩
  · replace A := rp_x (by decide) A X Y
    replace B := B'
    replace R := R'
    clear B' R'
    replace hm_z : rn _ _ _ _ [.int 1] _ _ _ := hm_z
    replace hc_z : rn _ _ _ _ [] _ _ _ := hc_z
    clear a1_z a2_z a3_z a4_z a5_z a6_z nb1_z nb2_z nb3_z nt1_z nt2_z nt3_z nl1_z nl2_z nl3_z nr1_z nr2_z nr3_z nk1_z nk2_z nk3_z AC0 AC1 AC2 AC3 AD AE AG c1_z c2_z c3_z c4_z c5_z c6_z c7_z c8_z m2_z m3_z m4_z m5_z m6_z m7_z m8_z R3 R4 R5 R6 R7 R8 R9 R10
    obtain ⟨⟨⟨a1_z, a2_z, a3_z, a4_z, a5_z, a6_z⟩, ⟨nb1_z, nb2_z, nb3_z⟩, ⟨nt1_z, nt2_z, nt3_z⟩, ⟨nl1_z, nl2_z, nl3_z⟩, ⟨nr1_z, nr2_z, nr3_z⟩, ⟨nk1_z, nk2_z, nk3_z⟩, ⟨AC0, AC1, AC2, AC3⟩, AD, AE, AG⟩, ⟨⟨c1_z, c2_z, c3_z, c4_z, c5_z, c6_z, c7_z, c8_z⟩, ⟨m2_z, m3_z, m4_z, m5_z, m6_z, m7_z, m8_z⟩, R3, R4, R5, R6, R7, R8, R9, R10⟩⟩ := (⟨A, R⟩ : rp 23 h301_z h304_z ∧ rq T S x1_z p1_z 23 h301_z h304_z)
    replace hc_z := rn_aload_n (am_cur_of (i := (5, 1, .aload_n 0, (0, 0, 0), 0)) (by decide +kernel)) g0_z hc_z
    replace hc_z := rn_getM (x := 23) (am_cur_of (i := (6, 3, .getfield 25, (4, 6, 415), 0)) (by decide +kernel)) R3 hc_z
    replace hc_z := rn_aload_n (am_cur_of (i := (9, 1, .aload_n 0, (0, 0, 0), 0)) (by decide +kernel)) g0_z hc_z
    replace hc_z := rn_iconst (w := 1) (am_cur_of (i := (10, 1, .iconst 1, (0, 0, 0), 0)) (by decide +kernel)) (by decide) hc_z
    replace hc_z := rn_sipush (w := 9999) (am_cur_of (i := (11, 3, .sipush 9999, (0, 0, 0), 0)) (by decide +kernel)) (by decide) hc_z
    replace hc_z := rn_callV (M' := am_m30) (o := 44) (ar := [.int 9999, .int 1]) (rest := [.ref 23]) (L := lv_args 0 [.ref 44, .int 1, .int 9999]) (am_cur_of (i := (14, 3, .invokevirtual 142, (30, 773, 3), 0)) (by decide +kernel)) rfl rfl rfl rfl hc_z
    obtain ⟨r306_z, h307_z, q308_z, hc_z⟩ := hc_z
    replace hm_z := rn_ifF (am_cur_of (i := (5, 3, .ifCond .eq 14, (9, 0, 0), 0)) (by decide +kernel)) (by decide) hm_z
    replace hm_z := rn_aload_n (am_cur_of (i := (8, 1, .aload_n 0, (0, 0, 0), 0)) (by decide +kernel)) g0m hm_z
    replace hm_z := rn_iconst (w := 1) (am_cur_of (i := (9, 1, .iconst 1, (0, 0, 0), 0)) (by decide +kernel)) (by decide) hm_z
    replace hm_z := rn_sipush (w := 9999) (am_cur_of (i := (10, 3, .sipush 9999, (0, 0, 0), 0)) (by decide +kernel)) (by decide) hm_z
    replace hm_z := rn_callV (M' := am_m161) (o := 164) (ar := [.int 9999, .int 1]) (rest := []) (L := lv_args 0 [.ref 164, .int 1, .int 9999]) (am_cur_of (i := (13, 3, .invokevirtual 197, (161, 1677, 3), 0)) (by decide +kernel)) rfl rfl rfl rfl hm_z
    obtain ⟨r309_z, h310_z, q311_z, hm_z⟩ := hm_z
    have R' : rq T S x1_z p1_z 23 h301_z h304_z := ⟨⟨c1_z, c2_z, c3_z, c4_z, c5_z, c6_z, fun k hk_z => c7_z k hk_z, fun k hk_z => c8_z k hk_z⟩, ⟨m2_z, m3_z, m4_z, m5_z, m6_z, fun k hk_z => m7_z k hk_z, fun k hk_z => m8_z k hk_z⟩, R3, R4, R5, R6, R7, R8, R9, R10⟩
    have A' : rp 23 h301_z h304_z := ⟨⟨a1_z, a2_z, a3_z, a4_z, a5_z, a6_z⟩, ⟨nb1_z, nb2_z, nb3_z⟩, ⟨nt1_z, nt2_z, nt3_z⟩, ⟨nl1_z, nl2_z, nl3_z⟩, ⟨nr1_z, nr2_z, nr3_z⟩, ⟨nk1_z, nk2_z, nk3_z⟩, ⟨fun hb_z k hk_z => AC0 hb_z k hk_z, fun hb_z k hk_z => AC1 hb_z k hk_z, fun hb_z k hk_z => AC2 hb_z k hk_z, fun hb_z k hk_z => AC3 hb_z k hk_z⟩, fun t ht => AD t ht, fun t ht => AE t ht, fun t ht => AG t ht⟩
    have B' : rp_t h301_z h304_z := by
      obtain ⟨b0_z, b1_z, b2_z, b3_z, b4_z, b5_z, b6_z, t, o0_z, o1_z, o2_z, o3_z, o4_z, o5_z, o6_z⟩ := B
      exact ⟨b0_z, b1_z, b2_z, b3_z, b4_z, b5_z, b6_z, t, o0_z, o1_z, o2_z, o3_z, o4_z, o5_z, o6_z⟩
    rcases pr_num R' (by decide) (by decide) q308_z q311_z with ⟨v2_z, x2_z, p2_z, rfl, rfl, lo2_z, hi2_z, R, le2_z, got, X, Y, t7_z, t167_z⟩ | ⟨rfl, F⟩
    · replace A := rp_x (by decide) A' X Y
      replace B := rp_tk B' t7_z t167_z Y
      clear A' B' R'
      replace le2_z : x.toInt ≤ p2_z.toInt := Int.le_trans (Int.le_trans le1_z R8) le2_z
      replace hm_z : rn _ _ _ _ [.int 1] _ _ _ := hm_z
      replace hc_z : rn _ _ _ _ [.int v2_z, .ref 23] _ _ _ := hc_z
      clear a1_z a2_z a3_z a4_z a5_z a6_z nb1_z nb2_z nb3_z nt1_z nt2_z nt3_z nl1_z nl2_z nl3_z nr1_z nr2_z nr3_z nk1_z nk2_z nk3_z AC0 AC1 AC2 AC3 AD AE AG c1_z c2_z c3_z c4_z c5_z c6_z c7_z c8_z m2_z m3_z m4_z m5_z m6_z m7_z m8_z R3 R4 R5 R6 R7 R8 R9 R10
      obtain ⟨⟨⟨a1_z, a2_z, a3_z, a4_z, a5_z, a6_z⟩, ⟨nb1_z, nb2_z, nb3_z⟩, ⟨nt1_z, nt2_z, nt3_z⟩, ⟨nl1_z, nl2_z, nl3_z⟩, ⟨nr1_z, nr2_z, nr3_z⟩, ⟨nk1_z, nk2_z, nk3_z⟩, ⟨AC0, AC1, AC2, AC3⟩, AD, AE, AG⟩, ⟨⟨c1_z, c2_z, c3_z, c4_z, c5_z, c6_z, c7_z, c8_z⟩, ⟨m2_z, m3_z, m4_z, m5_z, m6_z, m7_z, m8_z⟩, R3, R4, R5, R6, R7, R8, R9, R10⟩⟩ := (⟨A, R⟩ : rp 23 h307_z h310_z ∧ rq T S x2_z p2_z 23 h307_z h310_z)
      replace hc_z := rn_put (am_cur_of (i := (17, 3, .putfield 145, (1, 0, 250), 0)) (by decide +kernel)) (by decide +kernel) hc_z
      replace hc_z := rn_aload_n (am_cur_of (i := (20, 1, .aload_n 0, (0, 0, 0), 0)) (by decide +kernel)) g0_z hc_z
      replace hc_z := rn_getI (v := 0) (am_cur_of (i := (21, 3, .getfield 51, (4, 1, 408), 0)) (by decide +kernel)) (by decide +kernel) (show rg_v (am_up h307_z 23 0 (.int v2_z)) 44 1 = 0 from R4) hc_z
      replace hc_z := rn_ifF (am_cur_of (i := (24, 3, .ifCond .ne 30, (26, 0, 0), 0)) (by decide +kernel)) (by decide) hc_z
      replace hc_z := rn_aload_n (am_cur_of (i := (27, 1, .aload_n 0, (0, 0, 0), 0)) (by decide +kernel)) g0_z hc_z
      replace hc_z := rn_getI (v := rg_v h307_z 44 10) (am_cur_of (i := (28, 3, .getfield 60, (4, 10, 419), 0)) (by decide +kernel)) (by decide +kernel) (show rg_v (am_up h307_z 23 0 (.int v2_z)) 44 10 = rg_v h307_z 44 10 from rfl) hc_z
      replace hc_z := rn_iconst (w := 4) (am_cur_of (i := (31, 1, .iconst 4, (0, 0, 0), 0)) (by decide +kernel)) (by decide) hc_z
      replace hc_z := rn_cmp (am_cur_of (i := (32, 3, .if_icmp .ne 22, (26, 0, 0), 0)) (by decide +kernel)) hc_z
      rcases hc_z with ⟨b312_z, hc_z⟩ | ⟨b312_z, hc_z⟩
      · replace b312_z : ¬ (rg_v h307_z 44 10) = (4 : Int32) ∧ ¬ (rg_v h307_z 44 10).toInt = (4 : Int32).toInt := b312_z
        replace hc_z := rn_vret (am_cur_of (i := (54, 1, .return_, (0, 0, 0), 0)) (by decide +kernel)) hc_z
        obtain ⟨e313_z, e314_z⟩ := hc_z
        subst e313_z e314_z
        replace hm_z := rn_ifT (am_cur_of (i := (16, 3, .ifCond .ne 5, (11, 0, 0), 0)) (by decide +kernel)) (by decide) hm_z
        replace hm_z := rn_aload_n (am_cur_of (i := (21, 1, .aload_n 0, (0, 0, 0), 0)) (by decide +kernel)) g0m hm_z
        replace hm_z := rn_getR (x := 168) (am_cur_of (i := (22, 3, .getfield 24, (12, 23, 1407), 0)) (by decide +kernel)) (by decide +kernel) hm_z
        replace hm_z := rn_bipush (w := 6) (am_cur_of (i := (25, 2, .bipush 6, (0, 0, 0), 0)) (by decide +kernel)) (by decide) hm_z
        replace hm_z := rn_aload_n (am_cur_of (i := (27, 1, .aload_n 0, (0, 0, 0), 0)) (by decide +kernel)) g0m hm_z
        replace hm_z := rn_getI (v := v2_z) (am_cur_of (i := (28, 3, .getfield 188, (12, 11, 1395), 0)) (by decide +kernel)) (by decide +kernel) got hm_z
        replace hm_z := rn_iastore (N := 12) (q := 6) (am_cur_of (i := (31, 1, .iastore, (0, 0, 0), 0)) (by decide +kernel)) (by decide +kernel) rfl hm_z
        obtain ⟨p315_z, hm_z⟩ := hm_z
        replace hm_z := rn_aload_n (am_cur_of (i := (32, 1, .aload_n 0, (0, 0, 0), 0)) (by decide +kernel)) g0m hm_z
        replace hm_z := rn_getI (v := rg_v h310_z 164 8) (am_cur_of (i := (33, 3, .getfield 157, (12, 8, 1392), 0)) (by decide +kernel)) (by decide +kernel) (show rg_v (am_up h310_z 168 6 (.int v2_z)) 164 8 = rg_v h310_z 164 8 from rfl) hm_z
        replace hm_z := rn_iconst (w := 3) (am_cur_of (i := (36, 1, .iconst 3, (0, 0, 0), 0)) (by decide +kernel)) (by decide) hm_z
        replace hm_z := rn_cmp (am_cur_of (i := (37, 3, .if_icmp .eq 5, (23, 0, 0), 0)) (by decide +kernel)) hm_z
        rcases hm_z with ⟨b316_z, hm_z⟩ | ⟨b316_z, hm_z⟩
        · replace b316_z : (rg_v h310_z 164 8) = (3 : Int32) ∧ (rg_v h310_z 164 8).toInt = (3 : Int32).toInt := b316_z
          exact absurd b316_z.1 (tk_n4 R10 b312_z.1)
        · replace b316_z : ¬ (rg_v h310_z 164 8) = (3 : Int32) ∧ ¬ (rg_v h310_z 164 8).toInt = (3 : Int32).toInt := b316_z
          replace hm_z := rn_iconst (w := 1) (am_cur_of (i := (40, 1, .iconst 1, (0, 0, 0), 0)) (by decide +kernel)) (by decide) hm_z
          replace hm_z := rn_iret (am_cur_of (i := (41, 1, .ireturn, (0, 0, 0), 0)) (by decide +kernel)) hm_z
          obtain ⟨e317_z, e318_z⟩ := hm_z
          subst e317_z e318_z
          have R' : rq T S x2_z p2_z 23 (am_up h307_z 23 0 (.int v2_z)) (am_up h310_z 168 6 (.int v2_z)) := ⟨⟨c1_z, c2_z, c3_z, c4_z, c5_z, c6_z, fun k hk_z => c7_z k hk_z, fun k hk_z => c8_z k hk_z⟩, ⟨m2_z, m3_z, m4_z, m5_z, m6_z, fun k hk_z => m7_z k hk_z, fun k hk_z => m8_z k hk_z⟩, R3, R4, R5, R6, R7, R8, R9, R10⟩
          have A' : rp 23 (am_up h307_z 23 0 (.int v2_z)) (am_up h310_z 168 6 (.int v2_z)) := ⟨⟨rfl, a2_z, a3_z, a4_z, a5_z, a6_z⟩, ⟨nb1_z, nb2_z, nb3_z⟩, ⟨nt1_z, nt2_z, nt3_z⟩, ⟨nl1_z, nl2_z, nl3_z⟩, ⟨nr1_z, nr2_z, nr3_z⟩, ⟨nk1_z, nk2_z, nk3_z⟩, ⟨fun hb_z k hk_z => AC0 hb_z k hk_z, fun hb_z k hk_z => AC1 hb_z k hk_z, fun hb_z k hk_z => AC2 hb_z k hk_z, fun hb_z k hk_z => AC3 hb_z k hk_z⟩, fun t ht => AD t ht, fun t ht => AE t ht, fun t ht => AG t ht⟩
          have B' : rp_t (am_up h307_z 23 0 (.int v2_z)) (am_up h310_z 168 6 (.int v2_z)) := by
            obtain ⟨b0_z, b1_z, b2_z, b3_z, b4_z, b5_z, b6_z, t, o0_z, o1_z, o2_z, o3_z, o4_z, o5_z, o6_z⟩ := B
            exact ⟨b0_z, b1_z, b2_z, b3_z, b4_z, b5_z, b6_z, t, o0_z, o1_z, o2_z, o3_z, o4_z, o5_z, o6_z⟩
          exact Or.inl ⟨rfl, _, _, R', le2_z, A', B'⟩
      · replace b312_z : (rg_v h307_z 44 10) = (4 : Int32) ∧ (rg_v h307_z 44 10).toInt = (4 : Int32).toInt := b312_z
        replace hc_z := rn_aload_n (am_cur_of (i := (35, 1, .aload_n 0, (0, 0, 0), 0)) (by decide +kernel)) g0_z hc_z
        replace hc_z := rn_getM (x := 23) (am_cur_of (i := (36, 3, .getfield 25, (4, 6, 415), 0)) (by decide +kernel)) (show (am_up h307_z 23 0 (.int v2_z)) 44 6 = .ref 23 from R3) hc_z
        replace hc_z := rn_aload_n (am_cur_of (i := (39, 1, .aload_n 0, (0, 0, 0), 0)) (by decide +kernel)) g0_z hc_z
        replace hc_z := rn_iconst (w := 0) (am_cur_of (i := (40, 1, .iconst 0, (0, 0, 0), 0)) (by decide +kernel)) (by decide) hc_z
        replace hc_z := rn_aload_n (am_cur_of (i := (41, 1, .aload_n 0, (0, 0, 0), 0)) (by decide +kernel)) g0_z hc_z
        replace hc_z := rn_getM (x := 23) (am_cur_of (i := (42, 3, .getfield 25, (4, 6, 415), 0)) (by decide +kernel)) (show (am_up h307_z 23 0 (.int v2_z)) 44 6 = .ref 23 from R3) hc_z
        replace hc_z := rn_getI (v := v2_z) (am_cur_of (i := (45, 3, .getfield 145, (1, 0, 250), 0)) (by decide +kernel)) (by decide +kernel) (show rg_v (am_up h307_z 23 0 (.int v2_z)) 23 0 = v2_z from rfl) hc_z
        replace hc_z := rn_callV (M' := am_m30) (o := 44) (ar := [.int v2_z, .int 0]) (rest := [.ref 23]) (L := lv_args 0 [.ref 44, .int 0, .int v2_z]) (am_cur_of (i := (48, 3, .invokevirtual 142, (30, 773, 3), 0)) (by decide +kernel)) rfl rfl rfl rfl hc_z
        obtain ⟨r319_z, h320_z, q321_z, hc_z⟩ := hc_z
        replace hm_z := rn_ifT (am_cur_of (i := (16, 3, .ifCond .ne 5, (11, 0, 0), 0)) (by decide +kernel)) (by decide) hm_z
        replace hm_z := rn_aload_n (am_cur_of (i := (21, 1, .aload_n 0, (0, 0, 0), 0)) (by decide +kernel)) g0m hm_z
        replace hm_z := rn_getR (x := 168) (am_cur_of (i := (22, 3, .getfield 24, (12, 23, 1407), 0)) (by decide +kernel)) (by decide +kernel) hm_z
        replace hm_z := rn_bipush (w := 6) (am_cur_of (i := (25, 2, .bipush 6, (0, 0, 0), 0)) (by decide +kernel)) (by decide) hm_z
        replace hm_z := rn_aload_n (am_cur_of (i := (27, 1, .aload_n 0, (0, 0, 0), 0)) (by decide +kernel)) g0m hm_z
        replace hm_z := rn_getI (v := v2_z) (am_cur_of (i := (28, 3, .getfield 188, (12, 11, 1395), 0)) (by decide +kernel)) (by decide +kernel) got hm_z
        replace hm_z := rn_iastore (N := 12) (q := 6) (am_cur_of (i := (31, 1, .iastore, (0, 0, 0), 0)) (by decide +kernel)) (by decide +kernel) rfl hm_z
        obtain ⟨p322_z, hm_z⟩ := hm_z
        replace hm_z := rn_aload_n (am_cur_of (i := (32, 1, .aload_n 0, (0, 0, 0), 0)) (by decide +kernel)) g0m hm_z
        replace hm_z := rn_getI (v := rg_v h310_z 164 8) (am_cur_of (i := (33, 3, .getfield 157, (12, 8, 1392), 0)) (by decide +kernel)) (by decide +kernel) (show rg_v (am_up h310_z 168 6 (.int v2_z)) 164 8 = rg_v h310_z 164 8 from rfl) hm_z
        replace hm_z := rn_iconst (w := 3) (am_cur_of (i := (36, 1, .iconst 3, (0, 0, 0), 0)) (by decide +kernel)) (by decide) hm_z
        replace hm_z := rn_cmp (am_cur_of (i := (37, 3, .if_icmp .eq 5, (23, 0, 0), 0)) (by decide +kernel)) hm_z
        rcases hm_z with ⟨b323_z, hm_z⟩ | ⟨b323_z, hm_z⟩
        · replace b323_z : (rg_v h310_z 164 8) = (3 : Int32) ∧ (rg_v h310_z 164 8).toInt = (3 : Int32).toInt := b323_z
          replace hm_z := rn_aload_n (am_cur_of (i := (42, 1, .aload_n 0, (0, 0, 0), 0)) (by decide +kernel)) g0m hm_z
          replace hm_z := rn_iconst (w := 0) (am_cur_of (i := (43, 1, .iconst 0, (0, 0, 0), 0)) (by decide +kernel)) (by decide) hm_z
          replace hm_z := rn_aload_n (am_cur_of (i := (44, 1, .aload_n 0, (0, 0, 0), 0)) (by decide +kernel)) g0m hm_z
          replace hm_z := rn_getR (x := 168) (am_cur_of (i := (45, 3, .getfield 24, (12, 23, 1407), 0)) (by decide +kernel)) (by decide +kernel) hm_z
          replace hm_z := rn_bipush (w := 6) (am_cur_of (i := (48, 2, .bipush 6, (0, 0, 0), 0)) (by decide +kernel)) (by decide) hm_z
          replace hm_z := rn_iaload (N := 12) (q := 6) (v := v2_z) (am_cur_of (i := (50, 1, .iaload, (0, 0, 0), 0)) (by decide +kernel)) (by decide +kernel) rfl (show rg_v (am_up h310_z 168 6 (.int v2_z)) 168 6 = v2_z from rfl) hm_z
          obtain ⟨p324_z, hm_z⟩ := hm_z
          replace hm_z := rn_callV (M' := am_m161) (o := 164) (ar := [.int v2_z, .int 0]) (rest := []) (L := lv_args 0 [.ref 164, .int 0, .int v2_z]) (am_cur_of (i := (51, 3, .invokevirtual 197, (161, 1677, 3), 0)) (by decide +kernel)) rfl rfl rfl rfl hm_z
          obtain ⟨r325_z, h326_z, q327_z, hm_z⟩ := hm_z
          have R' : rq T S x2_z p2_z 23 (am_up h307_z 23 0 (.int v2_z)) (am_up h310_z 168 6 (.int v2_z)) := ⟨⟨c1_z, c2_z, c3_z, c4_z, c5_z, c6_z, fun k hk_z => c7_z k hk_z, fun k hk_z => c8_z k hk_z⟩, ⟨m2_z, m3_z, m4_z, m5_z, m6_z, fun k hk_z => m7_z k hk_z, fun k hk_z => m8_z k hk_z⟩, R3, R4, R5, R6, R7, R8, R9, R10⟩
          have A' : rp 23 (am_up h307_z 23 0 (.int v2_z)) (am_up h310_z 168 6 (.int v2_z)) := ⟨⟨rfl, a2_z, a3_z, a4_z, a5_z, a6_z⟩, ⟨nb1_z, nb2_z, nb3_z⟩, ⟨nt1_z, nt2_z, nt3_z⟩, ⟨nl1_z, nl2_z, nl3_z⟩, ⟨nr1_z, nr2_z, nr3_z⟩, ⟨nk1_z, nk2_z, nk3_z⟩, ⟨fun hb_z k hk_z => AC0 hb_z k hk_z, fun hb_z k hk_z => AC1 hb_z k hk_z, fun hb_z k hk_z => AC2 hb_z k hk_z, fun hb_z k hk_z => AC3 hb_z k hk_z⟩, fun t ht => AD t ht, fun t ht => AE t ht, fun t ht => AG t ht⟩
          have B' : rp_t (am_up h307_z 23 0 (.int v2_z)) (am_up h310_z 168 6 (.int v2_z)) := by
            obtain ⟨b0_z, b1_z, b2_z, b3_z, b4_z, b5_z, b6_z, t, o0_z, o1_z, o2_z, o3_z, o4_z, o5_z, o6_z⟩ := B
            exact ⟨b0_z, b1_z, b2_z, b3_z, b4_z, b5_z, b6_z, t, o0_z, o1_z, o2_z, o3_z, o4_z, o5_z, o6_z⟩
          rcases pr_num R' (by decide) (by omega) q321_z q327_z with ⟨v3_z, x3_z, p3_z, rfl, rfl, lo3_z, hi3_z, R, le3_z, got, X, Y, t7_z, t167_z⟩ | ⟨rfl, F⟩
          · replace A := rp_x (by decide) A' X Y
            replace B := rp_tk B' t7_z t167_z Y
            clear A' B' R'
            replace le3_z : x.toInt ≤ p3_z.toInt := Int.le_trans (Int.le_trans le2_z R8) le3_z
            replace hm_z : rn _ _ _ _ [.int 1] _ _ _ := hm_z
            replace hc_z : rn _ _ _ _ [.int v3_z, .ref 23] _ _ _ := hc_z
            clear a1_z a2_z a3_z a4_z a5_z a6_z nb1_z nb2_z nb3_z nt1_z nt2_z nt3_z nl1_z nl2_z nl3_z nr1_z nr2_z nr3_z nk1_z nk2_z nk3_z AC0 AC1 AC2 AC3 AD AE AG c1_z c2_z c3_z c4_z c5_z c6_z c7_z c8_z m2_z m3_z m4_z m5_z m6_z m7_z m8_z R3 R4 R5 R6 R7 R8 R9 R10
            obtain ⟨⟨⟨a1_z, a2_z, a3_z, a4_z, a5_z, a6_z⟩, ⟨nb1_z, nb2_z, nb3_z⟩, ⟨nt1_z, nt2_z, nt3_z⟩, ⟨nl1_z, nl2_z, nl3_z⟩, ⟨nr1_z, nr2_z, nr3_z⟩, ⟨nk1_z, nk2_z, nk3_z⟩, ⟨AC0, AC1, AC2, AC3⟩, AD, AE, AG⟩, ⟨⟨c1_z, c2_z, c3_z, c4_z, c5_z, c6_z, c7_z, c8_z⟩, ⟨m2_z, m3_z, m4_z, m5_z, m6_z, m7_z, m8_z⟩, R3, R4, R5, R6, R7, R8, R9, R10⟩⟩ := (⟨A, R⟩ : rp 23 h320_z h326_z ∧ rq T S x3_z p3_z 23 h320_z h326_z)
            replace hc_z := rn_put (am_cur_of (i := (51, 3, .putfield 148, (1, 1, 254), 0)) (by decide +kernel)) (by decide +kernel) hc_z
            replace hc_z := rn_vret (am_cur_of (i := (54, 1, .return_, (0, 0, 0), 0)) (by decide +kernel)) hc_z
            obtain ⟨e328_z, e329_z⟩ := hc_z
            subst e328_z e329_z
            replace hm_z := rn_ifT (am_cur_of (i := (54, 3, .ifCond .ne 5, (33, 0, 0), 0)) (by decide +kernel)) (by decide) hm_z
            replace hm_z := rn_aload_n (am_cur_of (i := (59, 1, .aload_n 0, (0, 0, 0), 0)) (by decide +kernel)) g0m hm_z
            replace hm_z := rn_getR (x := 168) (am_cur_of (i := (60, 3, .getfield 24, (12, 23, 1407), 0)) (by decide +kernel)) (by decide +kernel) hm_z
            replace hm_z := rn_bipush (w := 7) (am_cur_of (i := (63, 2, .bipush 7, (0, 0, 0), 0)) (by decide +kernel)) (by decide) hm_z
            replace hm_z := rn_aload_n (am_cur_of (i := (65, 1, .aload_n 0, (0, 0, 0), 0)) (by decide +kernel)) g0m hm_z
            replace hm_z := rn_getI (v := v3_z) (am_cur_of (i := (66, 3, .getfield 188, (12, 11, 1395), 0)) (by decide +kernel)) (by decide +kernel) got hm_z
            replace hm_z := rn_iastore (N := 12) (q := 7) (am_cur_of (i := (69, 1, .iastore, (0, 0, 0), 0)) (by decide +kernel)) (by decide +kernel) rfl hm_z
            obtain ⟨p330_z, hm_z⟩ := hm_z
            replace hm_z := rn_iconst (w := 1) (am_cur_of (i := (70, 1, .iconst 1, (0, 0, 0), 0)) (by decide +kernel)) (by decide) hm_z
            replace hm_z := rn_iret (am_cur_of (i := (71, 1, .ireturn, (0, 0, 0), 0)) (by decide +kernel)) hm_z
            obtain ⟨e331_z, e332_z⟩ := hm_z
            subst e331_z e332_z
            have R' : rq T S x3_z p3_z 23 (am_up h320_z 23 1 (.int v3_z)) (am_up h326_z 168 7 (.int v3_z)) := ⟨⟨c1_z, c2_z, c3_z, c4_z, c5_z, c6_z, fun k hk_z => c7_z k hk_z, fun k hk_z => c8_z k hk_z⟩, ⟨m2_z, m3_z, m4_z, m5_z, m6_z, fun k hk_z => m7_z k hk_z, fun k hk_z => m8_z k hk_z⟩, R3, R4, R5, R6, R7, R8, R9, R10⟩
            have A' : rp 23 (am_up h320_z 23 1 (.int v3_z)) (am_up h326_z 168 7 (.int v3_z)) := ⟨⟨a1_z, rfl, a3_z, a4_z, a5_z, a6_z⟩, ⟨nb1_z, nb2_z, nb3_z⟩, ⟨nt1_z, nt2_z, nt3_z⟩, ⟨nl1_z, nl2_z, nl3_z⟩, ⟨nr1_z, nr2_z, nr3_z⟩, ⟨nk1_z, nk2_z, nk3_z⟩, ⟨fun hb_z k hk_z => AC0 hb_z k hk_z, fun hb_z k hk_z => AC1 hb_z k hk_z, fun hb_z k hk_z => AC2 hb_z k hk_z, fun hb_z k hk_z => AC3 hb_z k hk_z⟩, fun t ht => AD t ht, fun t ht => AE t ht, fun t ht => AG t ht⟩
            have B' : rp_t (am_up h320_z 23 1 (.int v3_z)) (am_up h326_z 168 7 (.int v3_z)) := by
              obtain ⟨b0_z, b1_z, b2_z, b3_z, b4_z, b5_z, b6_z, t, o0_z, o1_z, o2_z, o3_z, o4_z, o5_z, o6_z⟩ := B
              exact ⟨b0_z, b1_z, b2_z, b3_z, b4_z, b5_z, b6_z, t, o0_z, o1_z, o2_z, o3_z, o4_z, o5_z, o6_z⟩
            exact Or.inl ⟨rfl, _, _, R', le3_z, A', B'⟩
          · obtain ⟨wv, w0_z, f1_z, f2_z, f3_z, f4_z⟩ := F
            have K := rs_stick (a := 27) (by decide) (by decide) rfl w0_z f1_z f2_z hc_z
            replace hm_z : rn _ _ _ _ [.int 0] _ _ _ := hm_z
            replace hm_z := rn_ifF (am_cur_of (i := (54, 3, .ifCond .ne 5, (33, 0, 0), 0)) (by decide +kernel)) (by decide) hm_z
            replace hm_z := rn_iconst (w := 0) (am_cur_of (i := (57, 1, .iconst 0, (0, 0, 0), 0)) (by decide +kernel)) (by decide) hm_z
            replace hm_z := rn_iret (am_cur_of (i := (58, 1, .ireturn, (0, 0, 0), 0)) (by decide +kernel)) hm_z
            obtain ⟨e333_z, e334_z⟩ := hm_z
            subst e333_z e334_z
            exact Or.inr ⟨rfl, _, wv, w0_z, K.1, K.2, f3_z, f4_z⟩
        · replace b323_z : ¬ (rg_v h310_z 164 8) = (3 : Int32) ∧ ¬ (rg_v h310_z 164 8).toInt = (3 : Int32).toInt := b323_z
          exact absurd (tk_4 R10 b312_z.1).1 b323_z.1
    · obtain ⟨wv, w0_z, f1_z, f2_z, f3_z, f4_z⟩ := F
      have K := rs_stick (a := 27) (by decide) (by decide) rfl w0_z f1_z f2_z hc_z
      replace hm_z : rn _ _ _ _ [.int 0] _ _ _ := hm_z
      replace hm_z := rn_ifF (am_cur_of (i := (16, 3, .ifCond .ne 5, (11, 0, 0), 0)) (by decide +kernel)) (by decide) hm_z
      replace hm_z := rn_iconst (w := 0) (am_cur_of (i := (19, 1, .iconst 0, (0, 0, 0), 0)) (by decide +kernel)) (by decide) hm_z
      replace hm_z := rn_iret (am_cur_of (i := (20, 1, .ireturn, (0, 0, 0), 0)) (by decide +kernel)) hm_z
      obtain ⟨e335_z, e336_z⟩ := hm_z
      subst e335_z e336_z
      exact Or.inr ⟨rfl, _, wv, w0_z, K.1, K.2, f3_z, f4_z⟩
  · obtain ⟨wv, w0_z, f1_z, f2_z, f3_z, f4_z⟩ := F
    have K := rs_stick (a := 27) (by decide) (by decide) rfl w0_z f1_z f2_z hc_z
    replace hm_z : rn _ _ _ _ [.int 0] _ _ _ := hm_z
    replace hm_z := rn_ifT (am_cur_of (i := (5, 3, .ifCond .eq 14, (9, 0, 0), 0)) (by decide +kernel)) (by decide) hm_z
    replace hm_z := rn_iconst (w := 0) (am_cur_of (i := (19, 1, .iconst 0, (0, 0, 0), 0)) (by decide +kernel)) (by decide) hm_z
    replace hm_z := rn_iret (am_cur_of (i := (20, 1, .ireturn, (0, 0, 0), 0)) (by decide +kernel)) hm_z
    obtain ⟨e337_z, e338_z⟩ := hm_z
    subst e337_z e338_z
    exact Or.inr ⟨rfl, _, wv, w0_z, K.1, K.2, f3_z, f4_z⟩
theorem pl_pump23 {T : Nat → Int32} {S x p : Int32} {n n' : Nat} {h h' g g' : am_H} {r r' : Option Value} (R : rq T S x p 23 h g) (A : rp 23 h g) (B : rp_t h g) (hc_z : rn n am_m36 0 (lv_args 0 [.ref 44]) [] h r h') (hm_z : rn n' am_m167 0 (lv_args 0 [.ref 164]) [] g r' g') : pl_Q T S x 23 h' g' r' := by
  have z1_z : (1 : Int32).toInt = 1 := by decide
  have z99_z : (99 : Int32).toInt = 99 := by decide
  have g0_z : am_get (lv_args 0 [.ref 44]) 0 = some (.ref 44) := rfl
  have g0m : am_get (lv_args 0 [.ref 164]) 0 = some (.ref 164) := rfl
  obtain ⟨⟨⟨a1_z, a2_z, a3_z, a4_z, a5_z, a6_z⟩, ⟨nb1_z, nb2_z, nb3_z⟩, ⟨nt1_z, nt2_z, nt3_z⟩, ⟨nl1_z, nl2_z, nl3_z⟩, ⟨nr1_z, nr2_z, nr3_z⟩, ⟨nk1_z, nk2_z, nk3_z⟩, ⟨AC0, AC1, AC2, AC3⟩, AD, AE, AG⟩, ⟨⟨c1_z, c2_z, c3_z, c4_z, c5_z, c6_z, c7_z, c8_z⟩, ⟨m2_z, m3_z, m4_z, m5_z, m6_z, m7_z, m8_z⟩, R3, R4, R5, R6, R7, R8, R9, R10⟩⟩ := (⟨A, R⟩ : rp 23 h g ∧ rq T S x p 23 h g)
  replace hc_z := rn_aload_n (am_cur_of (i := (0, 1, .aload_n 0, (0, 0, 0), 0)) (by decide +kernel)) g0_z hc_z
  replace hc_z := rn_iconst (w := 3) (am_cur_of (i := (1, 1, .iconst 3, (0, 0, 0), 0)) (by decide +kernel)) (by decide) hc_z
  replace hc_z := rn_callV (M' := am_m28) (o := 44) (ar := [.int 3]) (rest := []) (L := lv_args 0 [.ref 44, .int 3]) (am_cur_of (i := (2, 3, .invokevirtual 139, (28, 765, 3), 0)) (by decide +kernel)) rfl rfl rfl rfl hc_z
  obtain ⟨r339_z, h340_z, q341_z, hc_z⟩ := hc_z
  have vo := rn_void rfl q341_z
  subst vo
  replace hm_z := rn_aload_n (am_cur_of (i := (0, 1, .aload_n 0, (0, 0, 0), 0)) (by decide +kernel)) g0m hm_z
  replace hm_z := rn_iconst (w := 1) (am_cur_of (i := (1, 1, .iconst 1, (0, 0, 0), 0)) (by decide +kernel)) (by decide) hm_z
  replace hm_z := rn_callV (M' := am_m160) (o := 164) (ar := [.int 1]) (rest := []) (L := lv_args 0 [.ref 164, .int 1]) (am_cur_of (i := (2, 3, .invokevirtual 245, (160, 1673, 3), 0)) (by decide +kernel)) rfl rfl rfl rfl hm_z
  obtain ⟨r342_z, h343_z, q344_z, hm_z⟩ := hm_z
  rcases pr_once1 R B q341_z q344_z with ⟨x1_z, p1_z, rfl, R', le1_z, B', X, Y⟩ | ⟨rfl, F⟩
  · replace A := rp_x (by decide) A X Y
    replace B := B'
    replace R := R'
    clear B' R'
    replace hm_z : rn _ _ _ _ [.int 1] _ _ _ := hm_z
    replace hc_z : rn _ _ _ _ [] _ _ _ := hc_z
    clear a1_z a2_z a3_z a4_z a5_z a6_z nb1_z nb2_z nb3_z nt1_z nt2_z nt3_z nl1_z nl2_z nl3_z nr1_z nr2_z nr3_z nk1_z nk2_z nk3_z AC0 AC1 AC2 AC3 AD AE AG c1_z c2_z c3_z c4_z c5_z c6_z c7_z c8_z m2_z m3_z m4_z m5_z m6_z m7_z m8_z R3 R4 R5 R6 R7 R8 R9 R10
    obtain ⟨⟨⟨a1_z, a2_z, a3_z, a4_z, a5_z, a6_z⟩, ⟨nb1_z, nb2_z, nb3_z⟩, ⟨nt1_z, nt2_z, nt3_z⟩, ⟨nl1_z, nl2_z, nl3_z⟩, ⟨nr1_z, nr2_z, nr3_z⟩, ⟨nk1_z, nk2_z, nk3_z⟩, ⟨AC0, AC1, AC2, AC3⟩, AD, AE, AG⟩, ⟨⟨c1_z, c2_z, c3_z, c4_z, c5_z, c6_z, c7_z, c8_z⟩, ⟨m2_z, m3_z, m4_z, m5_z, m6_z, m7_z, m8_z⟩, R3, R4, R5, R6, R7, R8, R9, R10⟩⟩ := (⟨A, R⟩ : rp 23 h340_z h343_z ∧ rq T S x1_z p1_z 23 h340_z h343_z)
    replace hc_z := rn_aload_n (am_cur_of (i := (5, 1, .aload_n 0, (0, 0, 0), 0)) (by decide +kernel)) g0_z hc_z
    replace hc_z := rn_getM (x := 23) (am_cur_of (i := (6, 3, .getfield 25, (4, 6, 415), 0)) (by decide +kernel)) R3 hc_z
    replace hc_z := rn_aload_n (am_cur_of (i := (9, 1, .aload_n 0, (0, 0, 0), 0)) (by decide +kernel)) g0_z hc_z
    replace hc_z := rn_iconst (w := 1) (am_cur_of (i := (10, 1, .iconst 1, (0, 0, 0), 0)) (by decide +kernel)) (by decide) hc_z
    replace hc_z := rn_bipush (w := 99) (am_cur_of (i := (11, 2, .bipush 99, (0, 0, 0), 0)) (by decide +kernel)) (by decide) hc_z
    replace hc_z := rn_callV (M' := am_m30) (o := 44) (ar := [.int 99, .int 1]) (rest := [.ref 23]) (L := lv_args 0 [.ref 44, .int 1, .int 99]) (am_cur_of (i := (13, 3, .invokevirtual 142, (30, 773, 3), 0)) (by decide +kernel)) rfl rfl rfl rfl hc_z
    obtain ⟨r345_z, h346_z, q347_z, hc_z⟩ := hc_z
    replace hm_z := rn_ifF (am_cur_of (i := (5, 3, .ifCond .eq 13, (9, 0, 0), 0)) (by decide +kernel)) (by decide) hm_z
    replace hm_z := rn_aload_n (am_cur_of (i := (8, 1, .aload_n 0, (0, 0, 0), 0)) (by decide +kernel)) g0m hm_z
    replace hm_z := rn_iconst (w := 1) (am_cur_of (i := (9, 1, .iconst 1, (0, 0, 0), 0)) (by decide +kernel)) (by decide) hm_z
    replace hm_z := rn_bipush (w := 99) (am_cur_of (i := (10, 2, .bipush 99, (0, 0, 0), 0)) (by decide +kernel)) (by decide) hm_z
    replace hm_z := rn_callV (M' := am_m161) (o := 164) (ar := [.int 99, .int 1]) (rest := []) (L := lv_args 0 [.ref 164, .int 1, .int 99]) (am_cur_of (i := (12, 3, .invokevirtual 197, (161, 1677, 3), 0)) (by decide +kernel)) rfl rfl rfl rfl hm_z
    obtain ⟨r348_z, h349_z, q350_z, hm_z⟩ := hm_z
    have R' : rq T S x1_z p1_z 23 h340_z h343_z := ⟨⟨c1_z, c2_z, c3_z, c4_z, c5_z, c6_z, fun k hk_z => c7_z k hk_z, fun k hk_z => c8_z k hk_z⟩, ⟨m2_z, m3_z, m4_z, m5_z, m6_z, fun k hk_z => m7_z k hk_z, fun k hk_z => m8_z k hk_z⟩, R3, R4, R5, R6, R7, R8, R9, R10⟩
    have A' : rp 23 h340_z h343_z := ⟨⟨a1_z, a2_z, a3_z, a4_z, a5_z, a6_z⟩, ⟨nb1_z, nb2_z, nb3_z⟩, ⟨nt1_z, nt2_z, nt3_z⟩, ⟨nl1_z, nl2_z, nl3_z⟩, ⟨nr1_z, nr2_z, nr3_z⟩, ⟨nk1_z, nk2_z, nk3_z⟩, ⟨fun hb_z k hk_z => AC0 hb_z k hk_z, fun hb_z k hk_z => AC1 hb_z k hk_z, fun hb_z k hk_z => AC2 hb_z k hk_z, fun hb_z k hk_z => AC3 hb_z k hk_z⟩, fun t ht => AD t ht, fun t ht => AE t ht, fun t ht => AG t ht⟩
    have B' : rp_t h340_z h343_z := by
      obtain ⟨b0_z, b1_z, b2_z, b3_z, b4_z, b5_z, b6_z, t, o0_z, o1_z, o2_z, o3_z, o4_z, o5_z, o6_z⟩ := B
      exact ⟨b0_z, b1_z, b2_z, b3_z, b4_z, b5_z, b6_z, t, o0_z, o1_z, o2_z, o3_z, o4_z, o5_z, o6_z⟩
    rcases pr_num R' (by decide) (by decide) q347_z q350_z with ⟨v2_z, x2_z, p2_z, rfl, rfl, lo2_z, hi2_z, R, le2_z, got, X, Y, t7_z, t167_z⟩ | ⟨rfl, F⟩
    · replace A := rp_x (by decide) A' X Y
      replace B := rp_tk B' t7_z t167_z Y
      clear A' B' R'
      replace le2_z : x.toInt ≤ p2_z.toInt := Int.le_trans (Int.le_trans le1_z R8) le2_z
      replace hm_z : rn _ _ _ _ [.int 1] _ _ _ := hm_z
      replace hc_z : rn _ _ _ _ [.int v2_z, .ref 23] _ _ _ := hc_z
      clear a1_z a2_z a3_z a4_z a5_z a6_z nb1_z nb2_z nb3_z nt1_z nt2_z nt3_z nl1_z nl2_z nl3_z nr1_z nr2_z nr3_z nk1_z nk2_z nk3_z AC0 AC1 AC2 AC3 AD AE AG c1_z c2_z c3_z c4_z c5_z c6_z c7_z c8_z m2_z m3_z m4_z m5_z m6_z m7_z m8_z R3 R4 R5 R6 R7 R8 R9 R10
      obtain ⟨⟨⟨a1_z, a2_z, a3_z, a4_z, a5_z, a6_z⟩, ⟨nb1_z, nb2_z, nb3_z⟩, ⟨nt1_z, nt2_z, nt3_z⟩, ⟨nl1_z, nl2_z, nl3_z⟩, ⟨nr1_z, nr2_z, nr3_z⟩, ⟨nk1_z, nk2_z, nk3_z⟩, ⟨AC0, AC1, AC2, AC3⟩, AD, AE, AG⟩, ⟨⟨c1_z, c2_z, c3_z, c4_z, c5_z, c6_z, c7_z, c8_z⟩, ⟨m2_z, m3_z, m4_z, m5_z, m6_z, m7_z, m8_z⟩, R3, R4, R5, R6, R7, R8, R9, R10⟩⟩ := (⟨A, R⟩ : rp 23 h346_z h349_z ∧ rq T S x2_z p2_z 23 h346_z h349_z)
      replace hc_z := rn_put (am_cur_of (i := (16, 3, .putfield 205, (1, 7, 278), 0)) (by decide +kernel)) (by decide +kernel) hc_z
      replace hc_z := rn_aload_n (am_cur_of (i := (19, 1, .aload_n 0, (0, 0, 0), 0)) (by decide +kernel)) g0_z hc_z
      replace hc_z := rn_getM (x := 23) (am_cur_of (i := (20, 3, .getfield 25, (4, 6, 415), 0)) (by decide +kernel)) (show (am_up h346_z 23 7 (.int v2_z)) 44 6 = .ref 23 from R3) hc_z
      replace hc_z := rn_aload_n (am_cur_of (i := (23, 1, .aload_n 0, (0, 0, 0), 0)) (by decide +kernel)) g0_z hc_z
      replace hc_z := rn_iconst (w := 1) (am_cur_of (i := (24, 1, .iconst 1, (0, 0, 0), 0)) (by decide +kernel)) (by decide) hc_z
      replace hc_z := rn_bipush (w := 99) (am_cur_of (i := (25, 2, .bipush 99, (0, 0, 0), 0)) (by decide +kernel)) (by decide) hc_z
      replace hc_z := rn_callV (M' := am_m30) (o := 44) (ar := [.int 99, .int 1]) (rest := [.ref 23]) (L := lv_args 0 [.ref 44, .int 1, .int 99]) (am_cur_of (i := (27, 3, .invokevirtual 142, (30, 773, 3), 0)) (by decide +kernel)) rfl rfl rfl rfl hc_z
      obtain ⟨r351_z, h352_z, q353_z, hc_z⟩ := hc_z
      replace hm_z := rn_ifT (am_cur_of (i := (15, 3, .ifCond .ne 5, (11, 0, 0), 0)) (by decide +kernel)) (by decide) hm_z
      replace hm_z := rn_aload_n (am_cur_of (i := (20, 1, .aload_n 0, (0, 0, 0), 0)) (by decide +kernel)) g0m hm_z
      replace hm_z := rn_getR (x := 168) (am_cur_of (i := (21, 3, .getfield 24, (12, 23, 1407), 0)) (by decide +kernel)) (by decide +kernel) hm_z
      replace hm_z := rn_bipush (w := 8) (am_cur_of (i := (24, 2, .bipush 8, (0, 0, 0), 0)) (by decide +kernel)) (by decide) hm_z
      replace hm_z := rn_aload_n (am_cur_of (i := (26, 1, .aload_n 0, (0, 0, 0), 0)) (by decide +kernel)) g0m hm_z
      replace hm_z := rn_getI (v := v2_z) (am_cur_of (i := (27, 3, .getfield 188, (12, 11, 1395), 0)) (by decide +kernel)) (by decide +kernel) got hm_z
      replace hm_z := rn_iastore (N := 12) (q := 8) (am_cur_of (i := (30, 1, .iastore, (0, 0, 0), 0)) (by decide +kernel)) (by decide +kernel) rfl hm_z
      obtain ⟨p354_z, hm_z⟩ := hm_z
      replace hm_z := rn_aload_n (am_cur_of (i := (31, 1, .aload_n 0, (0, 0, 0), 0)) (by decide +kernel)) g0m hm_z
      replace hm_z := rn_iconst (w := 1) (am_cur_of (i := (32, 1, .iconst 1, (0, 0, 0), 0)) (by decide +kernel)) (by decide) hm_z
      replace hm_z := rn_bipush (w := 99) (am_cur_of (i := (33, 2, .bipush 99, (0, 0, 0), 0)) (by decide +kernel)) (by decide) hm_z
      replace hm_z := rn_callV (M' := am_m161) (o := 164) (ar := [.int 99, .int 1]) (rest := []) (L := lv_args 0 [.ref 164, .int 1, .int 99]) (am_cur_of (i := (35, 3, .invokevirtual 197, (161, 1677, 3), 0)) (by decide +kernel)) rfl rfl rfl rfl hm_z
      obtain ⟨r355_z, h356_z, q357_z, hm_z⟩ := hm_z
      have R' : rq T S x2_z p2_z 23 (am_up h346_z 23 7 (.int v2_z)) (am_up h349_z 168 8 (.int v2_z)) := ⟨⟨c1_z, c2_z, c3_z, c4_z, c5_z, c6_z, fun k hk_z => c7_z k hk_z, fun k hk_z => c8_z k hk_z⟩, ⟨m2_z, m3_z, m4_z, m5_z, m6_z, fun k hk_z => m7_z k hk_z, fun k hk_z => m8_z k hk_z⟩, R3, R4, R5, R6, R7, R8, R9, R10⟩
      have A' : rp 23 (am_up h346_z 23 7 (.int v2_z)) (am_up h349_z 168 8 (.int v2_z)) := ⟨⟨a1_z, a2_z, rfl, a4_z, a5_z, a6_z⟩, ⟨nb1_z, nb2_z, nb3_z⟩, ⟨nt1_z, nt2_z, nt3_z⟩, ⟨nl1_z, nl2_z, nl3_z⟩, ⟨nr1_z, nr2_z, nr3_z⟩, ⟨nk1_z, nk2_z, nk3_z⟩, ⟨fun hb_z k hk_z => AC0 hb_z k hk_z, fun hb_z k hk_z => AC1 hb_z k hk_z, fun hb_z k hk_z => AC2 hb_z k hk_z, fun hb_z k hk_z => AC3 hb_z k hk_z⟩, fun t ht => AD t ht, fun t ht => AE t ht, fun t ht => AG t ht⟩
      have B' : rp_t (am_up h346_z 23 7 (.int v2_z)) (am_up h349_z 168 8 (.int v2_z)) := by
        obtain ⟨b0_z, b1_z, b2_z, b3_z, b4_z, b5_z, b6_z, t, o0_z, o1_z, o2_z, o3_z, o4_z, o5_z, o6_z⟩ := B
        exact ⟨b0_z, b1_z, b2_z, b3_z, b4_z, b5_z, b6_z, t, o0_z, o1_z, o2_z, o3_z, o4_z, o5_z, o6_z⟩
      rcases pr_num R' (by decide) (by decide) q353_z q357_z with ⟨v3_z, x3_z, p3_z, rfl, rfl, lo3_z, hi3_z, R, le3_z, got, X, Y, t7_z, t167_z⟩ | ⟨rfl, F⟩
      · replace A := rp_x (by decide) A' X Y
        replace B := rp_tk B' t7_z t167_z Y
        clear A' B' R'
        replace le3_z : x.toInt ≤ p3_z.toInt := Int.le_trans (Int.le_trans le2_z R8) le3_z
        replace hm_z : rn _ _ _ _ [.int 1] _ _ _ := hm_z
        replace hc_z : rn _ _ _ _ [.int v3_z, .ref 23] _ _ _ := hc_z
        clear a1_z a2_z a3_z a4_z a5_z a6_z nb1_z nb2_z nb3_z nt1_z nt2_z nt3_z nl1_z nl2_z nl3_z nr1_z nr2_z nr3_z nk1_z nk2_z nk3_z AC0 AC1 AC2 AC3 AD AE AG c1_z c2_z c3_z c4_z c5_z c6_z c7_z c8_z m2_z m3_z m4_z m5_z m6_z m7_z m8_z R3 R4 R5 R6 R7 R8 R9 R10
        obtain ⟨⟨⟨a1_z, a2_z, a3_z, a4_z, a5_z, a6_z⟩, ⟨nb1_z, nb2_z, nb3_z⟩, ⟨nt1_z, nt2_z, nt3_z⟩, ⟨nl1_z, nl2_z, nl3_z⟩, ⟨nr1_z, nr2_z, nr3_z⟩, ⟨nk1_z, nk2_z, nk3_z⟩, ⟨AC0, AC1, AC2, AC3⟩, AD, AE, AG⟩, ⟨⟨c1_z, c2_z, c3_z, c4_z, c5_z, c6_z, c7_z, c8_z⟩, ⟨m2_z, m3_z, m4_z, m5_z, m6_z, m7_z, m8_z⟩, R3, R4, R5, R6, R7, R8, R9, R10⟩⟩ := (⟨A, R⟩ : rp 23 h352_z h356_z ∧ rq T S x3_z p3_z 23 h352_z h356_z)
        replace hc_z := rn_put (am_cur_of (i := (30, 3, .putfield 208, (1, 8, 282), 0)) (by decide +kernel)) (by decide +kernel) hc_z
        replace hc_z := rn_vret (am_cur_of (i := (33, 1, .return_, (0, 0, 0), 0)) (by decide +kernel)) hc_z
        obtain ⟨e358_z, e359_z⟩ := hc_z
        subst e358_z e359_z
        replace hm_z := rn_ifT (am_cur_of (i := (38, 3, .ifCond .ne 5, (24, 0, 0), 0)) (by decide +kernel)) (by decide) hm_z
        replace hm_z := rn_aload_n (am_cur_of (i := (43, 1, .aload_n 0, (0, 0, 0), 0)) (by decide +kernel)) g0m hm_z
        replace hm_z := rn_getR (x := 168) (am_cur_of (i := (44, 3, .getfield 24, (12, 23, 1407), 0)) (by decide +kernel)) (by decide +kernel) hm_z
        replace hm_z := rn_bipush (w := 9) (am_cur_of (i := (47, 2, .bipush 9, (0, 0, 0), 0)) (by decide +kernel)) (by decide) hm_z
        replace hm_z := rn_aload_n (am_cur_of (i := (49, 1, .aload_n 0, (0, 0, 0), 0)) (by decide +kernel)) g0m hm_z
        replace hm_z := rn_getI (v := v3_z) (am_cur_of (i := (50, 3, .getfield 188, (12, 11, 1395), 0)) (by decide +kernel)) (by decide +kernel) got hm_z
        replace hm_z := rn_iastore (N := 12) (q := 9) (am_cur_of (i := (53, 1, .iastore, (0, 0, 0), 0)) (by decide +kernel)) (by decide +kernel) rfl hm_z
        obtain ⟨p360_z, hm_z⟩ := hm_z
        replace hm_z := rn_iconst (w := 1) (am_cur_of (i := (54, 1, .iconst 1, (0, 0, 0), 0)) (by decide +kernel)) (by decide) hm_z
        replace hm_z := rn_iret (am_cur_of (i := (55, 1, .ireturn, (0, 0, 0), 0)) (by decide +kernel)) hm_z
        obtain ⟨e361_z, e362_z⟩ := hm_z
        subst e361_z e362_z
        have R' : rq T S x3_z p3_z 23 (am_up h352_z 23 8 (.int v3_z)) (am_up h356_z 168 9 (.int v3_z)) := ⟨⟨c1_z, c2_z, c3_z, c4_z, c5_z, c6_z, fun k hk_z => c7_z k hk_z, fun k hk_z => c8_z k hk_z⟩, ⟨m2_z, m3_z, m4_z, m5_z, m6_z, fun k hk_z => m7_z k hk_z, fun k hk_z => m8_z k hk_z⟩, R3, R4, R5, R6, R7, R8, R9, R10⟩
        have A' : rp 23 (am_up h352_z 23 8 (.int v3_z)) (am_up h356_z 168 9 (.int v3_z)) := ⟨⟨a1_z, a2_z, a3_z, rfl, a5_z, a6_z⟩, ⟨nb1_z, nb2_z, nb3_z⟩, ⟨nt1_z, nt2_z, nt3_z⟩, ⟨nl1_z, nl2_z, nl3_z⟩, ⟨nr1_z, nr2_z, nr3_z⟩, ⟨nk1_z, nk2_z, nk3_z⟩, ⟨fun hb_z k hk_z => AC0 hb_z k hk_z, fun hb_z k hk_z => AC1 hb_z k hk_z, fun hb_z k hk_z => AC2 hb_z k hk_z, fun hb_z k hk_z => AC3 hb_z k hk_z⟩, fun t ht => AD t ht, fun t ht => AE t ht, fun t ht => AG t ht⟩
        have B' : rp_t (am_up h352_z 23 8 (.int v3_z)) (am_up h356_z 168 9 (.int v3_z)) := by
          obtain ⟨b0_z, b1_z, b2_z, b3_z, b4_z, b5_z, b6_z, t, o0_z, o1_z, o2_z, o3_z, o4_z, o5_z, o6_z⟩ := B
          exact ⟨b0_z, b1_z, b2_z, b3_z, b4_z, b5_z, b6_z, t, o0_z, o1_z, o2_z, o3_z, o4_z, o5_z, o6_z⟩
        exact Or.inl ⟨rfl, _, _, R', le3_z, A', B'⟩
      · obtain ⟨wv, w0_z, f1_z, f2_z, f3_z, f4_z⟩ := F
        have K := rs_stick (a := 36) (by decide) (by decide) rfl w0_z f1_z f2_z hc_z
        replace hm_z : rn _ _ _ _ [.int 0] _ _ _ := hm_z
        replace hm_z := rn_ifF (am_cur_of (i := (38, 3, .ifCond .ne 5, (24, 0, 0), 0)) (by decide +kernel)) (by decide) hm_z
        replace hm_z := rn_iconst (w := 0) (am_cur_of (i := (41, 1, .iconst 0, (0, 0, 0), 0)) (by decide +kernel)) (by decide) hm_z
        replace hm_z := rn_iret (am_cur_of (i := (42, 1, .ireturn, (0, 0, 0), 0)) (by decide +kernel)) hm_z
        obtain ⟨e363_z, e364_z⟩ := hm_z
        subst e363_z e364_z
        exact Or.inr ⟨rfl, _, wv, w0_z, K.1, K.2, f3_z, f4_z⟩
    · obtain ⟨wv, w0_z, f1_z, f2_z, f3_z, f4_z⟩ := F
      have K := rs_stick (a := 36) (by decide) (by decide) rfl w0_z f1_z f2_z hc_z
      replace hm_z : rn _ _ _ _ [.int 0] _ _ _ := hm_z
      replace hm_z := rn_ifF (am_cur_of (i := (15, 3, .ifCond .ne 5, (11, 0, 0), 0)) (by decide +kernel)) (by decide) hm_z
      replace hm_z := rn_iconst (w := 0) (am_cur_of (i := (18, 1, .iconst 0, (0, 0, 0), 0)) (by decide +kernel)) (by decide) hm_z
      replace hm_z := rn_iret (am_cur_of (i := (19, 1, .ireturn, (0, 0, 0), 0)) (by decide +kernel)) hm_z
      obtain ⟨e365_z, e366_z⟩ := hm_z
      subst e365_z e366_z
      exact Or.inr ⟨rfl, _, wv, w0_z, K.1, K.2, f3_z, f4_z⟩
  · obtain ⟨wv, w0_z, f1_z, f2_z, f3_z, f4_z⟩ := F
    have K := rs_stick (a := 36) (by decide) (by decide) rfl w0_z f1_z f2_z hc_z
    replace hm_z : rn _ _ _ _ [.int 0] _ _ _ := hm_z
    replace hm_z := rn_ifT (am_cur_of (i := (5, 3, .ifCond .eq 13, (9, 0, 0), 0)) (by decide +kernel)) (by decide) hm_z
    replace hm_z := rn_iconst (w := 0) (am_cur_of (i := (18, 1, .iconst 0, (0, 0, 0), 0)) (by decide +kernel)) (by decide) hm_z
    replace hm_z := rn_iret (am_cur_of (i := (19, 1, .ireturn, (0, 0, 0), 0)) (by decide +kernel)) hm_z
    obtain ⟨e367_z, e368_z⟩ := hm_z
    subst e367_z e368_z
    exact Or.inr ⟨rfl, _, wv, w0_z, K.1, K.2, f3_z, f4_z⟩
