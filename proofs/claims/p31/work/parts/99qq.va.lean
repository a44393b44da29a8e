/-! ===== A LAW'S VALUE IN BOTH READERS: readValue, leafRead (wip/r/gen99qq.py) ===== -/
theorem rs_keep {d : Nat} {h g H G : am_H} (Z : rs d h g) (e13_z : rg_v H 44 13 = rg_v h 44 13) (e41_z : rg_v G 164 41 = rg_v g 164 41) (e14_z : rg_v H 44 14 = rg_v h 44 14) (e43_z : rg_v G 164 43 = rg_v g 164 43) (ek : (rg_v h (d + 9) 0).toInt ≤ (rg_v H (d + 9) 0).toInt) (e47_z : ∀ k, rg_v H 47 k = rg_v h 47 k) (e184_z : ∀ k, rg_v G 184 k = rg_v g 184 k) : rs d H G := by
  obtain ⟨np, op, z1_z, z2_z, z3_z, z4_z, z5_z, z6_z, z7_z, z8_z, z9_z, z10_z⟩ := Z
  refine ⟨np, op, e13_z.trans z1_z, e41_z.trans z2_z, z3_z, e14_z.trans z4_z, e43_z.trans z5_z, z6_z, z7_z, by omega, fun i hi_z => ?_, ?_⟩
  · rw [e47_z, e184_z]
    exact z9_z i hi_z
  · rw [rs_cnt_fr e184_z]
    exact z10_z
theorem rs_cnt_ne {g G : am_H} {q : Nat} (e : ∀ i, ¬ i = q → rg_v G 184 i = rg_v g 184 i) : ∀ n, n ≤ q → rs_cnt G n = rs_cnt g n
  | 0, _ => rfl
  | n + 1, hn_z => by
    show rs_cnt G n + (if rg_v G 184 n = 0 then 1 else 0) = rs_cnt g n + (if rg_v g 184 n = 0 then 1 else 0)
    rw [rs_cnt_ne e n (by omega), e n (by omega)]
theorem rs_push {d : Nat} {h g H G : am_H} {o k np op : Int32} (Z : rs d h g) (ho : rs_o o k) (en : rg_v h 44 13 = np) (eo : rg_v h 44 14 = op) (e13_z : rg_v H 44 13 = np + 1) (e41_z : rg_v G 164 41 = np + 1) (e47_z : ∀ i, ¬ i = np.toNatClampNeg → rg_v H 47 i = rg_v h 47 i) (n47_z : rg_v H 47 np.toNatClampNeg = o) (e184_z : ∀ i, ¬ i = np.toNatClampNeg → rg_v G 184 i = rg_v g 184 i) (n184_z : rg_v G 184 np.toNatClampNeg = k) (k9_z : (rg_v h (d + 9) 0).toInt ≤ 64)
    (hk_z : (¬ k = 0 ∧ rg_v H 44 14 = op ∧ rg_v G 164 43 = op ∧ (rg_v H (d + 9) 0).toInt = (rg_v h (d + 9) 0).toInt + 1) ∨ (k = 0 ∧ op.toInt < 8 ∧ rg_v H 44 14 = op + 1 ∧ rg_v G 164 43 = op + 1 ∧ (rg_v H (d + 9) 0).toInt = (rg_v h (d + 9) 0).toInt)) : rs d H G := by
  obtain ⟨np', op', z1_z, z2_z, z3_z, z4_z, z5_z, z6_z, z7_z, z8_z, z9_z, z10_z⟩ := Z
  obtain rfl : np' = np := z1_z.symm.trans en
  obtain rfl : op' = op := z4_z.symm.trans eo
  have cn := rt_cl z3_z
  have y1_z := rt_c1 z3_z (by omega)
  have cn1_z := rt_cl (x := np' + 1) (by omega)
  have hr : ∀ i : Nat, (i : Int) < (np' + 1).toInt → rs_o (rg_v H 47 i) (rg_v G 184 i) := by
    intro i hi_z
    by_cases q : i = np'.toNatClampNeg
    · rw [q, n47_z, n184_z]
      exact ho
    · rw [e47_z i q, e184_z i q]
      exact z9_z i (by omega)
  have hcn : rs_cnt G (np' + 1).toNatClampNeg = rs_cnt g np'.toNatClampNeg + (if k = 0 then 1 else 0) := by
    rw [show (np' + 1).toNatClampNeg = np'.toNatClampNeg + 1 by omega]
    show rs_cnt G np'.toNatClampNeg + (if rg_v G 184 np'.toNatClampNeg = 0 then 1 else 0) = _
    rw [rs_cnt_ne e184_z _ (Nat.le_refl _), n184_z]
  rcases hk_z with ⟨k0_z, h14_z, h43_z, hK⟩ | ⟨k0_z, o8_z, h14_z, h43_z, hK⟩
  · rw [if_neg k0_z] at hcn
    exact ⟨np' + 1, op', e13_z, e41_z, by omega, h14_z, h43_z, z6_z, z7_z, by omega, hr, by omega⟩
  · rw [if_pos k0_z] at hcn
    have y2_z := rt_c1 z6_z (by omega)
    exact ⟨np' + 1, op' + 1, e13_z, e41_z, by omega, h14_z, h43_z, by omega, by omega, by omega, hr, by omega⟩
theorem rs_fr {d : Nat} {h g H G : am_H} (hd_z : d = 2 ∨ d = 23) (Z : rs d h g) (a : ab_Fr rt_mC h H) (b : ab_Fr rt_mM g G) : rs d H G := by
  have ek : rg_v H (d + 9) 0 = rg_v h (d + 9) 0 := by
    rcases hd_z with rfl | rfl
    · exact rg_v_fr a (by decide)
    · exact rg_v_fr a (by decide)
  exact rs_keep Z (rg_v_fr a (by decide)) (rg_v_fr b (by decide)) (rg_v_fr a (by decide)) (rg_v_fr b (by decide)) (by rw [ek]; exact Int.le_refl _) (fun k => rg_v_fr a (rg_v_in (by decide) k)) (fun k => rg_v_fr b (rg_v_in (by decide) k))
/-- the name's number of the model -/
def rp_nmf (c d : Int32) : Int32 := if c = 1 then (if d = 11 then 3 else if 18 ≤ d.toInt then 4 + d - 18 else if 15 ≤ d.toInt then d - 15 else -1) else -1
theorem rp_nm {n : Nat} {h h' : am_H} {r : Option Value} {c d : Int32} (ec_z : rg_v h 164 8 = c) (ed_z : rg_v h 164 9 = d) (hc_z : rn n am_m176 0 (lv_args 0 [.ref 164]) [] h r h') : r = some (.int (rp_nmf c d)) ∧ h' = h := by
  have z1_z : (1 : Int32).toInt = 1 := by decide
  have z11_z : (11 : Int32).toInt = 11 := by decide
  have z15_z : (15 : Int32).toInt = 15 := by decide
  have z18_z : (18 : Int32).toInt = 18 := by decide
  have g0_z : am_get (lv_args 0 [.ref 164]) 0 = some (.ref 164) := rfl
  replace hc_z := rn_aload_n (am_cur_of (i := (0, 1, .aload_n 0, (0, 0, 0), 0)) (by decide +kernel)) g0_z hc_z
  replace hc_z := rn_getI (v := c) (am_cur_of (i := (1, 3, .getfield 157, (12, 8, 1392), 0)) (by decide +kernel)) (by decide +kernel) ec_z hc_z
  replace hc_z := rn_iconst (w := 1) (am_cur_of (i := (4, 1, .iconst 1, (0, 0, 0), 0)) (by decide +kernel)) (by decide) hc_z
  replace hc_z := rn_cmp (am_cur_of (i := (5, 3, .if_icmp .eq 7, (6, 0, 0), 0)) (by decide +kernel)) hc_z
  rcases hc_z with ⟨b369_z, hc_z⟩ | ⟨b369_z, hc_z⟩
  · replace b369_z : c = (1 : Int32) ∧ c.toInt = (1 : Int32).toInt := b369_z
    replace hc_z := rn_aload_n (am_cur_of (i := (12, 1, .aload_n 0, (0, 0, 0), 0)) (by decide +kernel)) g0_z hc_z
    replace hc_z := rn_getI (v := d) (am_cur_of (i := (13, 3, .getfield 168, (12, 9, 1393), 0)) (by decide +kernel)) (by decide +kernel) ed_z hc_z
    replace hc_z := rn_bipush (w := 11) (am_cur_of (i := (16, 2, .bipush 11, (0, 0, 0), 0)) (by decide +kernel)) (by decide) hc_z
    replace hc_z := rn_cmp (am_cur_of (i := (18, 3, .if_icmp .ne 7, (12, 0, 0), 0)) (by decide +kernel)) hc_z
    rcases hc_z with ⟨b370_z, hc_z⟩ | ⟨b370_z, hc_z⟩
    · replace b370_z : ¬ d = (11 : Int32) ∧ ¬ d.toInt = (11 : Int32).toInt := b370_z
      replace hc_z := rn_aload_n (am_cur_of (i := (25, 1, .aload_n 0, (0, 0, 0), 0)) (by decide +kernel)) g0_z hc_z
      replace hc_z := rn_getI (v := d) (am_cur_of (i := (26, 3, .getfield 168, (12, 9, 1393), 0)) (by decide +kernel)) (by decide +kernel) ed_z hc_z
      replace hc_z := rn_bipush (w := 18) (am_cur_of (i := (29, 2, .bipush 18, (0, 0, 0), 0)) (by decide +kernel)) (by decide) hc_z
      replace hc_z := rn_cmp (am_cur_of (i := (31, 3, .if_icmp .lt 15, (23, 0, 0), 0)) (by decide +kernel)) hc_z
      rcases hc_z with ⟨b371_z, hc_z⟩ | ⟨b371_z, hc_z⟩
      · replace b371_z : d.toInt < (18 : Int32).toInt := b371_z
        replace hc_z := rn_aload_n (am_cur_of (i := (46, 1, .aload_n 0, (0, 0, 0), 0)) (by decide +kernel)) g0_z hc_z
        replace hc_z := rn_getI (v := d) (am_cur_of (i := (47, 3, .getfield 168, (12, 9, 1393), 0)) (by decide +kernel)) (by decide +kernel) ed_z hc_z
        replace hc_z := rn_bipush (w := 15) (am_cur_of (i := (50, 2, .bipush 15, (0, 0, 0), 0)) (by decide +kernel)) (by decide) hc_z
        replace hc_z := rn_cmp (am_cur_of (i := (52, 3, .if_icmp .lt 13, (32, 0, 0), 0)) (by decide +kernel)) hc_z
        rcases hc_z with ⟨b372_z, hc_z⟩ | ⟨b372_z, hc_z⟩
        · replace b372_z : d.toInt < (15 : Int32).toInt := b372_z
          replace hc_z := rn_iconst (w := (-1)) (am_cur_of (i := (65, 1, .iconst (-1), (0, 0, 0), 0)) (by decide +kernel)) (by decide) hc_z
          replace hc_z := rn_iret (am_cur_of (i := (66, 1, .ireturn, (0, 0, 0), 0)) (by decide +kernel)) hc_z
          obtain ⟨e373_z, e374_z⟩ := hc_z
          refine ⟨?_, e374_z⟩
          rw [e373_z]
          unfold rp_nmf
          first | rw [if_pos (by omega)] | rw [if_neg (by omega)] | rw [if_pos b369_z.1] | rw [if_neg b369_z.1]
          first | rw [if_pos (by omega)] | rw [if_neg (by omega)] | rw [if_pos b370_z.1] | rw [if_neg b370_z.1]
          first | rw [if_pos (by omega)] | rw [if_neg (by omega)] | rw [if_pos b371_z.1] | rw [if_neg b371_z.1]
          first | rw [if_pos (by omega)] | rw [if_neg (by omega)] | rw [if_pos b372_z.1] | rw [if_neg b372_z.1]
        · replace b372_z : (15 : Int32).toInt ≤ d.toInt := b372_z
          replace hc_z := rn_aload_n (am_cur_of (i := (55, 1, .aload_n 0, (0, 0, 0), 0)) (by decide +kernel)) g0_z hc_z
          replace hc_z := rn_getI (v := d) (am_cur_of (i := (56, 3, .getfield 168, (12, 9, 1393), 0)) (by decide +kernel)) (by decide +kernel) ed_z hc_z
          replace hc_z := rn_bipush (w := 15) (am_cur_of (i := (59, 2, .bipush 15, (0, 0, 0), 0)) (by decide +kernel)) (by decide) hc_z
          replace hc_z := rn_isub (w := d - 15) (am_cur_of (i := (61, 1, .isub, (0, 0, 0), 0)) (by decide +kernel)) rfl hc_z
          replace hc_z := rn_goto (am_cur_of (i := (62, 3, .goto 4, (33, 0, 0), 0)) (by decide +kernel)) hc_z
          replace hc_z := rn_iret (am_cur_of (i := (66, 1, .ireturn, (0, 0, 0), 0)) (by decide +kernel)) hc_z
          obtain ⟨e375_z, e376_z⟩ := hc_z
          refine ⟨?_, e376_z⟩
          rw [e375_z]
          unfold rp_nmf
          first | rw [if_pos (by omega)] | rw [if_neg (by omega)] | rw [if_pos b369_z.1] | rw [if_neg b369_z.1]
          first | rw [if_pos (by omega)] | rw [if_neg (by omega)] | rw [if_pos b370_z.1] | rw [if_neg b370_z.1]
          first | rw [if_pos (by omega)] | rw [if_neg (by omega)] | rw [if_pos b371_z.1] | rw [if_neg b371_z.1]
          first | rw [if_pos (by omega)] | rw [if_neg (by omega)] | rw [if_pos b372_z.1] | rw [if_neg b372_z.1]
      · replace b371_z : (18 : Int32).toInt ≤ d.toInt := b371_z
        replace hc_z := rn_iconst (w := 4) (am_cur_of (i := (34, 1, .iconst 4, (0, 0, 0), 0)) (by decide +kernel)) (by decide) hc_z
        replace hc_z := rn_aload_n (am_cur_of (i := (35, 1, .aload_n 0, (0, 0, 0), 0)) (by decide +kernel)) g0_z hc_z
        replace hc_z := rn_getI (v := d) (am_cur_of (i := (36, 3, .getfield 168, (12, 9, 1393), 0)) (by decide +kernel)) (by decide +kernel) ed_z hc_z
        replace hc_z := rn_iadd (w := (4 : Int32) + d) (am_cur_of (i := (39, 1, .iadd, (0, 0, 0), 0)) (by decide +kernel)) rfl hc_z
        replace hc_z := rn_bipush (w := 18) (am_cur_of (i := (40, 2, .bipush 18, (0, 0, 0), 0)) (by decide +kernel)) (by decide) hc_z
        replace hc_z := rn_isub (w := ((4 : Int32) + d) - 18) (am_cur_of (i := (42, 1, .isub, (0, 0, 0), 0)) (by decide +kernel)) rfl hc_z
        replace hc_z := rn_goto (am_cur_of (i := (43, 3, .goto 23, (33, 0, 0), 0)) (by decide +kernel)) hc_z
        replace hc_z := rn_iret (am_cur_of (i := (66, 1, .ireturn, (0, 0, 0), 0)) (by decide +kernel)) hc_z
        obtain ⟨e377_z, e378_z⟩ := hc_z
        refine ⟨?_, e378_z⟩
        rw [e377_z]
        unfold rp_nmf
        first | rw [if_pos (by omega)] | rw [if_neg (by omega)] | rw [if_pos b369_z.1] | rw [if_neg b369_z.1]
        first | rw [if_pos (by omega)] | rw [if_neg (by omega)] | rw [if_pos b370_z.1] | rw [if_neg b370_z.1]
        first | rw [if_pos (by omega)] | rw [if_neg (by omega)] | rw [if_pos b371_z.1] | rw [if_neg b371_z.1]
    · replace b370_z : d = (11 : Int32) ∧ d.toInt = (11 : Int32).toInt := b370_z
      replace hc_z := rn_iconst (w := 3) (am_cur_of (i := (21, 1, .iconst 3, (0, 0, 0), 0)) (by decide +kernel)) (by decide) hc_z
      replace hc_z := rn_goto (am_cur_of (i := (22, 3, .goto 44, (33, 0, 0), 0)) (by decide +kernel)) hc_z
      replace hc_z := rn_iret (am_cur_of (i := (66, 1, .ireturn, (0, 0, 0), 0)) (by decide +kernel)) hc_z
      obtain ⟨e379_z, e380_z⟩ := hc_z
      refine ⟨?_, e380_z⟩
      rw [e379_z]
      unfold rp_nmf
      first | rw [if_pos (by omega)] | rw [if_neg (by omega)] | rw [if_pos b369_z.1] | rw [if_neg b369_z.1]
      first | rw [if_pos (by omega)] | rw [if_neg (by omega)] | rw [if_pos b370_z.1] | rw [if_neg b370_z.1]
  · replace b369_z : ¬ c = (1 : Int32) ∧ ¬ c.toInt = (1 : Int32).toInt := b369_z
    replace hc_z := rn_iconst (w := (-1)) (am_cur_of (i := (8, 1, .iconst (-1), (0, 0, 0), 0)) (by decide +kernel)) (by decide) hc_z
    replace hc_z := rn_goto (am_cur_of (i := (9, 3, .goto 57, (33, 0, 0), 0)) (by decide +kernel)) hc_z
    replace hc_z := rn_iret (am_cur_of (i := (66, 1, .ireturn, (0, 0, 0), 0)) (by decide +kernel)) hc_z
    obtain ⟨e381_z, e382_z⟩ := hc_z
    refine ⟨?_, e382_z⟩
    rw [e381_z]
    unfold rp_nmf
    first | rw [if_pos (by omega)] | rw [if_neg (by omega)] | rw [if_pos b369_z.1] | rw [if_neg b369_z.1]
theorem rs_ck2 {n : Nat} {h h' : am_H} {r : Option Value} (hf_z : rg_v h 44 1 = 0) (hp_z : h 44 6 = .ref 2) (hc_z : rn n am_m49 0 (lv_args 0 [.ref 44]) [] h r h') : (64 ≤ (rg_v h 11 0).toInt ∧ r = none ∧ h' = rp_F 2 h) ∨ ((rg_v h 11 0).toInt < 64 ∧ r = none ∧ h' = am_up h 11 0 (.int (rg_v h 11 0 + 1))) := by
  have z64_z : (64 : Int32).toInt = 64 := by decide
  have g0_z : am_get (lv_args 0 [.ref 44]) 0 = some (.ref 44) := rfl
  replace hc_z := rn_aload_n (am_cur_of (i := (0, 1, .aload_n 0, (0, 0, 0), 0)) (by decide +kernel)) g0_z hc_z
  replace hc_z := rn_getM (x := 2) (am_cur_of (i := (1, 3, .getfield 25, (4, 6, 415), 0)) (by decide +kernel)) hp_z hc_z
  replace hc_z := rn_getR (x := 11) (am_cur_of (i := (4, 3, .getfield 242, (1, 19, 316), 0)) (by decide +kernel)) (by decide +kernel) hc_z
  replace hc_z := rn_getI (v := rg_v h 11 0) (am_cur_of (i := (7, 3, .getfield 286, (2, 0, 164), 0)) (by decide +kernel)) (by decide +kernel) rfl hc_z
  replace hc_z := rn_bipush (w := 64) (am_cur_of (i := (10, 2, .bipush 64, (0, 0, 0), 0)) (by decide +kernel)) (by decide) hc_z
  replace hc_z := rn_cmp (am_cur_of (i := (12, 3, .if_icmp .lt 11, (10, 0, 0), 0)) (by decide +kernel)) hc_z
  rcases hc_z with ⟨b383_z, hc_z⟩ | ⟨b383_z, hc_z⟩
  · replace b383_z : (rg_v h 11 0).toInt < (64 : Int32).toInt := b383_z
    replace hc_z := rn_aload_n (am_cur_of (i := (23, 1, .aload_n 0, (0, 0, 0), 0)) (by decide +kernel)) g0_z hc_z
    replace hc_z := rn_getM (x := 2) (am_cur_of (i := (24, 3, .getfield 25, (4, 6, 415), 0)) (by decide +kernel)) hp_z hc_z
    replace hc_z := rn_getR (x := 11) (am_cur_of (i := (27, 3, .getfield 242, (1, 19, 316), 0)) (by decide +kernel)) (by decide +kernel) hc_z
    replace hc_z := rn_dup (am_cur_of (i := (30, 1, .dup, (0, 0, 0), 0)) (by decide +kernel)) hc_z
    replace hc_z := rn_getI (v := rg_v h 11 0) (am_cur_of (i := (31, 3, .getfield 286, (2, 0, 164), 0)) (by decide +kernel)) (by decide +kernel) rfl hc_z
    replace hc_z := rn_iconst (w := 1) (am_cur_of (i := (34, 1, .iconst 1, (0, 0, 0), 0)) (by decide +kernel)) (by decide) hc_z
    replace hc_z := rn_iadd (w := (rg_v h 11 0) + 1) (am_cur_of (i := (35, 1, .iadd, (0, 0, 0), 0)) (by decide +kernel)) rfl hc_z
    replace hc_z := rn_put (am_cur_of (i := (36, 3, .putfield 286, (2, 0, 164), 0)) (by decide +kernel)) (by decide +kernel) hc_z
    replace hc_z := rn_vret (am_cur_of (i := (39, 1, .return_, (0, 0, 0), 0)) (by decide +kernel)) hc_z
    obtain ⟨e384_z, e385_z⟩ := hc_z
    exact Or.inr ⟨by omega, e384_z, e385_z⟩
  · replace b383_z : (64 : Int32).toInt ≤ (rg_v h 11 0).toInt := b383_z
    replace hc_z := rn_aload_n (am_cur_of (i := (15, 1, .aload_n 0, (0, 0, 0), 0)) (by decide +kernel)) g0_z hc_z
    replace hc_z := rn_iconst (w := 2) (am_cur_of (i := (16, 1, .iconst 2, (0, 0, 0), 0)) (by decide +kernel)) (by decide) hc_z
    replace hc_z := rn_callV (M' := am_m29) (o := 44) (ar := [.int 2]) (rest := []) (L := lv_args 0 [.ref 44, .int 2]) (am_cur_of (i := (17, 3, .invokevirtual 108, (29, 769, 3), 0)) (by decide +kernel)) rfl rfl rfl rfl hc_z
    obtain ⟨r386_z, h387_z, q388_z, hc_z⟩ := hc_z
    obtain ⟨rfl, yq388_z⟩ := rp_fail hf_z q388_z
    subst yq388_z
    replace hc_z : rn _ _ _ _ [] _ _ _ := hc_z
    replace hc_z := rn_goto (am_cur_of (i := (20, 3, .goto 19, (18, 0, 0), 0)) (by decide +kernel)) hc_z
    replace hc_z := rn_vret (am_cur_of (i := (39, 1, .return_, (0, 0, 0), 0)) (by decide +kernel)) hc_z
    obtain ⟨e389_z, e390_z⟩ := hc_z
    exact Or.inl ⟨by omega, e389_z, e390_z⟩
theorem rs_ck23 {n : Nat} {h h' : am_H} {r : Option Value} (hf_z : rg_v h 44 1 = 0) (hp_z : h 44 6 = .ref 23) (hc_z : rn n am_m49 0 (lv_args 0 [.ref 44]) [] h r h') : (64 ≤ (rg_v h 32 0).toInt ∧ r = none ∧ h' = rp_F 2 h) ∨ ((rg_v h 32 0).toInt < 64 ∧ r = none ∧ h' = am_up h 32 0 (.int (rg_v h 32 0 + 1))) := by
  have z64_z : (64 : Int32).toInt = 64 := by decide
  have g0_z : am_get (lv_args 0 [.ref 44]) 0 = some (.ref 44) := rfl
  replace hc_z := rn_aload_n (am_cur_of (i := (0, 1, .aload_n 0, (0, 0, 0), 0)) (by decide +kernel)) g0_z hc_z
  replace hc_z := rn_getM (x := 23) (am_cur_of (i := (1, 3, .getfield 25, (4, 6, 415), 0)) (by decide +kernel)) hp_z hc_z
  replace hc_z := rn_getR (x := 32) (am_cur_of (i := (4, 3, .getfield 242, (1, 19, 316), 0)) (by decide +kernel)) (by decide +kernel) hc_z
  replace hc_z := rn_getI (v := rg_v h 32 0) (am_cur_of (i := (7, 3, .getfield 286, (2, 0, 164), 0)) (by decide +kernel)) (by decide +kernel) rfl hc_z
  replace hc_z := rn_bipush (w := 64) (am_cur_of (i := (10, 2, .bipush 64, (0, 0, 0), 0)) (by decide +kernel)) (by decide) hc_z
  replace hc_z := rn_cmp (am_cur_of (i := (12, 3, .if_icmp .lt 11, (10, 0, 0), 0)) (by decide +kernel)) hc_z
  rcases hc_z with ⟨b391_z, hc_z⟩ | ⟨b391_z, hc_z⟩
  · replace b391_z : (rg_v h 32 0).toInt < (64 : Int32).toInt := b391_z
    replace hc_z := rn_aload_n (am_cur_of (i := (23, 1, .aload_n 0, (0, 0, 0), 0)) (by decide +kernel)) g0_z hc_z
    replace hc_z := rn_getM (x := 23) (am_cur_of (i := (24, 3, .getfield 25, (4, 6, 415), 0)) (by decide +kernel)) hp_z hc_z
    replace hc_z := rn_getR (x := 32) (am_cur_of (i := (27, 3, .getfield 242, (1, 19, 316), 0)) (by decide +kernel)) (by decide +kernel) hc_z
    replace hc_z := rn_dup (am_cur_of (i := (30, 1, .dup, (0, 0, 0), 0)) (by decide +kernel)) hc_z
    replace hc_z := rn_getI (v := rg_v h 32 0) (am_cur_of (i := (31, 3, .getfield 286, (2, 0, 164), 0)) (by decide +kernel)) (by decide +kernel) rfl hc_z
    replace hc_z := rn_iconst (w := 1) (am_cur_of (i := (34, 1, .iconst 1, (0, 0, 0), 0)) (by decide +kernel)) (by decide) hc_z
    replace hc_z := rn_iadd (w := (rg_v h 32 0) + 1) (am_cur_of (i := (35, 1, .iadd, (0, 0, 0), 0)) (by decide +kernel)) rfl hc_z
    replace hc_z := rn_put (am_cur_of (i := (36, 3, .putfield 286, (2, 0, 164), 0)) (by decide +kernel)) (by decide +kernel) hc_z
    replace hc_z := rn_vret (am_cur_of (i := (39, 1, .return_, (0, 0, 0), 0)) (by decide +kernel)) hc_z
    obtain ⟨e392_z, e393_z⟩ := hc_z
    exact Or.inr ⟨by omega, e392_z, e393_z⟩
  · replace b391_z : (64 : Int32).toInt ≤ (rg_v h 32 0).toInt := b391_z
    replace hc_z := rn_aload_n (am_cur_of (i := (15, 1, .aload_n 0, (0, 0, 0), 0)) (by decide +kernel)) g0_z hc_z
    replace hc_z := rn_iconst (w := 2) (am_cur_of (i := (16, 1, .iconst 2, (0, 0, 0), 0)) (by decide +kernel)) (by decide) hc_z
    replace hc_z := rn_callV (M' := am_m29) (o := 44) (ar := [.int 2]) (rest := []) (L := lv_args 0 [.ref 44, .int 2]) (am_cur_of (i := (17, 3, .invokevirtual 108, (29, 769, 3), 0)) (by decide +kernel)) rfl rfl rfl rfl hc_z
    obtain ⟨r394_z, h395_z, q396_z, hc_z⟩ := hc_z
    obtain ⟨rfl, yq396_z⟩ := rp_fail hf_z q396_z
    subst yq396_z
    replace hc_z : rn _ _ _ _ [] _ _ _ := hc_z
    replace hc_z := rn_goto (am_cur_of (i := (20, 3, .goto 19, (18, 0, 0), 0)) (by decide +kernel)) hc_z
    replace hc_z := rn_vret (am_cur_of (i := (39, 1, .return_, (0, 0, 0), 0)) (by decide +kernel)) hc_z
    obtain ⟨e397_z, e398_z⟩ := hc_z
    exact Or.inl ⟨by omega, e397_z, e398_z⟩
theorem rs_hold {n : Nat} {h h' : am_H} {r : Option Value} {op np : Int32} (en : rg_v h 44 13 = np) (n7_z : np.toInt < 72) (hc_z : rn n am_m50 0 (lv_args 0 [.ref 44, .int op]) [] h r h') : r = none ∧ h' = am_up (am_up h 47 np.toNatClampNeg (.int op)) 44 13 (.int (np + 1)) := by
  have z72_z : (72 : Int32).toInt = 72 := by decide
  have g0_z : am_get (lv_args 0 [.ref 44, .int op]) 0 = some (.ref 44) := rfl
  have g1_z : am_get (lv_args 0 [.ref 44, .int op]) 1 = some (.int op) := rfl
  replace hc_z := rn_aload_n (am_cur_of (i := (0, 1, .aload_n 0, (0, 0, 0), 0)) (by decide +kernel)) g0_z hc_z
  replace hc_z := rn_getI (v := np) (am_cur_of (i := (1, 3, .getfield 251, (4, 13, 422), 0)) (by decide +kernel)) (by decide +kernel) en hc_z
  replace hc_z := rn_aload_n (am_cur_of (i := (4, 1, .aload_n 0, (0, 0, 0), 0)) (by decide +kernel)) g0_z hc_z
  replace hc_z := rn_getR (x := 47) (am_cur_of (i := (5, 3, .getfield 22, (4, 12, 421), 0)) (by decide +kernel)) (by decide +kernel) hc_z
  replace hc_z := rn_len (ty := .int) (N := 72) (w := 72) (am_cur_of (i := (8, 1, .arraylength, (0, 0, 0), 0)) (by decide +kernel)) (by decide +kernel) (by decide) hc_z
  replace hc_z := rn_cmp (am_cur_of (i := (9, 3, .if_icmp .ge 23, (18, 0, 0), 0)) (by decide +kernel)) hc_z
  rcases hc_z with ⟨b399_z, hc_z⟩ | ⟨b399_z, hc_z⟩
  · replace b399_z : (72 : Int32).toInt ≤ np.toInt := b399_z
    omega
  · replace b399_z : np.toInt < (72 : Int32).toInt := b399_z
    replace hc_z := rn_aload_n (am_cur_of (i := (12, 1, .aload_n 0, (0, 0, 0), 0)) (by decide +kernel)) g0_z hc_z
    replace hc_z := rn_getR (x := 47) (am_cur_of (i := (13, 3, .getfield 22, (4, 12, 421), 0)) (by decide +kernel)) (by decide +kernel) hc_z
    replace hc_z := rn_aload_n (am_cur_of (i := (16, 1, .aload_n 0, (0, 0, 0), 0)) (by decide +kernel)) g0_z hc_z
    replace hc_z := rn_getI (v := np) (am_cur_of (i := (17, 3, .getfield 251, (4, 13, 422), 0)) (by decide +kernel)) (by decide +kernel) en hc_z
    replace hc_z := rn_iload_n (am_cur_of (i := (20, 1, .iload_n 1, (0, 0, 0), 0)) (by decide +kernel)) g1_z hc_z
    replace hc_z := rn_iastore (N := 72) (q := np.toNatClampNeg) (am_cur_of (i := (21, 1, .iastore, (0, 0, 0), 0)) (by decide +kernel)) (by decide +kernel) rfl hc_z
    obtain ⟨p400_z, hc_z⟩ := hc_z
    replace hc_z := rn_aload_n (am_cur_of (i := (22, 1, .aload_n 0, (0, 0, 0), 0)) (by decide +kernel)) g0_z hc_z
    replace hc_z := rn_dup (am_cur_of (i := (23, 1, .dup, (0, 0, 0), 0)) (by decide +kernel)) hc_z
    replace hc_z := rn_getI (v := np) (am_cur_of (i := (24, 3, .getfield 251, (4, 13, 422), 0)) (by decide +kernel)) (by decide +kernel) (show rg_v (am_up h 47 np.toNatClampNeg (.int op)) 44 13 = np from en) hc_z
    replace hc_z := rn_iconst (w := 1) (am_cur_of (i := (27, 1, .iconst 1, (0, 0, 0), 0)) (by decide +kernel)) (by decide) hc_z
    replace hc_z := rn_iadd (w := np + 1) (am_cur_of (i := (28, 1, .iadd, (0, 0, 0), 0)) (by decide +kernel)) rfl hc_z
    replace hc_z := rn_put (am_cur_of (i := (29, 3, .putfield 251, (4, 13, 422), 0)) (by decide +kernel)) (by decide +kernel) hc_z
    replace hc_z := rn_vret (am_cur_of (i := (32, 1, .return_, (0, 0, 0), 0)) (by decide +kernel)) hc_z
    obtain ⟨e401_z, e402_z⟩ := hc_z
    exact ⟨e401_z, e402_z⟩
theorem rs_wf {n : Nat} {h h' : am_H} {r : Option Value} {k np : Int32} (en : rg_v h 164 41 = np) (hc_z : rn n am_m173 0 (lv_args 0 [.ref 164, .int k]) [] h r h') : r = none ∧ h' = am_up (am_up h 184 np.toNatClampNeg (.int k)) 164 41 (.int (np + 1)) := by
  have g0_z : am_get (lv_args 0 [.ref 164, .int k]) 0 = some (.ref 164) := rfl
  have g1_z : am_get (lv_args 0 [.ref 164, .int k]) 1 = some (.int k) := rfl
  replace hc_z := rn_aload_n (am_cur_of (i := (0, 1, .aload_n 0, (0, 0, 0), 0)) (by decide +kernel)) g0_z hc_z
  replace hc_z := rn_getR (x := 184) (am_cur_of (i := (1, 3, .getfield 72, (12, 39, 1423), 0)) (by decide +kernel)) (by decide +kernel) hc_z
  replace hc_z := rn_aload_n (am_cur_of (i := (4, 1, .aload_n 0, (0, 0, 0), 0)) (by decide +kernel)) g0_z hc_z
  replace hc_z := rn_getI (v := np) (am_cur_of (i := (5, 3, .getfield 280, (12, 41, 1425), 0)) (by decide +kernel)) (by decide +kernel) en hc_z
  replace hc_z := rn_iload_n (am_cur_of (i := (8, 1, .iload_n 1, (0, 0, 0), 0)) (by decide +kernel)) g1_z hc_z
  replace hc_z := rn_iastore (N := 96) (q := np.toNatClampNeg) (am_cur_of (i := (9, 1, .iastore, (0, 0, 0), 0)) (by decide +kernel)) (by decide +kernel) rfl hc_z
  obtain ⟨p403_z, hc_z⟩ := hc_z
  replace hc_z := rn_aload_n (am_cur_of (i := (10, 1, .aload_n 0, (0, 0, 0), 0)) (by decide +kernel)) g0_z hc_z
  replace hc_z := rn_dup (am_cur_of (i := (11, 1, .dup, (0, 0, 0), 0)) (by decide +kernel)) hc_z
  replace hc_z := rn_getI (v := np) (am_cur_of (i := (12, 3, .getfield 280, (12, 41, 1425), 0)) (by decide +kernel)) (by decide +kernel) (show rg_v (am_up h 184 np.toNatClampNeg (.int k)) 164 41 = np from en) hc_z
  replace hc_z := rn_iconst (w := 1) (am_cur_of (i := (15, 1, .iconst 1, (0, 0, 0), 0)) (by decide +kernel)) (by decide) hc_z
  replace hc_z := rn_iadd (w := np + 1) (am_cur_of (i := (16, 1, .iadd, (0, 0, 0), 0)) (by decide +kernel)) rfl hc_z
  replace hc_z := rn_put (am_cur_of (i := (17, 3, .putfield 280, (12, 41, 1425), 0)) (by decide +kernel)) (by decide +kernel) hc_z
  replace hc_z := rn_vret (am_cur_of (i := (20, 1, .return_, (0, 0, 0), 0)) (by decide +kernel)) hc_z
  obtain ⟨e404_z, e405_z⟩ := hc_z
  exact ⟨e404_z, e405_z⟩
theorem rs_ic {n : Nat} {h h' : am_H} {r : Option Value} (hc_z : rn n am_m175 0 (lv_args 0 [.ref 164]) [] h r h') : (rg_v h 164 44 = 64 ∧ r = some (.int 0) ∧ h' = rp_W 2 h) ∨ (¬ rg_v h 164 44 = 64 ∧ r = some (.int 1) ∧ h' = am_up h 164 44 (.int (rg_v h 164 44 + 1))) := by
  have z64_z : (64 : Int32).toInt = 64 := by decide
  have g0_z : am_get (lv_args 0 [.ref 164]) 0 = some (.ref 164) := rfl
  replace hc_z := rn_aload_n (am_cur_of (i := (0, 1, .aload_n 0, (0, 0, 0), 0)) (by decide +kernel)) g0_z hc_z
  replace hc_z := rn_getI (v := rg_v h 164 44) (am_cur_of (i := (1, 3, .getfield 216, (12, 44, 1428), 0)) (by decide +kernel)) (by decide +kernel) rfl hc_z
  replace hc_z := rn_bipush (w := 64) (am_cur_of (i := (4, 2, .bipush 64, (0, 0, 0), 0)) (by decide +kernel)) (by decide) hc_z
  replace hc_z := rn_cmp (am_cur_of (i := (6, 3, .if_icmp .ne 9, (8, 0, 0), 0)) (by decide +kernel)) hc_z
  rcases hc_z with ⟨b406_z, hc_z⟩ | ⟨b406_z, hc_z⟩
  · replace b406_z : ¬ (rg_v h 164 44) = (64 : Int32) ∧ ¬ (rg_v h 164 44).toInt = (64 : Int32).toInt := b406_z
    replace hc_z := rn_aload_n (am_cur_of (i := (15, 1, .aload_n 0, (0, 0, 0), 0)) (by decide +kernel)) g0_z hc_z
    replace hc_z := rn_dup (am_cur_of (i := (16, 1, .dup, (0, 0, 0), 0)) (by decide +kernel)) hc_z
    replace hc_z := rn_getI (v := rg_v h 164 44) (am_cur_of (i := (17, 3, .getfield 216, (12, 44, 1428), 0)) (by decide +kernel)) (by decide +kernel) rfl hc_z
    replace hc_z := rn_iconst (w := 1) (am_cur_of (i := (20, 1, .iconst 1, (0, 0, 0), 0)) (by decide +kernel)) (by decide) hc_z
    replace hc_z := rn_iadd (w := (rg_v h 164 44) + 1) (am_cur_of (i := (21, 1, .iadd, (0, 0, 0), 0)) (by decide +kernel)) rfl hc_z
    replace hc_z := rn_put (am_cur_of (i := (22, 3, .putfield 216, (12, 44, 1428), 0)) (by decide +kernel)) (by decide +kernel) hc_z
    replace hc_z := rn_iconst (w := 1) (am_cur_of (i := (25, 1, .iconst 1, (0, 0, 0), 0)) (by decide +kernel)) (by decide) hc_z
    replace hc_z := rn_iret (am_cur_of (i := (26, 1, .ireturn, (0, 0, 0), 0)) (by decide +kernel)) hc_z
    obtain ⟨e407_z, e408_z⟩ := hc_z
    exact Or.inr ⟨b406_z.1, e407_z, e408_z⟩
  · replace b406_z : (rg_v h 164 44) = (64 : Int32) ∧ (rg_v h 164 44).toInt = (64 : Int32).toInt := b406_z
    replace hc_z := rn_aload_n (am_cur_of (i := (9, 1, .aload_n 0, (0, 0, 0), 0)) (by decide +kernel)) g0_z hc_z
    replace hc_z := rn_iconst (w := 2) (am_cur_of (i := (10, 1, .iconst 2, (0, 0, 0), 0)) (by decide +kernel)) (by decide) hc_z
    replace hc_z := rn_callV (M' := am_m158) (o := 164) (ar := [.int 2]) (rest := []) (L := lv_args 0 [.ref 164, .int 2]) (am_cur_of (i := (11, 3, .invokevirtual 181, (158, 1665, 3), 0)) (by decide +kernel)) rfl rfl rfl rfl hc_z
    obtain ⟨r409_z, h410_z, q411_z, hc_z⟩ := hc_z
    obtain ⟨rfl, yq411_z⟩ := rp_wrong q411_z
    subst yq411_z
    replace hc_z : rn _ _ _ _ [.int 0] _ _ _ := hc_z
    replace hc_z := rn_iret (am_cur_of (i := (14, 1, .ireturn, (0, 0, 0), 0)) (by decide +kernel)) hc_z
    obtain ⟨e412_z, e413_z⟩ := hc_z
    exact Or.inl ⟨b406_z.1, e412_z, e413_z⟩
