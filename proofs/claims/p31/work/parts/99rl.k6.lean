/-! ===== THE NOTES ALIKE BETWEEN THE CALLS (wip/r/gen99rl.py) ===== -/
def ck_ok (md : List (Nat × Nat)) : Bool := !(ab_in md 142 0) && !(ab_in md 164 73)
theorem ck_of {h h2_z : am_H} (C : ck_z h h) (a : rg_v h2_z 142 0 = rg_v h 142 0) (b : rg_v h2_z 164 73 = rg_v h 164 73) : ck_z h2_z h2_z := by
  refine ⟨a.trans (C.1.trans b.symm), ?_, ?_⟩
  · rw [a]; exact C.2.1
  · rw [a]; exact C.2.2
theorem ck_k {md : List (Nat × Nat)} {h h' : am_H} (hb_z : ck_ok md = true) (hf_z : ab_Fr md h h') (F : ck_z h h) : ck_z h' h' := by
  unfold ck_ok at hb_z
  simp only [Bool.and_eq_true, Bool.not_eq_true'] at hb_z
  exact ck_of F (rg_v_fr hf_z hb_z.1) (rg_v_fr hf_z hb_z.2)
theorem ck_m {md : List (Nat × Nat)} {h1_z h2_z : am_H} (hb_z : ab_in md 142 0 = false) (hf_z : ab_Fr md h1_z h2_z) (C : ck_z h1_z h2_z) : ck_z h2_z h2_z := by
  have e := rg_v_fr hf_z hb_z
  refine ⟨e.trans C.1, ?_, ?_⟩
  · rw [e]; exact C.2.1
  · rw [e]; exact C.2.2
theorem ck_T {t : Int32} {h : am_H} (hG : ag_G t h) : (∀ q, q < 4 → (rg_v h (19 + q) 3).toInt ≤ 20) ∧ (∀ q, q < 4 → (rg_v h (40 + q) 3).toInt ≤ 20) := by
  have key : ∀ o, am_ks0[o]? = some (.inl 3) → ab_hi ab_tab o 3 = ab_i 0 20 → (rg_v h o 3).toInt ≤ 20 := by
    intro o hk_z ht
    have z := hG.1 o 3 _ hk_z (by decide)
    rw [ht] at z
    obtain ⟨x, e, x0_z, x1_z⟩ := z
    unfold rg_v
    rw [e]
    exact x1_z
  refine ⟨fun q hq_z => ?_, fun q hq_z => ?_⟩
  · match q, hq_z with
    | 0, _ => exact key 19 (by decide +kernel) (by decide +kernel)
    | 1, _ => exact key 20 (by decide +kernel) (by decide +kernel)
    | 2, _ => exact key 21 (by decide +kernel) (by decide +kernel)
    | 3, _ => exact key 22 (by decide +kernel) (by decide +kernel)
    | q + 4, hq_z => omega
  · match q, hq_z with
    | 0, _ => exact key 40 (by decide +kernel) (by decide +kernel)
    | 1, _ => exact key 41 (by decide +kernel) (by decide +kernel)
    | 2, _ => exact key 42 (by decide +kernel) (by decide +kernel)
    | 3, _ => exact key 43 (by decide +kernel) (by decide +kernel)
    | q + 4, hq_z => omega
theorem ke_e {n : Nat} {ls : am_L} {r : Option Value} {g g' : am_H} (g0_z : am_get ls 0 = some (.ref 164)) (hm_z : rn n am_m146 74 ls [] g r g') : rg_v g' 164 73 = 0 := by
  replace hm_z := rn_aload_n (am_cur_of (i := (124, 1, .aload_n 0, (0, 0, 0), 0)) (by decide +kernel)) g0_z hm_z
  replace hm_z := rn_iconst (w := 0) (am_cur_of (i := (125, 1, .iconst 0, (0, 0, 0), 0)) (by decide +kernel)) (by decide) hm_z
  replace hm_z := rn_put (am_cur_of (i := (126, 3, .putfield 368, (12, 73, 1457), 0)) (by decide +kernel)) (by decide +kernel) hm_z
  replace hm_z := rn_aload_n (am_cur_of (i := (129, 1, .aload_n 0, (0, 0, 0), 0)) (by decide +kernel)) g0_z hm_z
  replace hm_z := rn_iconst (w := (-1)) (am_cur_of (i := (130, 1, .iconst (-1), (0, 0, 0), 0)) (by decide +kernel)) (by decide) hm_z
  replace hm_z := rn_put (am_cur_of (i := (131, 3, .putfield 118, (12, 74, 1458), 0)) (by decide +kernel)) (by decide +kernel) hm_z
  replace hm_z := rn_aload_n (am_cur_of (i := (134, 1, .aload_n 0, (0, 0, 0), 0)) (by decide +kernel)) g0_z hm_z
  replace hm_z := rn_iconst (w := 0) (am_cur_of (i := (135, 1, .iconst 0, (0, 0, 0), 0)) (by decide +kernel)) (by decide) hm_z
  replace hm_z := rn_put (am_cur_of (i := (136, 3, .putfield 371, (12, 77, 1461), 0)) (by decide +kernel)) (by decide +kernel) hm_z
  replace hm_z := rn_aload_n (am_cur_of (i := (139, 1, .aload_n 0, (0, 0, 0), 0)) (by decide +kernel)) g0_z hm_z
  replace hm_z := rn_iconst (w := 0) (am_cur_of (i := (140, 1, .iconst 0, (0, 0, 0), 0)) (by decide +kernel)) (by decide) hm_z
  replace hm_z := rn_put (am_cur_of (i := (141, 3, .putfield 374, (12, 79, 1463), 0)) (by decide +kernel)) (by decide +kernel) hm_z
  replace hm_z := rn_vret (am_cur_of (i := (144, 1, .return_, (0, 0, 0), 0)) (by decide +kernel)) hm_z
  obtain ⟨e1_z, e2_z⟩ := hm_z
  rw [e2_z]
  exact (show rg_v (am_up (am_up (am_up (am_up g 164 73 (.int 0)) 164 74 (.int (-1))) 164 77 (.int 0)) 164 79 (.int 0)) 164 73 = 0 from rfl)
theorem ke_w {r : Option Value} {g' : am_H} : ∀ (f : Nat) (x : Int32) (ls : am_L) (g : am_H), am_get ls 0 = some (.ref 164) → am_get ls 2 = some (.int x) → rn f am_m146 52 ls [] g r g' → rg_v g' 164 73 = 0 := by
  intro f
  induction f with
  | zero => intro x ls g g0_z g2_z hm_z; exact absurd hm_z rn_0
  | succ f ih_z =>
    intro x ls g g0_z g2_z hm_z
    replace hm_z := rn_iload_n (am_cur_of (i := (86, 1, .iload_n 2, (0, 0, 0), 0)) (by decide +kernel)) g2_z hm_z
    replace hm_z := rn_aload_n (am_cur_of (i := (87, 1, .aload_n 0, (0, 0, 0), 0)) (by decide +kernel)) g0_z hm_z
    replace hm_z := rn_getR (x := 173) (am_cur_of (i := (88, 3, .getfield 39, (12, 28, 1412), 0)) (by decide +kernel)) (by decide +kernel) hm_z
    replace hm_z := rn_aload_n (am_cur_of (i := (91, 1, .aload_n 0, (0, 0, 0), 0)) (by decide +kernel)) g0_z hm_z
    replace hm_z := rn_getI (v := rg_v g 164 58) (am_cur_of (i := (92, 3, .getfield 362, (12, 58, 1442), 0)) (by decide +kernel)) (by decide +kernel) rfl hm_z
    replace hm_z := rn_iaload (N := 12) (q := (rg_v g 164 58).toNatClampNeg) (v := rg_v g 173 ((rg_v g 164 58).toNatClampNeg)) (am_cur_of (i := (95, 1, .iaload, (0, 0, 0), 0)) (by decide +kernel)) (by decide +kernel) rfl rfl hm_z
    obtain ⟨p3_z, hm_z⟩ := hm_z
    replace hm_z := rn_cmp (am_cur_of (i := (96, 3, .if_icmp .lt 28, (74, 0, 0), 0)) (by decide +kernel)) hm_z
    rcases hm_z with ⟨b4_z, hm_z⟩ | ⟨b4_z, hm_z⟩
    · replace b4_z : x.toInt < (rg_v g 173 ((rg_v g 164 58).toNatClampNeg)).toInt := b4_z
      exact ke_e g0_z hm_z
    · replace b4_z : (rg_v g 173 ((rg_v g 164 58).toNatClampNeg)).toInt ≤ x.toInt := b4_z
      replace hm_z := rn_iload_n (am_cur_of (i := (99, 1, .iload_n 2, (0, 0, 0), 0)) (by decide +kernel)) g2_z hm_z
      replace hm_z := rn_aload_n (am_cur_of (i := (100, 1, .aload_n 0, (0, 0, 0), 0)) (by decide +kernel)) g0_z hm_z
      replace hm_z := rn_getR (x := 173) (am_cur_of (i := (101, 3, .getfield 39, (12, 28, 1412), 0)) (by decide +kernel)) (by decide +kernel) hm_z
      replace hm_z := rn_aload_n (am_cur_of (i := (104, 1, .aload_n 0, (0, 0, 0), 0)) (by decide +kernel)) g0_z hm_z
      replace hm_z := rn_getI (v := rg_v g 164 58) (am_cur_of (i := (105, 3, .getfield 362, (12, 58, 1442), 0)) (by decide +kernel)) (by decide +kernel) rfl hm_z
      replace hm_z := rn_iaload (N := 12) (q := (rg_v g 164 58).toNatClampNeg) (v := rg_v g 173 ((rg_v g 164 58).toNatClampNeg)) (am_cur_of (i := (108, 1, .iaload, (0, 0, 0), 0)) (by decide +kernel)) (by decide +kernel) rfl rfl hm_z
      obtain ⟨p5_z, hm_z⟩ := hm_z
      replace hm_z := rn_isub (w := x - (rg_v g 173 ((rg_v g 164 58).toNatClampNeg))) (am_cur_of (i := (109, 1, .isub, (0, 0, 0), 0)) (by decide +kernel)) rfl hm_z
      replace hm_z := rn_istore_n (am_cur_of (i := (110, 1, .istore_n 2, (0, 0, 0), 0)) (by decide +kernel)) hm_z
      obtain ⟨_, s6_z, s7_z, g2_z, hm_z⟩ := hm_z
      replace g0_z := s6_z 0 _ (by decide) rfl g0_z
      clear s6_z s7_z
      replace hm_z := rn_aload_n (am_cur_of (i := (111, 1, .aload_n 0, (0, 0, 0), 0)) (by decide +kernel)) g0_z hm_z
      replace hm_z := rn_dup (am_cur_of (i := (112, 1, .dup, (0, 0, 0), 0)) (by decide +kernel)) hm_z
      replace hm_z := rn_getI (v := rg_v g 164 58) (am_cur_of (i := (113, 3, .getfield 362, (12, 58, 1442), 0)) (by decide +kernel)) (by decide +kernel) rfl hm_z
      replace hm_z := rn_iconst (w := 1) (am_cur_of (i := (116, 1, .iconst 1, (0, 0, 0), 0)) (by decide +kernel)) (by decide) hm_z
      replace hm_z := rn_iadd (w := (rg_v g 164 58) + 1) (am_cur_of (i := (117, 1, .iadd, (0, 0, 0), 0)) (by decide +kernel)) rfl hm_z
      replace hm_z := rn_put (am_cur_of (i := (118, 3, .putfield 362, (12, 58, 1442), 0)) (by decide +kernel)) (by decide +kernel) hm_z
      replace hm_z := rn_gotoL (am_cur_of (i := (121, 3, .goto (-35), (52, 0, 0), 0)) (by decide +kernel)) hm_z
      exact ih_z _ _ _ g0_z g2_z hm_z
theorem ke_s {r : Option Value} {g' : am_H} : ∀ (f : Nat) (s i : Int32) (ls : am_L) (g : am_H), am_get ls 0 = some (.ref 164) → am_get ls 1 = some (.int s) → am_get ls 2 = some (.int i) → rn f am_m146 32 ls [] g r g' → rg_v g' 164 73 = 0 := by
  intro f
  induction f with
  | zero => intro s i ls g g0_z g1_z g2_z hm_z; exact absurd hm_z rn_0
  | succ f ih_z =>
    intro s i ls g g0_z g1_z g2_z hm_z
    replace hm_z := rn_iload_n (am_cur_of (i := (52, 1, .iload_n 2, (0, 0, 0), 0)) (by decide +kernel)) g2_z hm_z
    replace hm_z := rn_aload_n (am_cur_of (i := (53, 1, .aload_n 0, (0, 0, 0), 0)) (by decide +kernel)) g0_z hm_z
    replace hm_z := rn_getI (v := rg_v g 164 14) (am_cur_of (i := (54, 3, .getfield 225, (12, 14, 1398), 0)) (by decide +kernel)) (by decide +kernel) rfl hm_z
    replace hm_z := rn_cmp (am_cur_of (i := (57, 3, .if_icmp .ge 18, (45, 0, 0), 0)) (by decide +kernel)) hm_z
    rcases hm_z with ⟨b8_z, hm_z⟩ | ⟨b8_z, hm_z⟩
    · replace b8_z : (rg_v g 164 14).toInt ≤ i.toInt := b8_z
      replace hm_z := rn_aload_n (am_cur_of (i := (75, 1, .aload_n 0, (0, 0, 0), 0)) (by decide +kernel)) g0_z hm_z
      replace hm_z := rn_iload_n (am_cur_of (i := (76, 1, .iload_n 1, (0, 0, 0), 0)) (by decide +kernel)) g1_z hm_z
      replace hm_z := rn_callV (M' := am_m148) (o := 164) (ar := [.int s]) (rest := []) (L := lv_args 0 [.ref 164, .int s]) (am_cur_of (i := (77, 3, .invokevirtual 365, (148, 1376, 3), 0)) (by decide +kernel)) rfl rfl rfl rfl hm_z
      obtain ⟨r9_z, h10_z, q11_z, hm_z⟩ := hm_z
      obtain ⟨vn, rfl⟩ := rn_ret (M := am_m148) rfl (by decide) q11_z
      replace hm_z : rn _ _ _ _ [.int vn] _ _ _ := hm_z
      replace hm_z := rn_istore_n (am_cur_of (i := (80, 1, .istore_n 2, (0, 0, 0), 0)) (by decide +kernel)) hm_z
      obtain ⟨_, s12_z, s13_z, g2_z, hm_z⟩ := hm_z
      replace g0_z := s12_z 0 _ (by decide) rfl g0_z
      replace g1_z := s12_z 1 _ (by decide) rfl g1_z
      clear s12_z s13_z
      replace hm_z := rn_aload_n (am_cur_of (i := (81, 1, .aload_n 0, (0, 0, 0), 0)) (by decide +kernel)) g0_z hm_z
      replace hm_z := rn_iconst (w := 0) (am_cur_of (i := (82, 1, .iconst 0, (0, 0, 0), 0)) (by decide +kernel)) (by decide) hm_z
      replace hm_z := rn_put (am_cur_of (i := (83, 3, .putfield 362, (12, 58, 1442), 0)) (by decide +kernel)) (by decide +kernel) hm_z
      exact ke_w _ _ _ _ g0_z g2_z hm_z
    · replace b8_z : i.toInt < (rg_v g 164 14).toInt := b8_z
      replace hm_z := rn_iload_n (am_cur_of (i := (60, 1, .iload_n 1, (0, 0, 0), 0)) (by decide +kernel)) g1_z hm_z
      replace hm_z := rn_aload_n (am_cur_of (i := (61, 1, .aload_n 0, (0, 0, 0), 0)) (by decide +kernel)) g0_z hm_z
      replace hm_z := rn_getR (x := 173) (am_cur_of (i := (62, 3, .getfield 39, (12, 28, 1412), 0)) (by decide +kernel)) (by decide +kernel) hm_z
      replace hm_z := rn_iload_n (am_cur_of (i := (65, 1, .iload_n 2, (0, 0, 0), 0)) (by decide +kernel)) g2_z hm_z
      replace hm_z := rn_iaload (N := 12) (q := i.toNatClampNeg) (v := rg_v g 173 i.toNatClampNeg) (am_cur_of (i := (66, 1, .iaload, (0, 0, 0), 0)) (by decide +kernel)) (by decide +kernel) rfl rfl hm_z
      obtain ⟨p14_z, hm_z⟩ := hm_z
      replace hm_z := rn_iadd (w := s + (rg_v g 173 i.toNatClampNeg)) (am_cur_of (i := (67, 1, .iadd, (0, 0, 0), 0)) (by decide +kernel)) rfl hm_z
      replace hm_z := rn_istore_n (am_cur_of (i := (68, 1, .istore_n 1, (0, 0, 0), 0)) (by decide +kernel)) hm_z
      obtain ⟨_, s15_z, s16_z, g1_z, hm_z⟩ := hm_z
      replace g0_z := s15_z 0 _ (by decide) rfl g0_z
      replace g2_z := s15_z 2 _ (by decide) rfl g2_z
      clear s15_z s16_z
      replace hm_z := rn_iinc (w := i + 1) (am_cur_of (i := (69, 3, .iinc 2 1, (0, 0, 0), 0)) (by decide +kernel)) g2_z rfl hm_z
      obtain ⟨_, s17_z, s18_z, g2_z, hm_z⟩ := hm_z
      replace g0_z := s17_z 0 _ (by decide) rfl g0_z
      replace g1_z := s17_z 1 _ (by decide) rfl g1_z
      clear s17_z s18_z
      replace hm_z := rn_gotoL (am_cur_of (i := (72, 3, .goto (-20), (32, 0, 0), 0)) (by decide +kernel)) hm_z
      exact ih_z _ _ _ _ g0_z g1_z g2_z hm_z
theorem ke_b {n : Nat} {r : Option Value} {g g' : am_H} (hm_z : rn n am_m146 0 (lv_args 0 [.ref 164]) [] g r g') : rg_v g' 164 73 = 0 := by
  have z0_z : (0 : Int32).toInt = 0 := by decide
  have g0_z : am_get (lv_args 0 [.ref 164]) 0 = some (.ref 164) := rfl
  replace hm_z := rn_aload_n (am_cur_of (i := (0, 1, .aload_n 0, (0, 0, 0), 0)) (by decide +kernel)) g0_z hm_z
  replace hm_z := rn_iconst (w := 0) (am_cur_of (i := (1, 1, .iconst 0, (0, 0, 0), 0)) (by decide +kernel)) (by decide) hm_z
  replace hm_z := rn_callV (M' := am_m147) (o := 164) (ar := [.int 0]) (rest := []) (L := lv_args 0 [.ref 164, .int 0]) (am_cur_of (i := (2, 3, .invokevirtual 346, (147, 1372, 3), 0)) (by decide +kernel)) rfl rfl rfl rfl hm_z
  obtain ⟨r19_z, h20_z, q21_z, hm_z⟩ := hm_z
  have vo := rn_void rfl q21_z
  subst vo
  replace hm_z : rn _ _ _ _ [] _ _ _ := hm_z
  replace hm_z := rn_aload_n (am_cur_of (i := (5, 1, .aload_n 0, (0, 0, 0), 0)) (by decide +kernel)) g0_z hm_z
  replace hm_z := rn_iconst (w := 0) (am_cur_of (i := (6, 1, .iconst 0, (0, 0, 0), 0)) (by decide +kernel)) (by decide) hm_z
  replace hm_z := rn_put (am_cur_of (i := (7, 3, .putfield 349, (12, 57, 1441), 0)) (by decide +kernel)) (by decide +kernel) hm_z
  replace hm_z := rn_aload_n (am_cur_of (i := (10, 1, .aload_n 0, (0, 0, 0), 0)) (by decide +kernel)) g0_z hm_z
  replace hm_z := rn_iconst (w := 0) (am_cur_of (i := (11, 1, .iconst 0, (0, 0, 0), 0)) (by decide +kernel)) (by decide) hm_z
  replace hm_z := rn_put (am_cur_of (i := (12, 3, .putfield 352, (12, 60, 1444), 0)) (by decide +kernel)) (by decide +kernel) hm_z
  replace hm_z := rn_aload_n (am_cur_of (i := (15, 1, .aload_n 0, (0, 0, 0), 0)) (by decide +kernel)) g0_z hm_z
  replace hm_z := rn_iconst (w := 0) (am_cur_of (i := (16, 1, .iconst 0, (0, 0, 0), 0)) (by decide +kernel)) (by decide) hm_z
  replace hm_z := rn_put (am_cur_of (i := (17, 3, .putfield 355, (12, 61, 1445), 0)) (by decide +kernel)) (by decide +kernel) hm_z
  replace hm_z := rn_aload_n (am_cur_of (i := (20, 1, .aload_n 0, (0, 0, 0), 0)) (by decide +kernel)) g0_z hm_z
  replace hm_z := rn_iconst (w := (-1)) (am_cur_of (i := (21, 1, .iconst (-1), (0, 0, 0), 0)) (by decide +kernel)) (by decide) hm_z
  replace hm_z := rn_put (am_cur_of (i := (22, 3, .putfield 106, (12, 62, 1446), 0)) (by decide +kernel)) (by decide +kernel) hm_z
  replace hm_z := rn_aload_n (am_cur_of (i := (25, 1, .aload_n 0, (0, 0, 0), 0)) (by decide +kernel)) g0_z hm_z
  replace hm_z := rn_aload_n (am_cur_of (i := (26, 1, .aload_n 0, (0, 0, 0), 0)) (by decide +kernel)) g0_z hm_z
  replace hm_z := rn_getR (x := 168) (am_cur_of (i := (27, 3, .getfield 24, (12, 23, 1407), 0)) (by decide +kernel)) (by decide +kernel) hm_z
  replace hm_z := rn_iconst (w := 5) (am_cur_of (i := (30, 1, .iconst 5, (0, 0, 0), 0)) (by decide +kernel)) (by decide) hm_z
  replace hm_z := rn_iaload (N := 12) (q := 5) (v := rg_v h20_z 168 5) (am_cur_of (i := (31, 1, .iaload, (0, 0, 0), 0)) (by decide +kernel)) (by decide +kernel) rfl (show rg_v (am_up (am_up (am_up (am_up h20_z 164 57 (.int 0)) 164 60 (.int 0)) 164 61 (.int 0)) 164 62 (.int (-1))) 168 5 = rg_v h20_z 168 5 from rfl) hm_z
  obtain ⟨p22_z, hm_z⟩ := hm_z
  replace hm_z := rn_i2l (w := (rg_v h20_z 168 5).toInt64) (am_cur_of (i := (32, 1, .i2l, (0, 0, 0), 0)) (by decide +kernel)) rfl hm_z
  replace hm_z := rn_put (am_cur_of (i := (33, 3, .putfield 358, (12, 59, 1443), 0)) (by decide +kernel)) (by decide +kernel) hm_z
  replace hm_z := rn_aload_n (am_cur_of (i := (36, 1, .aload_n 0, (0, 0, 0), 0)) (by decide +kernel)) g0_z hm_z
  replace hm_z := rn_iconst (w := (-1)) (am_cur_of (i := (37, 1, .iconst (-1), (0, 0, 0), 0)) (by decide +kernel)) (by decide) hm_z
  replace hm_z := rn_put (am_cur_of (i := (38, 3, .putfield 362, (12, 58, 1442), 0)) (by decide +kernel)) (by decide +kernel) hm_z
  replace hm_z := rn_aload_n (am_cur_of (i := (41, 1, .aload_n 0, (0, 0, 0), 0)) (by decide +kernel)) g0_z hm_z
  replace hm_z := rn_getI (v := rg_v h20_z 164 14) (am_cur_of (i := (42, 3, .getfield 225, (12, 14, 1398), 0)) (by decide +kernel)) (by decide +kernel) (show rg_v (am_up (am_up (am_up (am_up (am_up (am_up h20_z 164 57 (.int 0)) 164 60 (.int 0)) 164 61 (.int 0)) 164 62 (.int (-1))) 164 59 (.long ((rg_v h20_z 168 5).toInt64))) 164 58 (.int (-1))) 164 14 = rg_v h20_z 164 14 from rfl) hm_z
  replace hm_z := rn_if (am_cur_of (i := (45, 3, .ifCond .le 79, (74, 0, 0), 0)) (by decide +kernel)) hm_z
  rcases hm_z with ⟨b23_z, hm_z⟩ | ⟨b23_z, hm_z⟩
  · replace b23_z : (rg_v h20_z 164 14).toInt ≤ (0 : Int32).toInt := b23_z
    exact ke_e g0_z hm_z
  · replace b23_z : (0 : Int32).toInt < (rg_v h20_z 164 14).toInt := b23_z
    replace hm_z := rn_iconst (w := 0) (am_cur_of (i := (48, 1, .iconst 0, (0, 0, 0), 0)) (by decide +kernel)) (by decide) hm_z
    replace hm_z := rn_istore_n (am_cur_of (i := (49, 1, .istore_n 1, (0, 0, 0), 0)) (by decide +kernel)) hm_z
    obtain ⟨_, s24_z, s25_z, g1_z, hm_z⟩ := hm_z
    replace g0_z := s24_z 0 _ (by decide) rfl g0_z
    clear s24_z s25_z
    replace hm_z := rn_iconst (w := 0) (am_cur_of (i := (50, 1, .iconst 0, (0, 0, 0), 0)) (by decide +kernel)) (by decide) hm_z
    replace hm_z := rn_istore_n (am_cur_of (i := (51, 1, .istore_n 2, (0, 0, 0), 0)) (by decide +kernel)) hm_z
    obtain ⟨_, s26_z, s27_z, g2_z, hm_z⟩ := hm_z
    replace g0_z := s26_z 0 _ (by decide) rfl g0_z
    replace g1_z := s26_z 1 _ (by decide) rfl g1_z
    clear s26_z s27_z
    exact ke_s _ _ _ _ _ g0_z g1_z g2_z hm_z
theorem ke_144 {n : Nat} {r : Option Value} {g g' : am_H} (hm_z : rn n am_m144 0 (lv_args 0 [.ref 164]) [] g r g') : rg_v g' 164 73 = 0 := by
  have g0_z : am_get (lv_args 0 [.ref 164]) 0 = some (.ref 164) := rfl
  replace hm_z := rn_aload_n (am_cur_of (i := (0, 1, .aload_n 0, (0, 0, 0), 0)) (by decide +kernel)) g0_z hm_z
  replace hm_z := rn_aload_n (am_cur_of (i := (1, 1, .aload_n 0, (0, 0, 0), 0)) (by decide +kernel)) g0_z hm_z
  replace hm_z := rn_getI (v := rg_v g 164 17) (am_cur_of (i := (2, 3, .getfield 201, (12, 17, 1401), 0)) (by decide +kernel)) (by decide +kernel) rfl hm_z
  replace hm_z := rn_put (am_cur_of (i := (5, 3, .putfield 219, (12, 12, 1396), 0)) (by decide +kernel)) (by decide +kernel) hm_z
  replace hm_z := rn_aload_n (am_cur_of (i := (8, 1, .aload_n 0, (0, 0, 0), 0)) (by decide +kernel)) g0_z hm_z
  replace hm_z := rn_aload_n (am_cur_of (i := (9, 1, .aload_n 0, (0, 0, 0), 0)) (by decide +kernel)) g0_z hm_z
  replace hm_z := rn_getI (v := rg_v g 164 18) (am_cur_of (i := (10, 3, .getfield 204, (12, 18, 1402), 0)) (by decide +kernel)) (by decide +kernel) (show rg_v (am_up g 164 12 (.int (rg_v g 164 17))) 164 18 = rg_v g 164 18 from rfl) hm_z
  replace hm_z := rn_put (am_cur_of (i := (13, 3, .putfield 222, (12, 13, 1397), 0)) (by decide +kernel)) (by decide +kernel) hm_z
  replace hm_z := rn_aload_n (am_cur_of (i := (16, 1, .aload_n 0, (0, 0, 0), 0)) (by decide +kernel)) g0_z hm_z
  replace hm_z := rn_aload_n (am_cur_of (i := (17, 1, .aload_n 0, (0, 0, 0), 0)) (by decide +kernel)) g0_z hm_z
  replace hm_z := rn_getI (v := rg_v g 164 19) (am_cur_of (i := (18, 3, .getfield 207, (12, 19, 1403), 0)) (by decide +kernel)) (by decide +kernel) (show rg_v (am_up (am_up g 164 12 (.int (rg_v g 164 17))) 164 13 (.int (rg_v g 164 18))) 164 19 = rg_v g 164 19 from rfl) hm_z
  replace hm_z := rn_put (am_cur_of (i := (21, 3, .putfield 225, (12, 14, 1398), 0)) (by decide +kernel)) (by decide +kernel) hm_z
  replace hm_z := rn_aload_n (am_cur_of (i := (24, 1, .aload_n 0, (0, 0, 0), 0)) (by decide +kernel)) g0_z hm_z
  replace hm_z := rn_aload_n (am_cur_of (i := (25, 1, .aload_n 0, (0, 0, 0), 0)) (by decide +kernel)) g0_z hm_z
  replace hm_z := rn_getI (v := rg_v g 164 20) (am_cur_of (i := (26, 3, .getfield 210, (12, 20, 1404), 0)) (by decide +kernel)) (by decide +kernel) (show rg_v (am_up (am_up (am_up g 164 12 (.int (rg_v g 164 17))) 164 13 (.int (rg_v g 164 18))) 164 14 (.int (rg_v g 164 19))) 164 20 = rg_v g 164 20 from rfl) hm_z
  replace hm_z := rn_put (am_cur_of (i := (29, 3, .putfield 228, (12, 15, 1399), 0)) (by decide +kernel)) (by decide +kernel) hm_z
  replace hm_z := rn_aload_n (am_cur_of (i := (32, 1, .aload_n 0, (0, 0, 0), 0)) (by decide +kernel)) g0_z hm_z
  replace hm_z := rn_aload_n (am_cur_of (i := (33, 1, .aload_n 0, (0, 0, 0), 0)) (by decide +kernel)) g0_z hm_z
  replace hm_z := rn_getI (v := rg_v g 164 21) (am_cur_of (i := (34, 3, .getfield 213, (12, 21, 1405), 0)) (by decide +kernel)) (by decide +kernel) (show rg_v (am_up (am_up (am_up (am_up g 164 12 (.int (rg_v g 164 17))) 164 13 (.int (rg_v g 164 18))) 164 14 (.int (rg_v g 164 19))) 164 15 (.int (rg_v g 164 20))) 164 21 = rg_v g 164 21 from rfl) hm_z
  replace hm_z := rn_put (am_cur_of (i := (37, 3, .putfield 231, (12, 16, 1400), 0)) (by decide +kernel)) (by decide +kernel) hm_z
  replace hm_z := rn_aload_n (am_cur_of (i := (40, 1, .aload_n 0, (0, 0, 0), 0)) (by decide +kernel)) g0_z hm_z
  replace hm_z := rn_getR (x := 168) (am_cur_of (i := (41, 3, .getfield 24, (12, 23, 1407), 0)) (by decide +kernel)) (by decide +kernel) hm_z
  replace hm_z := rn_bipush (w := 6) (am_cur_of (i := (44, 2, .bipush 6, (0, 0, 0), 0)) (by decide +kernel)) (by decide) hm_z
  replace hm_z := rn_callS (M' := am_m145) (ar := [.int 6, .ref 168]) (rest := []) (L := lv_args 0 [.ref 168, .int 6]) (am_cur_of (i := (46, 3, .invokestatic 234, (145, 1365, 3), 0)) (by decide +kernel)) rfl rfl rfl rfl hm_z
  obtain ⟨r28_z, h29_z, q30_z, hm_z⟩ := hm_z
  have vo := rn_void rfl q30_z
  subst vo
  replace hm_z : rn _ _ _ _ [] _ _ _ := hm_z
  replace hm_z := rn_aload_n (am_cur_of (i := (49, 1, .aload_n 0, (0, 0, 0), 0)) (by decide +kernel)) g0_z hm_z
  replace hm_z := rn_getR (x := 169) (am_cur_of (i := (50, 3, .getfield 27, (12, 24, 1408), 0)) (by decide +kernel)) (by decide +kernel) hm_z
  replace hm_z := rn_iconst (w := 4) (am_cur_of (i := (53, 1, .iconst 4, (0, 0, 0), 0)) (by decide +kernel)) (by decide) hm_z
  replace hm_z := rn_callS (M' := am_m145) (ar := [.int 4, .ref 169]) (rest := []) (L := lv_args 0 [.ref 169, .int 4]) (am_cur_of (i := (54, 3, .invokestatic 234, (145, 1365, 3), 0)) (by decide +kernel)) rfl rfl rfl rfl hm_z
  obtain ⟨r31_z, h32_z, q33_z, hm_z⟩ := hm_z
  have vo := rn_void rfl q33_z
  subst vo
  replace hm_z : rn _ _ _ _ [] _ _ _ := hm_z
  replace hm_z := rn_aload_n (am_cur_of (i := (57, 1, .aload_n 0, (0, 0, 0), 0)) (by decide +kernel)) g0_z hm_z
  replace hm_z := rn_getR (x := 170) (am_cur_of (i := (58, 3, .getfield 30, (12, 25, 1409), 0)) (by decide +kernel)) (by decide +kernel) hm_z
  replace hm_z := rn_bipush (w := 28) (am_cur_of (i := (61, 2, .bipush 28, (0, 0, 0), 0)) (by decide +kernel)) (by decide) hm_z
  replace hm_z := rn_callS (M' := am_m145) (ar := [.int 28, .ref 170]) (rest := []) (L := lv_args 0 [.ref 170, .int 28]) (am_cur_of (i := (63, 3, .invokestatic 234, (145, 1365, 3), 0)) (by decide +kernel)) rfl rfl rfl rfl hm_z
  obtain ⟨r34_z, h35_z, q36_z, hm_z⟩ := hm_z
  have vo := rn_void rfl q36_z
  subst vo
  replace hm_z : rn _ _ _ _ [] _ _ _ := hm_z
  replace hm_z := rn_aload_n (am_cur_of (i := (66, 1, .aload_n 0, (0, 0, 0), 0)) (by decide +kernel)) g0_z hm_z
  replace hm_z := rn_getR (x := 171) (am_cur_of (i := (67, 3, .getfield 33, (12, 26, 1410), 0)) (by decide +kernel)) (by decide +kernel) hm_z
  replace hm_z := rn_bipush (w := 8) (am_cur_of (i := (70, 2, .bipush 8, (0, 0, 0), 0)) (by decide +kernel)) (by decide) hm_z
  replace hm_z := rn_callS (M' := am_m145) (ar := [.int 8, .ref 171]) (rest := []) (L := lv_args 0 [.ref 171, .int 8]) (am_cur_of (i := (72, 3, .invokestatic 234, (145, 1365, 3), 0)) (by decide +kernel)) rfl rfl rfl rfl hm_z
  obtain ⟨r37_z, h38_z, q39_z, hm_z⟩ := hm_z
  have vo := rn_void rfl q39_z
  subst vo
  replace hm_z : rn _ _ _ _ [] _ _ _ := hm_z
  replace hm_z := rn_aload_n (am_cur_of (i := (75, 1, .aload_n 0, (0, 0, 0), 0)) (by decide +kernel)) g0_z hm_z
  replace hm_z := rn_getR (x := 172) (am_cur_of (i := (76, 3, .getfield 36, (12, 27, 1411), 0)) (by decide +kernel)) (by decide +kernel) hm_z
  replace hm_z := rn_bipush (w := 8) (am_cur_of (i := (79, 2, .bipush 8, (0, 0, 0), 0)) (by decide +kernel)) (by decide) hm_z
  replace hm_z := rn_callS (M' := am_m145) (ar := [.int 8, .ref 172]) (rest := []) (L := lv_args 0 [.ref 172, .int 8]) (am_cur_of (i := (81, 3, .invokestatic 234, (145, 1365, 3), 0)) (by decide +kernel)) rfl rfl rfl rfl hm_z
  obtain ⟨r40_z, h41_z, q42_z, hm_z⟩ := hm_z
  have vo := rn_void rfl q42_z
  subst vo
  replace hm_z : rn _ _ _ _ [] _ _ _ := hm_z
  replace hm_z := rn_aload_n (am_cur_of (i := (84, 1, .aload_n 0, (0, 0, 0), 0)) (by decide +kernel)) g0_z hm_z
  replace hm_z := rn_getR (x := 173) (am_cur_of (i := (85, 3, .getfield 39, (12, 28, 1412), 0)) (by decide +kernel)) (by decide +kernel) hm_z
  replace hm_z := rn_bipush (w := 6) (am_cur_of (i := (88, 2, .bipush 6, (0, 0, 0), 0)) (by decide +kernel)) (by decide) hm_z
  replace hm_z := rn_callS (M' := am_m145) (ar := [.int 6, .ref 173]) (rest := []) (L := lv_args 0 [.ref 173, .int 6]) (am_cur_of (i := (90, 3, .invokestatic 234, (145, 1365, 3), 0)) (by decide +kernel)) rfl rfl rfl rfl hm_z
  obtain ⟨r43_z, h44_z, q45_z, hm_z⟩ := hm_z
  have vo := rn_void rfl q45_z
  subst vo
  replace hm_z : rn _ _ _ _ [] _ _ _ := hm_z
  replace hm_z := rn_aload_n (am_cur_of (i := (93, 1, .aload_n 0, (0, 0, 0), 0)) (by decide +kernel)) g0_z hm_z
  replace hm_z := rn_getR (x := 174) (am_cur_of (i := (94, 3, .getfield 42, (12, 29, 1413), 0)) (by decide +kernel)) (by decide +kernel) hm_z
  replace hm_z := rn_bipush (w := 6) (am_cur_of (i := (97, 2, .bipush 6, (0, 0, 0), 0)) (by decide +kernel)) (by decide) hm_z
  replace hm_z := rn_callS (M' := am_m145) (ar := [.int 6, .ref 174]) (rest := []) (L := lv_args 0 [.ref 174, .int 6]) (am_cur_of (i := (99, 3, .invokestatic 234, (145, 1365, 3), 0)) (by decide +kernel)) rfl rfl rfl rfl hm_z
  obtain ⟨r46_z, h47_z, q48_z, hm_z⟩ := hm_z
  have vo := rn_void rfl q48_z
  subst vo
  replace hm_z : rn _ _ _ _ [] _ _ _ := hm_z
  replace hm_z := rn_aload_n (am_cur_of (i := (102, 1, .aload_n 0, (0, 0, 0), 0)) (by decide +kernel)) g0_z hm_z
  replace hm_z := rn_getR (x := 175) (am_cur_of (i := (103, 3, .getfield 45, (12, 30, 1414), 0)) (by decide +kernel)) (by decide +kernel) hm_z
  replace hm_z := rn_iconst (w := 3) (am_cur_of (i := (106, 1, .iconst 3, (0, 0, 0), 0)) (by decide +kernel)) (by decide) hm_z
  replace hm_z := rn_callS (M' := am_m145) (ar := [.int 3, .ref 175]) (rest := []) (L := lv_args 0 [.ref 175, .int 3]) (am_cur_of (i := (107, 3, .invokestatic 234, (145, 1365, 3), 0)) (by decide +kernel)) rfl rfl rfl rfl hm_z
  obtain ⟨r49_z, h50_z, q51_z, hm_z⟩ := hm_z
  have vo := rn_void rfl q51_z
  subst vo
  replace hm_z : rn _ _ _ _ [] _ _ _ := hm_z
  replace hm_z := rn_aload_n (am_cur_of (i := (110, 1, .aload_n 0, (0, 0, 0), 0)) (by decide +kernel)) g0_z hm_z
  replace hm_z := rn_getR (x := 176) (am_cur_of (i := (111, 3, .getfield 48, (12, 31, 1415), 0)) (by decide +kernel)) (by decide +kernel) hm_z
  replace hm_z := rn_iconst (w := 3) (am_cur_of (i := (114, 1, .iconst 3, (0, 0, 0), 0)) (by decide +kernel)) (by decide) hm_z
  replace hm_z := rn_callS (M' := am_m145) (ar := [.int 3, .ref 176]) (rest := []) (L := lv_args 0 [.ref 176, .int 3]) (am_cur_of (i := (115, 3, .invokestatic 234, (145, 1365, 3), 0)) (by decide +kernel)) rfl rfl rfl rfl hm_z
  obtain ⟨r52_z, h53_z, q54_z, hm_z⟩ := hm_z
  have vo := rn_void rfl q54_z
  subst vo
  replace hm_z : rn _ _ _ _ [] _ _ _ := hm_z
  replace hm_z := rn_aload_n (am_cur_of (i := (118, 1, .aload_n 0, (0, 0, 0), 0)) (by decide +kernel)) g0_z hm_z
  replace hm_z := rn_getR (x := 177) (am_cur_of (i := (119, 3, .getfield 51, (12, 32, 1416), 0)) (by decide +kernel)) (by decide +kernel) hm_z
  replace hm_z := rn_iconst (w := 3) (am_cur_of (i := (122, 1, .iconst 3, (0, 0, 0), 0)) (by decide +kernel)) (by decide) hm_z
  replace hm_z := rn_callS (M' := am_m145) (ar := [.int 3, .ref 177]) (rest := []) (L := lv_args 0 [.ref 177, .int 3]) (am_cur_of (i := (123, 3, .invokestatic 234, (145, 1365, 3), 0)) (by decide +kernel)) rfl rfl rfl rfl hm_z
  obtain ⟨r55_z, h56_z, q57_z, hm_z⟩ := hm_z
  have vo := rn_void rfl q57_z
  subst vo
  replace hm_z : rn _ _ _ _ [] _ _ _ := hm_z
  replace hm_z := rn_iconst (w := 0) (am_cur_of (i := (126, 1, .iconst 0, (0, 0, 0), 0)) (by decide +kernel)) (by decide) hm_z
  replace hm_z := rn_istore_n (am_cur_of (i := (127, 1, .istore_n 1, (0, 0, 0), 0)) (by decide +kernel)) hm_z
  obtain ⟨_, s58_z, s59_z, g1_z, hm_z⟩ := hm_z
  replace g0_z := s58_z 0 _ (by decide) rfl g0_z
  clear s58_z s59_z
  replace hm_z := rn_iload_n (am_cur_of (i := (128, 1, .iload_n 1, (0, 0, 0), 0)) (by decide +kernel)) g1_z hm_z
  replace hm_z := rn_iconst (w := 3) (am_cur_of (i := (129, 1, .iconst 3, (0, 0, 0), 0)) (by decide +kernel)) (by decide) hm_z
  replace hm_z := rn_cmpF (am_cur_of (i := (130, 3, .if_icmp .ge 23, (77, 0, 0), 0)) (by decide +kernel)) (by decide) hm_z
  replace hm_z := rn_aload_n (am_cur_of (i := (133, 1, .aload_n 0, (0, 0, 0), 0)) (by decide +kernel)) g0_z hm_z
  replace hm_z := rn_getR (x := 178) (am_cur_of (i := (134, 3, .getfield 54, (12, 33, 1417), 0)) (by decide +kernel)) (by decide +kernel) hm_z
  replace hm_z := rn_iload_n (am_cur_of (i := (137, 1, .iload_n 1, (0, 0, 0), 0)) (by decide +kernel)) g1_z hm_z
  replace hm_z := rn_aload_n (am_cur_of (i := (138, 1, .aload_n 0, (0, 0, 0), 0)) (by decide +kernel)) g0_z hm_z
  replace hm_z := rn_getR (x := 178) (am_cur_of (i := (139, 3, .getfield 54, (12, 33, 1417), 0)) (by decide +kernel)) (by decide +kernel) hm_z
  replace hm_z := rn_iconst (w := 3) (am_cur_of (i := (142, 1, .iconst 3, (0, 0, 0), 0)) (by decide +kernel)) (by decide) hm_z
  replace hm_z := rn_iload_n (am_cur_of (i := (143, 1, .iload_n 1, (0, 0, 0), 0)) (by decide +kernel)) g1_z hm_z
  replace hm_z := rn_iadd (w := 3) (am_cur_of (i := (144, 1, .iadd, (0, 0, 0), 0)) (by decide +kernel)) (by decide) hm_z
  replace hm_z := rn_baload (N := 6) (q := 3) (v := rg_v h56_z 178 3) (am_cur_of (i := (145, 1, .baload, (0, 0, 0), 0)) (by decide +kernel)) (by decide +kernel) rfl rfl hm_z
  obtain ⟨p60_z, hm_z⟩ := hm_z
  replace hm_z := rn_bastore (N := 6) (q := 0) (am_cur_of (i := (146, 1, .bastore, (0, 0, 0), 0)) (by decide +kernel)) (by decide +kernel) rfl hm_z
  obtain ⟨p61_z, hm_z⟩ := hm_z
  replace hm_z := rn_iinc (w := 1) (am_cur_of (i := (147, 3, .iinc 1 1, (0, 0, 0), 0)) (by decide +kernel)) g1_z (by decide) hm_z
  obtain ⟨_, s62_z, s63_z, g1_z, hm_z⟩ := hm_z
  replace g0_z := s62_z 0 _ (by decide) rfl g0_z
  clear s62_z s63_z
  replace hm_z := rn_goto (am_cur_of (i := (150, 3, .goto (-22), (62, 0, 0), 0)) (by decide +kernel)) hm_z
  replace hm_z := rn_iload_n (am_cur_of (i := (128, 1, .iload_n 1, (0, 0, 0), 0)) (by decide +kernel)) g1_z hm_z
  replace hm_z := rn_iconst (w := 3) (am_cur_of (i := (129, 1, .iconst 3, (0, 0, 0), 0)) (by decide +kernel)) (by decide) hm_z
  replace hm_z := rn_cmpF (am_cur_of (i := (130, 3, .if_icmp .ge 23, (77, 0, 0), 0)) (by decide +kernel)) (by decide) hm_z
  replace hm_z := rn_aload_n (am_cur_of (i := (133, 1, .aload_n 0, (0, 0, 0), 0)) (by decide +kernel)) g0_z hm_z
  replace hm_z := rn_getR (x := 178) (am_cur_of (i := (134, 3, .getfield 54, (12, 33, 1417), 0)) (by decide +kernel)) (by decide +kernel) hm_z
  replace hm_z := rn_iload_n (am_cur_of (i := (137, 1, .iload_n 1, (0, 0, 0), 0)) (by decide +kernel)) g1_z hm_z
  replace hm_z := rn_aload_n (am_cur_of (i := (138, 1, .aload_n 0, (0, 0, 0), 0)) (by decide +kernel)) g0_z hm_z
  replace hm_z := rn_getR (x := 178) (am_cur_of (i := (139, 3, .getfield 54, (12, 33, 1417), 0)) (by decide +kernel)) (by decide +kernel) hm_z
  replace hm_z := rn_iconst (w := 3) (am_cur_of (i := (142, 1, .iconst 3, (0, 0, 0), 0)) (by decide +kernel)) (by decide) hm_z
  replace hm_z := rn_iload_n (am_cur_of (i := (143, 1, .iload_n 1, (0, 0, 0), 0)) (by decide +kernel)) g1_z hm_z
  replace hm_z := rn_iadd (w := 4) (am_cur_of (i := (144, 1, .iadd, (0, 0, 0), 0)) (by decide +kernel)) (by decide) hm_z
  replace hm_z := rn_baload (N := 6) (q := 4) (v := rg_v h56_z 178 4) (am_cur_of (i := (145, 1, .baload, (0, 0, 0), 0)) (by decide +kernel)) (by decide +kernel) rfl (show rg_v (am_up h56_z 178 0 (.int (rg_v h56_z 178 3))) 178 4 = rg_v h56_z 178 4 from rfl) hm_z
  obtain ⟨p64_z, hm_z⟩ := hm_z
  replace hm_z := rn_bastore (N := 6) (q := 1) (am_cur_of (i := (146, 1, .bastore, (0, 0, 0), 0)) (by decide +kernel)) (by decide +kernel) rfl hm_z
  obtain ⟨p65_z, hm_z⟩ := hm_z
  replace hm_z := rn_iinc (w := 2) (am_cur_of (i := (147, 3, .iinc 1 1, (0, 0, 0), 0)) (by decide +kernel)) g1_z (by decide) hm_z
  obtain ⟨_, s66_z, s67_z, g1_z, hm_z⟩ := hm_z
  replace g0_z := s66_z 0 _ (by decide) rfl g0_z
  clear s66_z s67_z
  replace hm_z := rn_goto (am_cur_of (i := (150, 3, .goto (-22), (62, 0, 0), 0)) (by decide +kernel)) hm_z
  replace hm_z := rn_iload_n (am_cur_of (i := (128, 1, .iload_n 1, (0, 0, 0), 0)) (by decide +kernel)) g1_z hm_z
  replace hm_z := rn_iconst (w := 3) (am_cur_of (i := (129, 1, .iconst 3, (0, 0, 0), 0)) (by decide +kernel)) (by decide) hm_z
  replace hm_z := rn_cmpF (am_cur_of (i := (130, 3, .if_icmp .ge 23, (77, 0, 0), 0)) (by decide +kernel)) (by decide) hm_z
  replace hm_z := rn_aload_n (am_cur_of (i := (133, 1, .aload_n 0, (0, 0, 0), 0)) (by decide +kernel)) g0_z hm_z
  replace hm_z := rn_getR (x := 178) (am_cur_of (i := (134, 3, .getfield 54, (12, 33, 1417), 0)) (by decide +kernel)) (by decide +kernel) hm_z
  replace hm_z := rn_iload_n (am_cur_of (i := (137, 1, .iload_n 1, (0, 0, 0), 0)) (by decide +kernel)) g1_z hm_z
  replace hm_z := rn_aload_n (am_cur_of (i := (138, 1, .aload_n 0, (0, 0, 0), 0)) (by decide +kernel)) g0_z hm_z
  replace hm_z := rn_getR (x := 178) (am_cur_of (i := (139, 3, .getfield 54, (12, 33, 1417), 0)) (by decide +kernel)) (by decide +kernel) hm_z
  replace hm_z := rn_iconst (w := 3) (am_cur_of (i := (142, 1, .iconst 3, (0, 0, 0), 0)) (by decide +kernel)) (by decide) hm_z
  replace hm_z := rn_iload_n (am_cur_of (i := (143, 1, .iload_n 1, (0, 0, 0), 0)) (by decide +kernel)) g1_z hm_z
  replace hm_z := rn_iadd (w := 5) (am_cur_of (i := (144, 1, .iadd, (0, 0, 0), 0)) (by decide +kernel)) (by decide) hm_z
  replace hm_z := rn_baload (N := 6) (q := 5) (v := rg_v h56_z 178 5) (am_cur_of (i := (145, 1, .baload, (0, 0, 0), 0)) (by decide +kernel)) (by decide +kernel) rfl (show rg_v (am_up (am_up h56_z 178 0 (.int (rg_v h56_z 178 3))) 178 1 (.int (rg_v h56_z 178 4))) 178 5 = rg_v h56_z 178 5 from rfl) hm_z
  obtain ⟨p68_z, hm_z⟩ := hm_z
  replace hm_z := rn_bastore (N := 6) (q := 2) (am_cur_of (i := (146, 1, .bastore, (0, 0, 0), 0)) (by decide +kernel)) (by decide +kernel) rfl hm_z
  obtain ⟨p69_z, hm_z⟩ := hm_z
  replace hm_z := rn_iinc (w := 3) (am_cur_of (i := (147, 3, .iinc 1 1, (0, 0, 0), 0)) (by decide +kernel)) g1_z (by decide) hm_z
  obtain ⟨_, s70_z, s71_z, g1_z, hm_z⟩ := hm_z
  replace g0_z := s70_z 0 _ (by decide) rfl g0_z
  clear s70_z s71_z
  replace hm_z := rn_goto (am_cur_of (i := (150, 3, .goto (-22), (62, 0, 0), 0)) (by decide +kernel)) hm_z
  replace hm_z := rn_iload_n (am_cur_of (i := (128, 1, .iload_n 1, (0, 0, 0), 0)) (by decide +kernel)) g1_z hm_z
  replace hm_z := rn_iconst (w := 3) (am_cur_of (i := (129, 1, .iconst 3, (0, 0, 0), 0)) (by decide +kernel)) (by decide) hm_z
  replace hm_z := rn_cmpT (am_cur_of (i := (130, 3, .if_icmp .ge 23, (77, 0, 0), 0)) (by decide +kernel)) (by decide) hm_z
  replace hm_z := rn_aload_n (am_cur_of (i := (153, 1, .aload_n 0, (0, 0, 0), 0)) (by decide +kernel)) g0_z hm_z
  replace hm_z := rn_getR (x := 179) (am_cur_of (i := (154, 3, .getfield 57, (12, 34, 1418), 0)) (by decide +kernel)) (by decide +kernel) hm_z
  replace hm_z := rn_iconst (w := 3) (am_cur_of (i := (157, 1, .iconst 3, (0, 0, 0), 0)) (by decide +kernel)) (by decide) hm_z
  replace hm_z := rn_callS (M' := am_m145) (ar := [.int 3, .ref 179]) (rest := []) (L := lv_args 0 [.ref 179, .int 3]) (am_cur_of (i := (158, 3, .invokestatic 234, (145, 1365, 3), 0)) (by decide +kernel)) rfl rfl rfl rfl hm_z
  obtain ⟨r72_z, h73_z, q74_z, hm_z⟩ := hm_z
  have vo := rn_void rfl q74_z
  subst vo
  replace hm_z : rn _ _ _ _ [] _ _ _ := hm_z
  replace hm_z := rn_aload_n (am_cur_of (i := (161, 1, .aload_n 0, (0, 0, 0), 0)) (by decide +kernel)) g0_z hm_z
  replace hm_z := rn_getR (x := 180) (am_cur_of (i := (162, 3, .getfield 60, (12, 35, 1419), 0)) (by decide +kernel)) (by decide +kernel) hm_z
  replace hm_z := rn_iconst (w := 3) (am_cur_of (i := (165, 1, .iconst 3, (0, 0, 0), 0)) (by decide +kernel)) (by decide) hm_z
  replace hm_z := rn_callS (M' := am_m145) (ar := [.int 3, .ref 180]) (rest := []) (L := lv_args 0 [.ref 180, .int 3]) (am_cur_of (i := (166, 3, .invokestatic 234, (145, 1365, 3), 0)) (by decide +kernel)) rfl rfl rfl rfl hm_z
  obtain ⟨r75_z, h76_z, q77_z, hm_z⟩ := hm_z
  have vo := rn_void rfl q77_z
  subst vo
  replace hm_z : rn _ _ _ _ [] _ _ _ := hm_z
  replace hm_z := rn_aload_n (am_cur_of (i := (169, 1, .aload_n 0, (0, 0, 0), 0)) (by decide +kernel)) g0_z hm_z
  replace hm_z := rn_getR (x := 181) (am_cur_of (i := (170, 3, .getfield 63, (12, 36, 1420), 0)) (by decide +kernel)) (by decide +kernel) hm_z
  replace hm_z := rn_bipush (w := 64) (am_cur_of (i := (173, 2, .bipush 64, (0, 0, 0), 0)) (by decide +kernel)) (by decide) hm_z
  replace hm_z := rn_callS (M' := am_m145) (ar := [.int 64, .ref 181]) (rest := []) (L := lv_args 0 [.ref 181, .int 64]) (am_cur_of (i := (175, 3, .invokestatic 234, (145, 1365, 3), 0)) (by decide +kernel)) rfl rfl rfl rfl hm_z
  obtain ⟨r78_z, h79_z, q80_z, hm_z⟩ := hm_z
  have vo := rn_void rfl q80_z
  subst vo
  replace hm_z : rn _ _ _ _ [] _ _ _ := hm_z
  replace hm_z := rn_aload_n (am_cur_of (i := (178, 1, .aload_n 0, (0, 0, 0), 0)) (by decide +kernel)) g0_z hm_z
  replace hm_z := rn_getR (x := 182) (am_cur_of (i := (179, 3, .getfield 66, (12, 37, 1421), 0)) (by decide +kernel)) (by decide +kernel) hm_z
  replace hm_z := rn_bipush (w := 64) (am_cur_of (i := (182, 2, .bipush 64, (0, 0, 0), 0)) (by decide +kernel)) (by decide) hm_z
  replace hm_z := rn_callS (M' := am_m145) (ar := [.int 64, .ref 182]) (rest := []) (L := lv_args 0 [.ref 182, .int 64]) (am_cur_of (i := (184, 3, .invokestatic 234, (145, 1365, 3), 0)) (by decide +kernel)) rfl rfl rfl rfl hm_z
  obtain ⟨r81_z, h82_z, q83_z, hm_z⟩ := hm_z
  have vo := rn_void rfl q83_z
  subst vo
  replace hm_z : rn _ _ _ _ [] _ _ _ := hm_z
  replace hm_z := rn_aload_n (am_cur_of (i := (187, 1, .aload_n 0, (0, 0, 0), 0)) (by decide +kernel)) g0_z hm_z
  replace hm_z := rn_getR (x := 183) (am_cur_of (i := (188, 3, .getfield 69, (12, 38, 1422), 0)) (by decide +kernel)) (by decide +kernel) hm_z
  replace hm_z := rn_bipush (w := 64) (am_cur_of (i := (191, 2, .bipush 64, (0, 0, 0), 0)) (by decide +kernel)) (by decide) hm_z
  replace hm_z := rn_callS (M' := am_m145) (ar := [.int 64, .ref 183]) (rest := []) (L := lv_args 0 [.ref 183, .int 64]) (am_cur_of (i := (193, 3, .invokestatic 234, (145, 1365, 3), 0)) (by decide +kernel)) rfl rfl rfl rfl hm_z
  obtain ⟨r84_z, h85_z, q86_z, hm_z⟩ := hm_z
  have vo := rn_void rfl q86_z
  subst vo
  replace hm_z : rn _ _ _ _ [] _ _ _ := hm_z
  replace hm_z := rn_aload_n (am_cur_of (i := (196, 1, .aload_n 0, (0, 0, 0), 0)) (by decide +kernel)) g0_z hm_z
  replace hm_z := rn_callV (M' := am_m146) (o := 164) (ar := []) (rest := []) (L := lv_args 0 [.ref 164]) (am_cur_of (i := (197, 3, .invokevirtual 238, (146, 1368, 3), 0)) (by decide +kernel)) rfl rfl rfl rfl hm_z
  obtain ⟨r87_z, h88_z, q89_z, hm_z⟩ := hm_z
  have vo := rn_void rfl q89_z
  subst vo
  have zb := ke_b q89_z
  replace hm_z : rn _ _ _ _ [] _ _ _ := hm_z
  replace hm_z := rn_vret (am_cur_of (i := (200, 1, .return_, (0, 0, 0), 0)) (by decide +kernel)) hm_z
  obtain ⟨e90_z, e91_z⟩ := hm_z
  rw [e91_z]
  exact zb
def R6 (h : am_H) : Prop := R5 h ∧ ck_z h h
theorem R6_text : ax_text R6 := by
  intro t t1_z a h h1_z h2_z r1_z r2_z n1_z n2_z hR hG hG2 hT F1 F2 rn1_z rn2_z
  refine ⟨R5_text t t1_z a h h1_z h2_z r1_z r2_z n1_z n2_z hR.1 hG hG2 hT F1 F2 rn1_z rn2_z, ?_⟩
  obtain ⟨-, -, d, -, -, -, O⟩ := tx_all hR.1.1.1 hG F1 rn1_z rn2_z
  have e1_z : rg_v h2_z 142 0 = rg_v h1_z 142 0 := rg_v_fr F2 (by decide +kernel)
  have e2_z : rg_v h1_z 164 73 = rg_v h 164 73 := rg_v_fr F1 (by decide +kernel)
  have C := hR.2
  rcases O with ⟨q1_z, q2_z⟩ | ⟨-, -, -, -, kc, km⟩ | X
  · exact ck_of C (e1_z.trans (by rw [q1_z])) (by rw [q2_z]; exact (rg_v_other (by omega)).trans e2_z)
  · exact ck_of C (e1_z.trans (by unfold rg_v; rw [kc 142 0 (Or.inr (Or.inl (by decide))) (by decide)])) ((yk_v km (by decide)).trans e2_z)
  · obtain ⟨hq_z, gq, x1_z, x2_z, x3_z, x4_z, m1_z, m2_z, m3_z, m4_z, m5_z, A, w1_z, r54_z, r144_z, r14_z, r57_z, r58_z, w2_z, -⟩ := X
    have a0_z : rg_v h1_z 142 0 = 0 := by
      rw [w2_z, (kg_58 r58_z).2]
      rfl
    have b0_z : rg_v h2_z 164 73 = 0 := ke_144 r144_z
    refine ⟨(e1_z.trans a0_z).trans b0_z.symm, ?_, ?_⟩
    · rw [e1_z, a0_z]; decide
    · rw [e1_z, a0_z]; decide
theorem ck_ch {t a0_z a1_z a2_z a3_z : Int32} {h h1_z h2_z : am_H} {r1_z r2_z : Option Value} {n1_z n2_z : Nat} (hR : R6 h) (hG : ag_G t h) (F1 : ab_Fr ab_s45.2.2.2.1 h h1_z) (rn1_z : rn n1_z am_m125 0 (lv_args 0 [.ref 0, .int a0_z, .int a1_z, .int a2_z, .int a3_z]) [] h r1_z h1_z) (rn2_z : rn n2_z am_m240 0 (lv_args 0 [.ref 164, .int a0_z, .int a1_z, .int a2_z, .int a3_z]) [] h1_z r2_z h2_z) : r1_z = r2_z ∧ ck_z h1_z h2_z := by
  have m1_z : zM h h1_z := zM_fr (by decide +kernel) F1
  have C : ck_z h h1_z := ⟨hR.2.1.trans (rg_v_fr F1 (by decide +kernel)).symm, hR.2.2⟩
  rcases hR.1.1.1.1 with ⟨-, e⟩ | ⟨-, e⟩
  · exact ck_cheek23 e (rK_m m1_z (hR.1.2 23 e)) C (ck_T hG).2 rn1_z rn2_z
  · exact ck_cheek2 e (rK_m m1_z (hR.1.2 2 e)) C (ck_T hG).1 rn1_z rn2_z
theorem ck_st {a0_z : Int32} {h h1_z h2_z : am_H} {r1_z r2_z : Option Value} {n1_z n2_z : Nat} (hR : R6 h) (F1 : ab_Fr ab_s47.2.2.2.1 h h1_z) (rn1_z : rn n1_z am_m127 0 (lv_args 0 [.ref 0, .int a0_z]) [] h r1_z h1_z) (rn2_z : rn n2_z am_m242 0 (lv_args 0 [.ref 164, .int a0_z]) [] h1_z r2_z h2_z) : r1_z = r2_z ∧ ck_z h1_z h2_z := ck_strike ⟨hR.2.1.trans (rg_v_fr F1 (by decide +kernel)).symm, hR.2.2⟩ rn1_z rn2_z
theorem R6_feed : ax_feed R6 := fun a b c d e f g h h1_z h2_z r1_z r2_z n1_z n2_z hR hG hG2 f1_z f2_z x y => ⟨R5_feed a b c d e f g h h1_z h2_z r1_z r2_z n1_z n2_z hR.1 hG hG2 f1_z f2_z x y, ck_k (by decide +kernel) f2_z (ck_k (by decide +kernel) f1_z hR.2)⟩
theorem R6_fault : ax_fault R6 := fun x0_z x1_z x2_z x3_z x4_z x5_z x6_z x7_z x8_z hR g0_z g1_z g2_z f1_z f2_z y0_z y1_z => ⟨R5_fault x0_z x1_z x2_z x3_z x4_z x5_z x6_z x7_z x8_z hR.1 g0_z g1_z g2_z f1_z f2_z y0_z y1_z, ck_k (by decide +kernel) f2_z (ck_k (by decide +kernel) f1_z hR.2)⟩
theorem R6_named : ax_named R6 := fun x0_z x1_z x2_z x3_z x4_z x5_z x6_z x7_z x8_z x9_z hR g0_z g1_z g2_z f1_z f2_z y0_z y1_z => ⟨R5_named x0_z x1_z x2_z x3_z x4_z x5_z x6_z x7_z x8_z x9_z hR.1 g0_z g1_z g2_z f1_z f2_z y0_z y1_z, ck_k (by decide +kernel) f2_z (ck_k (by decide +kernel) f1_z hR.2)⟩
theorem R6_look : ax_look R6 := fun x0_z x1_z x2_z x3_z x4_z x5_z x6_z x7_z hR g0_z g1_z g2_z f1_z f2_z y0_z => ⟨R5_look x0_z x1_z x2_z x3_z x4_z x5_z x6_z x7_z hR.1 g0_z g1_z g2_z f1_z f2_z y0_z, ck_k (by decide +kernel) f2_z (ck_k (by decide +kernel) f1_z hR.2)⟩
theorem R6_law : ax_law R6 := fun x0_z x1_z x2_z x3_z x4_z x5_z x6_z x7_z x8_z x9_z hR g0_z g1_z g2_z f1_z f2_z y0_z y1_z => ⟨R5_law x0_z x1_z x2_z x3_z x4_z x5_z x6_z x7_z x8_z x9_z hR.1 g0_z g1_z g2_z f1_z f2_z y0_z y1_z, ck_k (by decide +kernel) f2_z (ck_k (by decide +kernel) f1_z hR.2)⟩
theorem R6_blow : ax_blow R6 := fun x0_z x1_z x2_z x3_z x4_z x5_z x6_z x7_z x8_z x9_z hR g0_z g1_z g2_z f1_z f2_z y0_z y1_z => ⟨R5_blow x0_z x1_z x2_z x3_z x4_z x5_z x6_z x7_z x8_z x9_z hR.1 g0_z g1_z g2_z f1_z f2_z y0_z y1_z, ck_k (by decide +kernel) f2_z (ck_k (by decide +kernel) f1_z hR.2)⟩
theorem R6_waits : ax_waits R6 := fun x0_z x1_z x2_z x3_z x4_z x5_z x6_z x7_z x8_z x9_z hR g0_z g1_z g2_z u0_z u1_z f1_z f2_z y0_z y1_z => ⟨R5_waits x0_z x1_z x2_z x3_z x4_z x5_z x6_z x7_z x8_z x9_z hR.1 g0_z g1_z g2_z u0_z u1_z f1_z f2_z y0_z y1_z, ck_k (by decide +kernel) f2_z (ck_k (by decide +kernel) f1_z hR.2)⟩
theorem R6_pump : ax_pump R6 := fun x0_z x1_z x2_z x3_z x4_z x5_z x6_z x7_z x8_z hR g0_z g1_z g2_z f1_z f2_z y0_z y1_z => ⟨R5_pump x0_z x1_z x2_z x3_z x4_z x5_z x6_z x7_z x8_z hR.1 g0_z g1_z g2_z f1_z f2_z y0_z y1_z, ck_k (by decide +kernel) f2_z (ck_k (by decide +kernel) f1_z hR.2)⟩
theorem R6_patch : ax_patch R6 := fun x0_z x1_z x2_z x3_z x4_z x5_z x6_z x7_z x8_z hR g0_z g1_z g2_z f1_z f2_z y0_z y1_z => ⟨R5_patch x0_z x1_z x2_z x3_z x4_z x5_z x6_z x7_z x8_z hR.1 g0_z g1_z g2_z f1_z f2_z y0_z y1_z, ck_k (by decide +kernel) f2_z (ck_k (by decide +kernel) f1_z hR.2)⟩
theorem R6_leak : ax_leak R6 := fun x0_z x1_z x2_z x3_z x4_z x5_z x6_z x7_z hR g0_z g1_z g2_z f1_z f2_z y0_z y1_z => ⟨R5_leak x0_z x1_z x2_z x3_z x4_z x5_z x6_z x7_z hR.1 g0_z g1_z g2_z f1_z f2_z y0_z y1_z, ck_k (by decide +kernel) f2_z (ck_k (by decide +kernel) f1_z hR.2)⟩
theorem R6_ever : ax_ever R6 := fun x0_z x1_z x2_z x3_z x4_z x5_z x6_z x7_z x8_z hR g0_z g1_z g2_z f1_z f2_z y0_z y1_z => ⟨R5_ever x0_z x1_z x2_z x3_z x4_z x5_z x6_z x7_z x8_z hR.1 g0_z g1_z g2_z f1_z f2_z y0_z y1_z, ck_k (by decide +kernel) f2_z (ck_k (by decide +kernel) f1_z hR.2)⟩
theorem R6_best : ax_best R6 := fun x0_z x1_z x2_z x3_z x4_z x5_z x6_z x7_z x8_z x9_z hR g0_z g1_z g2_z f1_z f2_z y0_z y1_z => ⟨R5_best x0_z x1_z x2_z x3_z x4_z x5_z x6_z x7_z x8_z x9_z hR.1 g0_z g1_z g2_z f1_z f2_z y0_z y1_z, ck_k (by decide +kernel) f2_z (ck_k (by decide +kernel) f1_z hR.2)⟩
theorem R6_lasts : ax_lasts R6 := fun x0_z x1_z x2_z x3_z x4_z x5_z x6_z x7_z x8_z x9_z hR g0_z g1_z g2_z f1_z f2_z y0_z y1_z => ⟨R5_lasts x0_z x1_z x2_z x3_z x4_z x5_z x6_z x7_z x8_z x9_z hR.1 g0_z g1_z g2_z f1_z f2_z y0_z y1_z, ck_k (by decide +kernel) f2_z (ck_k (by decide +kernel) f1_z hR.2)⟩
theorem R6_firm : ax_firm R6 := fun x0_z x1_z x2_z x3_z x4_z x5_z x6_z x7_z x8_z x9_z hR g0_z g1_z g2_z f1_z f2_z y0_z y1_z => ⟨R5_firm x0_z x1_z x2_z x3_z x4_z x5_z x6_z x7_z x8_z x9_z hR.1 g0_z g1_z g2_z f1_z f2_z y0_z y1_z, ck_k (by decide +kernel) f2_z (ck_k (by decide +kernel) f1_z hR.2)⟩
theorem R6_up : ax_up R6 := fun x0_z x1_z x2_z x3_z x4_z x5_z x6_z x7_z x8_z x9_z x10_z hR g0_z g1_z g2_z f1_z f2_z y0_z y1_z => ⟨R5_up x0_z x1_z x2_z x3_z x4_z x5_z x6_z x7_z x8_z x9_z x10_z hR.1 g0_z g1_z g2_z f1_z f2_z y0_z y1_z, ck_k (by decide +kernel) f2_z (ck_k (by decide +kernel) f1_z hR.2)⟩
theorem R6_upAt : ax_upAt R6 := fun x0_z x1_z x2_z x3_z x4_z x5_z x6_z x7_z x8_z x9_z x10_z x11_z hR g0_z g1_z g2_z f1_z f2_z y0_z y1_z => ⟨R5_upAt x0_z x1_z x2_z x3_z x4_z x5_z x6_z x7_z x8_z x9_z x10_z x11_z hR.1 g0_z g1_z g2_z f1_z f2_z y0_z y1_z, ck_k (by decide +kernel) f2_z (ck_k (by decide +kernel) f1_z hR.2)⟩
theorem R6_cheapest : ax_cheapest R6 := fun x0_z x1_z x2_z x3_z x4_z x5_z x6_z x7_z x8_z x9_z x10_z hR g0_z g1_z g2_z f1_z f2_z y0_z y1_z => ⟨R5_cheapest x0_z x1_z x2_z x3_z x4_z x5_z x6_z x7_z x8_z x9_z x10_z hR.1 g0_z g1_z g2_z f1_z f2_z y0_z y1_z, ck_k (by decide +kernel) f2_z (ck_k (by decide +kernel) f1_z hR.2)⟩
theorem R6_lend : ax_lend R6 := fun x0_z x1_z x2_z x3_z x4_z x5_z x6_z x7_z x8_z x9_z hR g0_z g1_z g2_z f1_z f2_z y0_z y1_z => ⟨R5_lend x0_z x1_z x2_z x3_z x4_z x5_z x6_z x7_z x8_z x9_z hR.1 g0_z g1_z g2_z f1_z f2_z y0_z y1_z, ck_k (by decide +kernel) f2_z (ck_k (by decide +kernel) f1_z hR.2)⟩
theorem R6_seek : ax_seek R6 := fun x0_z x1_z x2_z x3_z x4_z x5_z x6_z x7_z x8_z x9_z hR g0_z g1_z g2_z f1_z f2_z y0_z y1_z => ⟨R5_seek x0_z x1_z x2_z x3_z x4_z x5_z x6_z x7_z x8_z x9_z hR.1 g0_z g1_z g2_z f1_z f2_z y0_z y1_z, ck_k (by decide +kernel) f2_z (ck_k (by decide +kernel) f1_z hR.2)⟩
theorem R6_mean : ax_mean R6 := fun x0_z x1_z x2_z x3_z x4_z x5_z x6_z x7_z x8_z hR g0_z g1_z g2_z f1_z f2_z y0_z y1_z => ⟨R5_mean x0_z x1_z x2_z x3_z x4_z x5_z x6_z x7_z x8_z hR.1 g0_z g1_z g2_z f1_z f2_z y0_z y1_z, ck_k (by decide +kernel) f2_z (ck_k (by decide +kernel) f1_z hR.2)⟩
theorem R6_rule : ax_rule R6 := fun x0_z x1_z x2_z x3_z x4_z x5_z x6_z x7_z x8_z hR g0_z g1_z g2_z f1_z f2_z y0_z y1_z => ⟨R5_rule x0_z x1_z x2_z x3_z x4_z x5_z x6_z x7_z x8_z hR.1 g0_z g1_z g2_z f1_z f2_z y0_z y1_z, ck_k (by decide +kernel) f2_z (ck_k (by decide +kernel) f1_z hR.2)⟩
theorem R6_fairest : ax_fairest R6 := fun x0_z x1_z x2_z x3_z x4_z x5_z x6_z x7_z hR g0_z g1_z g2_z f1_z f2_z y0_z y1_z => ⟨R5_fairest x0_z x1_z x2_z x3_z x4_z x5_z x6_z x7_z hR.1 g0_z g1_z g2_z f1_z f2_z y0_z y1_z, ck_k (by decide +kernel) f2_z (ck_k (by decide +kernel) f1_z hR.2)⟩
theorem R6_cheek : ax_cheek R6 := fun x0_z x1_z x2_z x3_z x4_z x5_z x6_z x7_z x8_z x9_z x10_z x11_z hR g0_z g1_z g2_z u0_z u1_z f1_z f2_z y0_z y1_z => ⟨R5_cheek x0_z x1_z x2_z x3_z x4_z x5_z x6_z x7_z x8_z x9_z x10_z x11_z hR.1 g0_z g1_z g2_z u0_z u1_z f1_z f2_z y0_z y1_z, ck_m (by decide +kernel) f2_z (ck_ch hR g0_z f1_z y0_z y1_z).2⟩
theorem R6_strike : ax_strike R6 := fun x0_z x1_z x2_z x3_z x4_z x5_z x6_z x7_z x8_z hR g0_z g1_z g2_z f1_z f2_z y0_z y1_z => ⟨R5_strike x0_z x1_z x2_z x3_z x4_z x5_z x6_z x7_z x8_z hR.1 g0_z g1_z g2_z f1_z f2_z y0_z y1_z, ck_m (by decide +kernel) f2_z (ck_st hR f1_z y0_z y1_z).2⟩
theorem R6_known : ax_known R6 := fun x0_z x1_z x2_z x3_z x4_z x5_z x6_z x7_z x8_z hR g0_z g1_z g2_z f1_z f2_z y0_z y1_z => ⟨R5_known x0_z x1_z x2_z x3_z x4_z x5_z x6_z x7_z x8_z hR.1 g0_z g1_z g2_z f1_z f2_z y0_z y1_z, ck_k (by decide +kernel) f2_z (ck_k (by decide +kernel) f1_z hR.2)⟩
theorem R6_fits : ax_fits R6 := fun x0_z x1_z x2_z x3_z x4_z x5_z x6_z x7_z hR g0_z g1_z g2_z f1_z f2_z y0_z y1_z => ⟨R5_fits x0_z x1_z x2_z x3_z x4_z x5_z x6_z x7_z hR.1 g0_z g1_z g2_z f1_z f2_z y0_z y1_z, ck_k (by decide +kernel) f2_z (ck_k (by decide +kernel) f1_z hR.2)⟩
theorem R6_chance : ax_chance R6 := fun x0_z x1_z x2_z x3_z x4_z x5_z x6_z x7_z x8_z x9_z x10_z hR g0_z g1_z g2_z f1_z f2_z y0_z y1_z => ⟨R5_chance x0_z x1_z x2_z x3_z x4_z x5_z x6_z x7_z x8_z x9_z x10_z hR.1 g0_z g1_z g2_z f1_z f2_z y0_z y1_z, ck_k (by decide +kernel) f2_z (ck_k (by decide +kernel) f1_z hR.2)⟩
theorem R6_tried : ax_tried R6 := fun x0_z x1_z x2_z x3_z x4_z x5_z x6_z x7_z x8_z x9_z x10_z hR g0_z g1_z g2_z f1_z f2_z y0_z y1_z => ⟨R5_tried x0_z x1_z x2_z x3_z x4_z x5_z x6_z x7_z x8_z x9_z x10_z hR.1 g0_z g1_z g2_z f1_z f2_z y0_z y1_z, ck_k (by decide +kernel) f2_z (ck_k (by decide +kernel) f1_z hR.2)⟩
theorem R6_undo : ax_undo R6 := fun x0_z x1_z x2_z x3_z x4_z x5_z x6_z x7_z hR g0_z g1_z g2_z f1_z f2_z y0_z y1_z => ⟨R5_undo x0_z x1_z x2_z x3_z x4_z x5_z x6_z x7_z hR.1 g0_z g1_z g2_z f1_z f2_z y0_z y1_z, ck_k (by decide +kernel) f2_z (ck_k (by decide +kernel) f1_z hR.2)⟩
theorem R6_keep : ax_keep R6 := fun x0_z x1_z x2_z x3_z x4_z x5_z x6_z x7_z hR g0_z g1_z g2_z f1_z f2_z y0_z y1_z => ⟨R5_keep x0_z x1_z x2_z x3_z x4_z x5_z x6_z x7_z hR.1 g0_z g1_z g2_z f1_z f2_z y0_z y1_z, ck_k (by decide +kernel) f2_z (ck_k (by decide +kernel) f1_z hR.2)⟩
theorem R6_back : ax_back R6 := fun x0_z x1_z x2_z x3_z x4_z x5_z x6_z x7_z hR g0_z g1_z g2_z f1_z f2_z y0_z y1_z => ⟨R5_back x0_z x1_z x2_z x3_z x4_z x5_z x6_z x7_z hR.1 g0_z g1_z g2_z f1_z f2_z y0_z y1_z, ck_k (by decide +kernel) f2_z (ck_k (by decide +kernel) f1_z hR.2)⟩
theorem R6_count : ax_count R6 := fun x0_z x1_z x2_z x3_z x4_z x5_z x6_z x7_z x8_z hR g0_z g1_z g2_z f1_z f2_z y0_z y1_z => ⟨R5_count x0_z x1_z x2_z x3_z x4_z x5_z x6_z x7_z x8_z hR.1 g0_z g1_z g2_z f1_z f2_z y0_z y1_z, ck_k (by decide +kernel) f2_z (ck_k (by decide +kernel) f1_z hR.2)⟩
theorem R6_All : ax_All R6 := ⟨R6_feed, R6_text, R6_fault, R6_named, R6_look, R6_law, R6_blow, R6_waits, R6_pump, R6_patch, R6_leak, R6_ever, R6_best, R6_lasts, R6_firm, R6_up, R6_upAt, R6_cheapest, R6_lend, R6_seek, R6_mean, R6_rule, R6_fairest, R6_cheek, R6_strike, R6_known, R6_fits, R6_chance, R6_tried, R6_undo, R6_keep, R6_back, R6_count⟩
theorem R6_0 : R6 am_h0 := by
  have b : rg_v am_h0 142 0 = rg_v am_h0 164 73 ∧ 0 ≤ (rg_v am_h0 142 0).toInt ∧ (rg_v am_h0 142 0).toInt ≤ 24 := by decide +kernel
  exact ⟨R5_0, b⟩
theorem R6_y_cheek : ay_cheek R6 := fun x0_z x1_z x2_z x3_z x4_z x5_z x6_z x7_z x8_z x9_z x10_z x11_z hR g0_z g1_z g2_z u0_z u1_z f1_z f2_z y0_z y1_z => (ck_ch hR g0_z f1_z y0_z y1_z).1
theorem R6_y_strike : ay_strike R6 := fun x0_z x1_z x2_z x3_z x4_z x5_z x6_z x7_z x8_z hR g0_z g1_z g2_z f1_z f2_z y0_z y1_z => (ck_st hR f1_z y0_z y1_z).1
theorem R6_y_known : ay_known R6 := fun x0_z x1_z x2_z x3_z x4_z x5_z x6_z x7_z x8_z hR g0_z g1_z g2_z f1_z f2_z y0_z y1_z => ck_known ⟨hR.2.1.trans (rg_v_fr f1_z (by decide +kernel)).symm, hR.2.2⟩ y0_z y1_z
