/-! ===== THE STATE ALIKE IN BOTH, all but full (wip/r/gen99sg.py) ===== -/
/-- a bed as it begins -/
def bF (m : Nat → Int32) (left : Int32) : Prop := ∀ j, 1 ≤ j → j < 17 → m j = if j = 2 then -1 else if j = 3 then left else 0
def zB (g g' : am_H) : Prop := ∀ o q, ((188 ≤ o ∧ o ≤ 194) ∨ (o = 164 ∧ (q = 57 ∨ q = 60 ∨ q = 61 ∨ q = 62))) → g' o q = g o q
theorem zB_r {g : am_H} : zB g g := fun _ _ _ => rfl
theorem zB_t {g g' g'' : am_H} (a : zB g g') (b : zB g' g'') : zB g g'' := fun o q e => (b o q e).trans (a o q e)
theorem sm_e {n : Nat} {ls : am_L} {r : Option Value} {g g' : am_H} (g0_z : am_get ls 0 = some (.ref 164)) (hm_z : rn n am_m146 74 ls [] g r g') : rg_v g' 164 77 = 0 ∧ rg_v g' 164 79 = 0 ∧ zB g g' := by
  replace hm_z := rn_aload_n (am_cur_of (i := (124, 1, .aload_n 0, (0, 0, 0), 0)) (by decide +kernel)) g0_z hm_z
  replace hm_z := rn_iconst (w := 0) (am_cur_of (i := (125, 1, .iconst 0, (0, 0, 0), 0)) (by decide +kernel)) (by decide) hm_z
  replace hm_z := rn_put (am_cur_of (i := (126, 3, .putfield 368, (12, 73, 1457), 0)) (by decide +kernel)) (by decide +kernel) hm_z
  replace hm_z := rn_aload_n (am_cur_of (i := (129, 1, .aload_n 0, (0, 0, 0), 0)) (by decide +kernel)) g0_z hm_z
  replace hm_z := rn_iconst (w := (-1)) (am_cur_of (i := (130, 1, .iconst (-1), (0, 0, 0), 0)) (by decide +kernel)) (by decide) hm_z
  replace hm_z := rn_put (am_cur_of (i := (131, 3, .putfield 118, (12, 74, 1458), 0)) (by decide +kernel)) (by decide +kernel) hm_z
  replace hm_z := rn_aload_n (am_cur_of (i := (134, 1, .aload_n 0, (0, 0, 0), 0)) (by decide +kernel)) g0_z hm_z
  replace hm_z := rn_iconst (w := 0) (am_cur_of (i := (135, 1, .iconst 0, (0, 0, 0), 0)) (by decide +kernel)) (by decide) hm_z
  replace hm_z := rn_put (am_cur_of (i := (136, 3, .putfield 371, (12, 77, 1461), 0)) (by decide +kernel)) (by decide +kernel) hm_z
  replace hm_z := rn_aload_n (am_cur_of (i := (139, 1, .aload_n 0, (0, 0, 0), 0)) (by decide +kernel)) g0_z hm_z
  replace hm_z := rn_iconst (w := 0) (am_cur_of (i := (140, 1, .iconst 0, (0, 0, 0), 0)) (by decide +kernel)) (by decide) hm_z
  replace hm_z := rn_put (am_cur_of (i := (141, 3, .putfield 374, (12, 79, 1463), 0)) (by decide +kernel)) (by decide +kernel) hm_z
  replace hm_z := rn_vret (am_cur_of (i := (144, 1, .return_, (0, 0, 0), 0)) (by decide +kernel)) hm_z
  obtain ⟨e1_z, e2_z⟩ := hm_z
  rw [e2_z]
  exact ⟨((rg_v_other (by omega)).trans (rg_v_self)), rg_v_self, (fun o q e => (up_ne (by omega)).trans ((up_ne (by omega)).trans ((up_ne (by omega)).trans ((up_ne (by omega)).trans ((zB_r o q e))))))⟩
theorem sm_w {r : Option Value} {g' : am_H} : ∀ (f : Nat) (x : Int32) (ls : am_L) (g : am_H), am_get ls 0 = some (.ref 164) → am_get ls 2 = some (.int x) → rn f am_m146 52 ls [] g r g' → rg_v g' 164 77 = 0 ∧ rg_v g' 164 79 = 0 ∧ zB g g' := by
  intro f
  induction f with
  | zero => intro x ls g g0_z g2_z hm_z; exact absurd hm_z rn_0
  | succ f ih_z =>
    intro x ls g g0_z g2_z hm_z
    replace hm_z := rn_iload_n (am_cur_of (i := (86, 1, .iload_n 2, (0, 0, 0), 0)) (by decide +kernel)) g2_z hm_z
    replace hm_z := rn_aload_n (am_cur_of (i := (87, 1, .aload_n 0, (0, 0, 0), 0)) (by decide +kernel)) g0_z hm_z
    replace hm_z := rn_getR (x := 173) (am_cur_of (i := (88, 3, .getfield 39, (12, 28, 1412), 0)) (by decide +kernel)) (by decide +kernel) hm_z
    replace hm_z := rn_aload_n (am_cur_of (i := (91, 1, .aload_n 0, (0, 0, 0), 0)) (by decide +kernel)) g0_z hm_z
    replace hm_z := rn_getI (v := rg_v g 164 58) (am_cur_of (i := (92, 3, .getfield 362, (12, 58, 1442), 0)) (by decide +kernel)) (by decide +kernel) rfl hm_z
    replace hm_z := rn_iaload (N := 12) (q := (rg_v g 164 58).toNatClampNeg) (v := rg_v g 173 ((rg_v g 164 58).toNatClampNeg)) (am_cur_of (i := (95, 1, .iaload, (0, 0, 0), 0)) (by decide +kernel)) (by decide +kernel) rfl rfl hm_z
    obtain ⟨p3_z, hm_z⟩ := hm_z
    replace hm_z := rn_cmp (am_cur_of (i := (96, 3, .if_icmp .lt 28, (74, 0, 0), 0)) (by decide +kernel)) hm_z
    rcases hm_z with ⟨b4_z, hm_z⟩ | ⟨b4_z, hm_z⟩
    · replace b4_z : x.toInt < (rg_v g 173 ((rg_v g 164 58).toNatClampNeg)).toInt := b4_z
      obtain ⟨e1_z, e2_z, e3_z⟩ := sm_e g0_z hm_z
      exact ⟨e1_z, e2_z, zB_t zB_r e3_z⟩
    · replace b4_z : (rg_v g 173 ((rg_v g 164 58).toNatClampNeg)).toInt ≤ x.toInt := b4_z
      replace hm_z := rn_iload_n (am_cur_of (i := (99, 1, .iload_n 2, (0, 0, 0), 0)) (by decide +kernel)) g2_z hm_z
      replace hm_z := rn_aload_n (am_cur_of (i := (100, 1, .aload_n 0, (0, 0, 0), 0)) (by decide +kernel)) g0_z hm_z
      replace hm_z := rn_getR (x := 173) (am_cur_of (i := (101, 3, .getfield 39, (12, 28, 1412), 0)) (by decide +kernel)) (by decide +kernel) hm_z
      replace hm_z := rn_aload_n (am_cur_of (i := (104, 1, .aload_n 0, (0, 0, 0), 0)) (by decide +kernel)) g0_z hm_z
      replace hm_z := rn_getI (v := rg_v g 164 58) (am_cur_of (i := (105, 3, .getfield 362, (12, 58, 1442), 0)) (by decide +kernel)) (by decide +kernel) rfl hm_z
      replace hm_z := rn_iaload (N := 12) (q := (rg_v g 164 58).toNatClampNeg) (v := rg_v g 173 ((rg_v g 164 58).toNatClampNeg)) (am_cur_of (i := (108, 1, .iaload, (0, 0, 0), 0)) (by decide +kernel)) (by decide +kernel) rfl rfl hm_z
      obtain ⟨p5_z, hm_z⟩ := hm_z
      replace hm_z := rn_isub (w := x - (rg_v g 173 ((rg_v g 164 58).toNatClampNeg))) (am_cur_of (i := (109, 1, .isub, (0, 0, 0), 0)) (by decide +kernel)) rfl hm_z
      replace hm_z := rn_istore_n (am_cur_of (i := (110, 1, .istore_n 2, (0, 0, 0), 0)) (by decide +kernel)) hm_z
      obtain ⟨_, s6_z, s7_z, g2_z, hm_z⟩ := hm_z
      replace g0_z := s6_z 0 _ (by decide) rfl g0_z
      clear s6_z s7_z
      replace hm_z := rn_aload_n (am_cur_of (i := (111, 1, .aload_n 0, (0, 0, 0), 0)) (by decide +kernel)) g0_z hm_z
      replace hm_z := rn_dup (am_cur_of (i := (112, 1, .dup, (0, 0, 0), 0)) (by decide +kernel)) hm_z
      replace hm_z := rn_getI (v := rg_v g 164 58) (am_cur_of (i := (113, 3, .getfield 362, (12, 58, 1442), 0)) (by decide +kernel)) (by decide +kernel) rfl hm_z
      replace hm_z := rn_iconst (w := 1) (am_cur_of (i := (116, 1, .iconst 1, (0, 0, 0), 0)) (by decide +kernel)) (by decide) hm_z
      replace hm_z := rn_iadd (w := (rg_v g 164 58) + 1) (am_cur_of (i := (117, 1, .iadd, (0, 0, 0), 0)) (by decide +kernel)) rfl hm_z
      replace hm_z := rn_put (am_cur_of (i := (118, 3, .putfield 362, (12, 58, 1442), 0)) (by decide +kernel)) (by decide +kernel) hm_z
      replace hm_z := rn_gotoL (am_cur_of (i := (121, 3, .goto (-35), (52, 0, 0), 0)) (by decide +kernel)) hm_z
      obtain ⟨e1_z, e2_z, e3_z⟩ := ih_z _ _ _ g0_z g2_z hm_z
      exact ⟨e1_z, e2_z, zB_t (fun o q e => (up_ne (by omega)).trans ((zB_r o q e))) e3_z⟩
theorem sm_s {r : Option Value} {g' : am_H} : ∀ (f : Nat) (s i : Int32) (ls : am_L) (g : am_H), am_get ls 0 = some (.ref 164) → am_get ls 1 = some (.int s) → am_get ls 2 = some (.int i) → rn f am_m146 32 ls [] g r g' → rg_v g' 164 77 = 0 ∧ rg_v g' 164 79 = 0 ∧ zB g g' := by
  intro f
  induction f with
  | zero => intro s i ls g g0_z g1_z g2_z hm_z; exact absurd hm_z rn_0
  | succ f ih_z =>
    intro s i ls g g0_z g1_z g2_z hm_z
    replace hm_z := rn_iload_n (am_cur_of (i := (52, 1, .iload_n 2, (0, 0, 0), 0)) (by decide +kernel)) g2_z hm_z
    replace hm_z := rn_aload_n (am_cur_of (i := (53, 1, .aload_n 0, (0, 0, 0), 0)) (by decide +kernel)) g0_z hm_z
    replace hm_z := rn_getI (v := rg_v g 164 14) (am_cur_of (i := (54, 3, .getfield 225, (12, 14, 1398), 0)) (by decide +kernel)) (by decide +kernel) rfl hm_z
    replace hm_z := rn_cmp (am_cur_of (i := (57, 3, .if_icmp .ge 18, (45, 0, 0), 0)) (by decide +kernel)) hm_z
    rcases hm_z with ⟨b8_z, hm_z⟩ | ⟨b8_z, hm_z⟩
    · replace b8_z : (rg_v g 164 14).toInt ≤ i.toInt := b8_z
      replace hm_z := rn_aload_n (am_cur_of (i := (75, 1, .aload_n 0, (0, 0, 0), 0)) (by decide +kernel)) g0_z hm_z
      replace hm_z := rn_iload_n (am_cur_of (i := (76, 1, .iload_n 1, (0, 0, 0), 0)) (by decide +kernel)) g1_z hm_z
      replace hm_z := rn_callV (M' := am_m148) (o := 164) (ar := [.int s]) (rest := []) (L := lv_args 0 [.ref 164, .int s]) (am_cur_of (i := (77, 3, .invokevirtual 365, (148, 1376, 3), 0)) (by decide +kernel)) rfl rfl rfl rfl hm_z
      obtain ⟨r9_z, h10_z, q11_z, hm_z⟩ := hm_z
      obtain ⟨-, rr, hh⟩ := lk_148 q11_z
      subst rr
      have zn : zB g h10_z := by
        rw [hh]
        exact fun o q e => up_ne (by omega)
      replace hm_z : rn _ _ _ _ [.int (((((rg_l g 164 59 * 1103515245) + 12345) &&& 2147483647) / 65536 - (((rg_l g 164 59 * 1103515245) + 12345) &&& 2147483647) / 65536 / s.toInt64 * s.toInt64).toInt32)] _ _ _ := hm_z
      replace hm_z := rn_istore_n (am_cur_of (i := (80, 1, .istore_n 2, (0, 0, 0), 0)) (by decide +kernel)) hm_z
      obtain ⟨_, s12_z, s13_z, g2_z, hm_z⟩ := hm_z
      replace g0_z := s12_z 0 _ (by decide) rfl g0_z
      replace g1_z := s12_z 1 _ (by decide) rfl g1_z
      clear s12_z s13_z
      replace hm_z := rn_aload_n (am_cur_of (i := (81, 1, .aload_n 0, (0, 0, 0), 0)) (by decide +kernel)) g0_z hm_z
      replace hm_z := rn_iconst (w := 0) (am_cur_of (i := (82, 1, .iconst 0, (0, 0, 0), 0)) (by decide +kernel)) (by decide) hm_z
      replace hm_z := rn_put (am_cur_of (i := (83, 3, .putfield 362, (12, 58, 1442), 0)) (by decide +kernel)) (by decide +kernel) hm_z
      obtain ⟨e1_z, e2_z, e3_z⟩ := sm_w _ _ _ _ g0_z g2_z hm_z
      exact ⟨e1_z, e2_z, zB_t (fun o q e => (up_ne (by omega)).trans ((zn o q e))) e3_z⟩
    · replace b8_z : i.toInt < (rg_v g 164 14).toInt := b8_z
      replace hm_z := rn_iload_n (am_cur_of (i := (60, 1, .iload_n 1, (0, 0, 0), 0)) (by decide +kernel)) g1_z hm_z
      replace hm_z := rn_aload_n (am_cur_of (i := (61, 1, .aload_n 0, (0, 0, 0), 0)) (by decide +kernel)) g0_z hm_z
      replace hm_z := rn_getR (x := 173) (am_cur_of (i := (62, 3, .getfield 39, (12, 28, 1412), 0)) (by decide +kernel)) (by decide +kernel) hm_z
      replace hm_z := rn_iload_n (am_cur_of (i := (65, 1, .iload_n 2, (0, 0, 0), 0)) (by decide +kernel)) g2_z hm_z
      replace hm_z := rn_iaload (N := 12) (q := i.toNatClampNeg) (v := rg_v g 173 i.toNatClampNeg) (am_cur_of (i := (66, 1, .iaload, (0, 0, 0), 0)) (by decide +kernel)) (by decide +kernel) rfl rfl hm_z
      obtain ⟨p14_z, hm_z⟩ := hm_z
      replace hm_z := rn_iadd (w := s + (rg_v g 173 i.toNatClampNeg)) (am_cur_of (i := (67, 1, .iadd, (0, 0, 0), 0)) (by decide +kernel)) rfl hm_z
      replace hm_z := rn_istore_n (am_cur_of (i := (68, 1, .istore_n 1, (0, 0, 0), 0)) (by decide +kernel)) hm_z
      obtain ⟨_, s15_z, s16_z, g1_z, hm_z⟩ := hm_z
      replace g0_z := s15_z 0 _ (by decide) rfl g0_z
      replace g2_z := s15_z 2 _ (by decide) rfl g2_z
      clear s15_z s16_z
      replace hm_z := rn_iinc (w := i + 1) (am_cur_of (i := (69, 3, .iinc 2 1, (0, 0, 0), 0)) (by decide +kernel)) g2_z rfl hm_z
      obtain ⟨_, s17_z, s18_z, g2_z, hm_z⟩ := hm_z
      replace g0_z := s17_z 0 _ (by decide) rfl g0_z
      replace g1_z := s17_z 1 _ (by decide) rfl g1_z
      clear s17_z s18_z
      replace hm_z := rn_gotoL (am_cur_of (i := (72, 3, .goto (-20), (32, 0, 0), 0)) (by decide +kernel)) hm_z
      obtain ⟨e1_z, e2_z, e3_z⟩ := ih_z _ _ _ _ g0_z g1_z g2_z hm_z
      exact ⟨e1_z, e2_z, zB_t zB_r e3_z⟩
theorem sm_147 {n : Nat} {r : Option Value} {g g' : am_H} (hm_z : rn n am_m147 0 (lv_args 0 [.ref 164, .int 0]) [] g r g') : (∀ j, 1 ≤ j → j < 17 → mS g' 0 j = if j = 2 then -1 else if j = 3 then rg_v g 168 3 else if j = 4 then rg_v g 164 57 else 0) ∧ ∀ o q, ¬ (188 ≤ o ∧ o ≤ 194) → g' o q = g o q := by
  have g0_z : am_get (lv_args 0 [.ref 164, .int 0]) 0 = some (.ref 164) := rfl
  have g1_z : am_get (lv_args 0 [.ref 164, .int 0]) 1 = some (.int 0) := rfl
  replace hm_z := rn_aload_n (am_cur_of (i := (0, 1, .aload_n 0, (0, 0, 0), 0)) (by decide +kernel)) g0_z hm_z
  replace hm_z := rn_getR (x := 188) (am_cur_of (i := (1, 3, .getfield 85, (12, 50, 1434), 0)) (by decide +kernel)) (by decide +kernel) hm_z
  replace hm_z := rn_iload_n (am_cur_of (i := (4, 1, .iload_n 1, (0, 0, 0), 0)) (by decide +kernel)) g1_z hm_z
  replace hm_z := rn_aload_n (am_cur_of (i := (5, 1, .aload_n 0, (0, 0, 0), 0)) (by decide +kernel)) g0_z hm_z
  replace hm_z := rn_getR (x := 168) (am_cur_of (i := (6, 3, .getfield 24, (12, 23, 1407), 0)) (by decide +kernel)) (by decide +kernel) hm_z
  replace hm_z := rn_iconst (w := 1) (am_cur_of (i := (9, 1, .iconst 1, (0, 0, 0), 0)) (by decide +kernel)) (by decide) hm_z
  replace hm_z := rn_iaload (N := 12) (q := 1) (v := rg_v g 168 1) (am_cur_of (i := (10, 1, .iaload, (0, 0, 0), 0)) (by decide +kernel)) (by decide +kernel) rfl rfl hm_z
  obtain ⟨p19_z, hm_z⟩ := hm_z
  replace hm_z := rn_iastore (N := 4) (q := 0) (am_cur_of (i := (11, 1, .iastore, (0, 0, 0), 0)) (by decide +kernel)) (by decide +kernel) rfl hm_z
  obtain ⟨p20_z, hm_z⟩ := hm_z
  replace hm_z := rn_aload_n (am_cur_of (i := (12, 1, .aload_n 0, (0, 0, 0), 0)) (by decide +kernel)) g0_z hm_z
  replace hm_z := rn_getR (x := 189) (am_cur_of (i := (13, 3, .getfield 88, (12, 51, 1435), 0)) (by decide +kernel)) (by decide +kernel) hm_z
  replace hm_z := rn_iload_n (am_cur_of (i := (16, 1, .iload_n 1, (0, 0, 0), 0)) (by decide +kernel)) g1_z hm_z
  replace hm_z := rn_iconst (w := 0) (am_cur_of (i := (17, 1, .iconst 0, (0, 0, 0), 0)) (by decide +kernel)) (by decide) hm_z
  replace hm_z := rn_iastore (N := 4) (q := 0) (am_cur_of (i := (18, 1, .iastore, (0, 0, 0), 0)) (by decide +kernel)) (by decide +kernel) rfl hm_z
  obtain ⟨p21_z, hm_z⟩ := hm_z
  replace hm_z := rn_aload_n (am_cur_of (i := (19, 1, .aload_n 0, (0, 0, 0), 0)) (by decide +kernel)) g0_z hm_z
  replace hm_z := rn_getR (x := 190) (am_cur_of (i := (20, 3, .getfield 91, (12, 52, 1436), 0)) (by decide +kernel)) (by decide +kernel) hm_z
  replace hm_z := rn_iload_n (am_cur_of (i := (23, 1, .iload_n 1, (0, 0, 0), 0)) (by decide +kernel)) g1_z hm_z
  replace hm_z := rn_iconst (w := (-1)) (am_cur_of (i := (24, 1, .iconst (-1), (0, 0, 0), 0)) (by decide +kernel)) (by decide) hm_z
  replace hm_z := rn_iastore (N := 4) (q := 0) (am_cur_of (i := (25, 1, .iastore, (0, 0, 0), 0)) (by decide +kernel)) (by decide +kernel) rfl hm_z
  obtain ⟨p22_z, hm_z⟩ := hm_z
  replace hm_z := rn_aload_n (am_cur_of (i := (26, 1, .aload_n 0, (0, 0, 0), 0)) (by decide +kernel)) g0_z hm_z
  replace hm_z := rn_getR (x := 194) (am_cur_of (i := (27, 3, .getfield 103, (12, 56, 1440), 0)) (by decide +kernel)) (by decide +kernel) hm_z
  replace hm_z := rn_iload_n (am_cur_of (i := (30, 1, .iload_n 1, (0, 0, 0), 0)) (by decide +kernel)) g1_z hm_z
  replace hm_z := rn_aload_n (am_cur_of (i := (31, 1, .aload_n 0, (0, 0, 0), 0)) (by decide +kernel)) g0_z hm_z
  replace hm_z := rn_getR (x := 168) (am_cur_of (i := (32, 3, .getfield 24, (12, 23, 1407), 0)) (by decide +kernel)) (by decide +kernel) hm_z
  replace hm_z := rn_iconst (w := 3) (am_cur_of (i := (35, 1, .iconst 3, (0, 0, 0), 0)) (by decide +kernel)) (by decide) hm_z
  replace hm_z := rn_iaload (N := 12) (q := 3) (v := rg_v g 168 3) (am_cur_of (i := (36, 1, .iaload, (0, 0, 0), 0)) (by decide +kernel)) (by decide +kernel) rfl ((rg_v_other (by omega)).trans ((rg_v_other (by omega)).trans ((rg_v_other (by omega)).trans (rfl)))) hm_z
  obtain ⟨p23_z, hm_z⟩ := hm_z
  replace hm_z := rn_iastore (N := 4) (q := 0) (am_cur_of (i := (37, 1, .iastore, (0, 0, 0), 0)) (by decide +kernel)) (by decide +kernel) rfl hm_z
  obtain ⟨p24_z, hm_z⟩ := hm_z
  replace hm_z := rn_iconst (w := 0) (am_cur_of (i := (38, 1, .iconst 0, (0, 0, 0), 0)) (by decide +kernel)) (by decide) hm_z
  replace hm_z := rn_istore_n (am_cur_of (i := (39, 1, .istore_n 2, (0, 0, 0), 0)) (by decide +kernel)) hm_z
  obtain ⟨_, s25_z, s26_z, g2_z, hm_z⟩ := hm_z
  replace g0_z := s25_z 0 _ (by decide) rfl g0_z
  replace g1_z := s25_z 1 _ (by decide) rfl g1_z
  clear s25_z s26_z
  replace hm_z := rn_iload_n (am_cur_of (i := (40, 1, .iload_n 2, (0, 0, 0), 0)) (by decide +kernel)) g2_z hm_z
  replace hm_z := rn_iconst (w := 4) (am_cur_of (i := (41, 1, .iconst 4, (0, 0, 0), 0)) (by decide +kernel)) (by decide) hm_z
  replace hm_z := rn_cmpF (am_cur_of (i := (42, 3, .if_icmp .ge 42, (60, 0, 0), 0)) (by decide +kernel)) (by decide) hm_z
  replace hm_z := rn_aload_n (am_cur_of (i := (45, 1, .aload_n 0, (0, 0, 0), 0)) (by decide +kernel)) g0_z hm_z
  replace hm_z := rn_getR (x := 191) (am_cur_of (i := (46, 3, .getfield 94, (12, 53, 1437), 0)) (by decide +kernel)) (by decide +kernel) hm_z
  replace hm_z := rn_iconst (w := 4) (am_cur_of (i := (49, 1, .iconst 4, (0, 0, 0), 0)) (by decide +kernel)) (by decide) hm_z
  replace hm_z := rn_iload_n (am_cur_of (i := (50, 1, .iload_n 1, (0, 0, 0), 0)) (by decide +kernel)) g1_z hm_z
  replace hm_z := rn_imul (w := 0) (am_cur_of (i := (51, 1, .imul, (0, 0, 0), 0)) (by decide +kernel)) (by decide) hm_z
  replace hm_z := rn_iload_n (am_cur_of (i := (52, 1, .iload_n 2, (0, 0, 0), 0)) (by decide +kernel)) g2_z hm_z
  replace hm_z := rn_iadd (w := 0) (am_cur_of (i := (53, 1, .iadd, (0, 0, 0), 0)) (by decide +kernel)) (by decide) hm_z
  replace hm_z := rn_iconst (w := 0) (am_cur_of (i := (54, 1, .iconst 0, (0, 0, 0), 0)) (by decide +kernel)) (by decide) hm_z
  replace hm_z := rn_iastore (N := 16) (q := 0) (am_cur_of (i := (55, 1, .iastore, (0, 0, 0), 0)) (by decide +kernel)) (by decide +kernel) rfl hm_z
  obtain ⟨p27_z, hm_z⟩ := hm_z
  replace hm_z := rn_aload_n (am_cur_of (i := (56, 1, .aload_n 0, (0, 0, 0), 0)) (by decide +kernel)) g0_z hm_z
  replace hm_z := rn_getR (x := 192) (am_cur_of (i := (57, 3, .getfield 97, (12, 54, 1438), 0)) (by decide +kernel)) (by decide +kernel) hm_z
  replace hm_z := rn_iconst (w := 4) (am_cur_of (i := (60, 1, .iconst 4, (0, 0, 0), 0)) (by decide +kernel)) (by decide) hm_z
  replace hm_z := rn_iload_n (am_cur_of (i := (61, 1, .iload_n 1, (0, 0, 0), 0)) (by decide +kernel)) g1_z hm_z
  replace hm_z := rn_imul (w := 0) (am_cur_of (i := (62, 1, .imul, (0, 0, 0), 0)) (by decide +kernel)) (by decide) hm_z
  replace hm_z := rn_iload_n (am_cur_of (i := (63, 1, .iload_n 2, (0, 0, 0), 0)) (by decide +kernel)) g2_z hm_z
  replace hm_z := rn_iadd (w := 0) (am_cur_of (i := (64, 1, .iadd, (0, 0, 0), 0)) (by decide +kernel)) (by decide) hm_z
  replace hm_z := rn_iconst (w := 0) (am_cur_of (i := (65, 1, .iconst 0, (0, 0, 0), 0)) (by decide +kernel)) (by decide) hm_z
  replace hm_z := rn_iastore (N := 16) (q := 0) (am_cur_of (i := (66, 1, .iastore, (0, 0, 0), 0)) (by decide +kernel)) (by decide +kernel) rfl hm_z
  obtain ⟨p28_z, hm_z⟩ := hm_z
  replace hm_z := rn_aload_n (am_cur_of (i := (67, 1, .aload_n 0, (0, 0, 0), 0)) (by decide +kernel)) g0_z hm_z
  replace hm_z := rn_getR (x := 193) (am_cur_of (i := (68, 3, .getfield 100, (12, 55, 1439), 0)) (by decide +kernel)) (by decide +kernel) hm_z
  replace hm_z := rn_iconst (w := 4) (am_cur_of (i := (71, 1, .iconst 4, (0, 0, 0), 0)) (by decide +kernel)) (by decide) hm_z
  replace hm_z := rn_iload_n (am_cur_of (i := (72, 1, .iload_n 1, (0, 0, 0), 0)) (by decide +kernel)) g1_z hm_z
  replace hm_z := rn_imul (w := 0) (am_cur_of (i := (73, 1, .imul, (0, 0, 0), 0)) (by decide +kernel)) (by decide) hm_z
  replace hm_z := rn_iload_n (am_cur_of (i := (74, 1, .iload_n 2, (0, 0, 0), 0)) (by decide +kernel)) g2_z hm_z
  replace hm_z := rn_iadd (w := 0) (am_cur_of (i := (75, 1, .iadd, (0, 0, 0), 0)) (by decide +kernel)) (by decide) hm_z
  replace hm_z := rn_iconst (w := 0) (am_cur_of (i := (76, 1, .iconst 0, (0, 0, 0), 0)) (by decide +kernel)) (by decide) hm_z
  replace hm_z := rn_iastore (N := 16) (q := 0) (am_cur_of (i := (77, 1, .iastore, (0, 0, 0), 0)) (by decide +kernel)) (by decide +kernel) rfl hm_z
  obtain ⟨p29_z, hm_z⟩ := hm_z
  replace hm_z := rn_iinc (w := 1) (am_cur_of (i := (78, 3, .iinc 2 1, (0, 0, 0), 0)) (by decide +kernel)) g2_z (by decide) hm_z
  obtain ⟨_, s30_z, s31_z, g2_z, hm_z⟩ := hm_z
  replace g0_z := s30_z 0 _ (by decide) rfl g0_z
  replace g1_z := s30_z 1 _ (by decide) rfl g1_z
  clear s30_z s31_z
  replace hm_z := rn_goto (am_cur_of (i := (81, 3, .goto (-41), (28, 0, 0), 0)) (by decide +kernel)) hm_z
  replace hm_z := rn_iload_n (am_cur_of (i := (40, 1, .iload_n 2, (0, 0, 0), 0)) (by decide +kernel)) g2_z hm_z
  replace hm_z := rn_iconst (w := 4) (am_cur_of (i := (41, 1, .iconst 4, (0, 0, 0), 0)) (by decide +kernel)) (by decide) hm_z
  replace hm_z := rn_cmpF (am_cur_of (i := (42, 3, .if_icmp .ge 42, (60, 0, 0), 0)) (by decide +kernel)) (by decide) hm_z
  replace hm_z := rn_aload_n (am_cur_of (i := (45, 1, .aload_n 0, (0, 0, 0), 0)) (by decide +kernel)) g0_z hm_z
  replace hm_z := rn_getR (x := 191) (am_cur_of (i := (46, 3, .getfield 94, (12, 53, 1437), 0)) (by decide +kernel)) (by decide +kernel) hm_z
  replace hm_z := rn_iconst (w := 4) (am_cur_of (i := (49, 1, .iconst 4, (0, 0, 0), 0)) (by decide +kernel)) (by decide) hm_z
  replace hm_z := rn_iload_n (am_cur_of (i := (50, 1, .iload_n 1, (0, 0, 0), 0)) (by decide +kernel)) g1_z hm_z
  replace hm_z := rn_imul (w := 0) (am_cur_of (i := (51, 1, .imul, (0, 0, 0), 0)) (by decide +kernel)) (by decide) hm_z
  replace hm_z := rn_iload_n (am_cur_of (i := (52, 1, .iload_n 2, (0, 0, 0), 0)) (by decide +kernel)) g2_z hm_z
  replace hm_z := rn_iadd (w := 1) (am_cur_of (i := (53, 1, .iadd, (0, 0, 0), 0)) (by decide +kernel)) (by decide) hm_z
  replace hm_z := rn_iconst (w := 0) (am_cur_of (i := (54, 1, .iconst 0, (0, 0, 0), 0)) (by decide +kernel)) (by decide) hm_z
  replace hm_z := rn_iastore (N := 16) (q := 1) (am_cur_of (i := (55, 1, .iastore, (0, 0, 0), 0)) (by decide +kernel)) (by decide +kernel) rfl hm_z
  obtain ⟨p32_z, hm_z⟩ := hm_z
  replace hm_z := rn_aload_n (am_cur_of (i := (56, 1, .aload_n 0, (0, 0, 0), 0)) (by decide +kernel)) g0_z hm_z
  replace hm_z := rn_getR (x := 192) (am_cur_of (i := (57, 3, .getfield 97, (12, 54, 1438), 0)) (by decide +kernel)) (by decide +kernel) hm_z
  replace hm_z := rn_iconst (w := 4) (am_cur_of (i := (60, 1, .iconst 4, (0, 0, 0), 0)) (by decide +kernel)) (by decide) hm_z
  replace hm_z := rn_iload_n (am_cur_of (i := (61, 1, .iload_n 1, (0, 0, 0), 0)) (by decide +kernel)) g1_z hm_z
  replace hm_z := rn_imul (w := 0) (am_cur_of (i := (62, 1, .imul, (0, 0, 0), 0)) (by decide +kernel)) (by decide) hm_z
  replace hm_z := rn_iload_n (am_cur_of (i := (63, 1, .iload_n 2, (0, 0, 0), 0)) (by decide +kernel)) g2_z hm_z
  replace hm_z := rn_iadd (w := 1) (am_cur_of (i := (64, 1, .iadd, (0, 0, 0), 0)) (by decide +kernel)) (by decide) hm_z
  replace hm_z := rn_iconst (w := 0) (am_cur_of (i := (65, 1, .iconst 0, (0, 0, 0), 0)) (by decide +kernel)) (by decide) hm_z
  replace hm_z := rn_iastore (N := 16) (q := 1) (am_cur_of (i := (66, 1, .iastore, (0, 0, 0), 0)) (by decide +kernel)) (by decide +kernel) rfl hm_z
  obtain ⟨p33_z, hm_z⟩ := hm_z
  replace hm_z := rn_aload_n (am_cur_of (i := (67, 1, .aload_n 0, (0, 0, 0), 0)) (by decide +kernel)) g0_z hm_z
  replace hm_z := rn_getR (x := 193) (am_cur_of (i := (68, 3, .getfield 100, (12, 55, 1439), 0)) (by decide +kernel)) (by decide +kernel) hm_z
  replace hm_z := rn_iconst (w := 4) (am_cur_of (i := (71, 1, .iconst 4, (0, 0, 0), 0)) (by decide +kernel)) (by decide) hm_z
  replace hm_z := rn_iload_n (am_cur_of (i := (72, 1, .iload_n 1, (0, 0, 0), 0)) (by decide +kernel)) g1_z hm_z
  replace hm_z := rn_imul (w := 0) (am_cur_of (i := (73, 1, .imul, (0, 0, 0), 0)) (by decide +kernel)) (by decide) hm_z
  replace hm_z := rn_iload_n (am_cur_of (i := (74, 1, .iload_n 2, (0, 0, 0), 0)) (by decide +kernel)) g2_z hm_z
  replace hm_z := rn_iadd (w := 1) (am_cur_of (i := (75, 1, .iadd, (0, 0, 0), 0)) (by decide +kernel)) (by decide) hm_z
  replace hm_z := rn_iconst (w := 0) (am_cur_of (i := (76, 1, .iconst 0, (0, 0, 0), 0)) (by decide +kernel)) (by decide) hm_z
  replace hm_z := rn_iastore (N := 16) (q := 1) (am_cur_of (i := (77, 1, .iastore, (0, 0, 0), 0)) (by decide +kernel)) (by decide +kernel) rfl hm_z
  obtain ⟨p34_z, hm_z⟩ := hm_z
  replace hm_z := rn_iinc (w := 2) (am_cur_of (i := (78, 3, .iinc 2 1, (0, 0, 0), 0)) (by decide +kernel)) g2_z (by decide) hm_z
  obtain ⟨_, s35_z, s36_z, g2_z, hm_z⟩ := hm_z
  replace g0_z := s35_z 0 _ (by decide) rfl g0_z
  replace g1_z := s35_z 1 _ (by decide) rfl g1_z
  clear s35_z s36_z
  replace hm_z := rn_goto (am_cur_of (i := (81, 3, .goto (-41), (28, 0, 0), 0)) (by decide +kernel)) hm_z
  replace hm_z := rn_iload_n (am_cur_of (i := (40, 1, .iload_n 2, (0, 0, 0), 0)) (by decide +kernel)) g2_z hm_z
  replace hm_z := rn_iconst (w := 4) (am_cur_of (i := (41, 1, .iconst 4, (0, 0, 0), 0)) (by decide +kernel)) (by decide) hm_z
  replace hm_z := rn_cmpF (am_cur_of (i := (42, 3, .if_icmp .ge 42, (60, 0, 0), 0)) (by decide +kernel)) (by decide) hm_z
  replace hm_z := rn_aload_n (am_cur_of (i := (45, 1, .aload_n 0, (0, 0, 0), 0)) (by decide +kernel)) g0_z hm_z
  replace hm_z := rn_getR (x := 191) (am_cur_of (i := (46, 3, .getfield 94, (12, 53, 1437), 0)) (by decide +kernel)) (by decide +kernel) hm_z
  replace hm_z := rn_iconst (w := 4) (am_cur_of (i := (49, 1, .iconst 4, (0, 0, 0), 0)) (by decide +kernel)) (by decide) hm_z
  replace hm_z := rn_iload_n (am_cur_of (i := (50, 1, .iload_n 1, (0, 0, 0), 0)) (by decide +kernel)) g1_z hm_z
  replace hm_z := rn_imul (w := 0) (am_cur_of (i := (51, 1, .imul, (0, 0, 0), 0)) (by decide +kernel)) (by decide) hm_z
  replace hm_z := rn_iload_n (am_cur_of (i := (52, 1, .iload_n 2, (0, 0, 0), 0)) (by decide +kernel)) g2_z hm_z
  replace hm_z := rn_iadd (w := 2) (am_cur_of (i := (53, 1, .iadd, (0, 0, 0), 0)) (by decide +kernel)) (by decide) hm_z
  replace hm_z := rn_iconst (w := 0) (am_cur_of (i := (54, 1, .iconst 0, (0, 0, 0), 0)) (by decide +kernel)) (by decide) hm_z
  replace hm_z := rn_iastore (N := 16) (q := 2) (am_cur_of (i := (55, 1, .iastore, (0, 0, 0), 0)) (by decide +kernel)) (by decide +kernel) rfl hm_z
  obtain ⟨p37_z, hm_z⟩ := hm_z
  replace hm_z := rn_aload_n (am_cur_of (i := (56, 1, .aload_n 0, (0, 0, 0), 0)) (by decide +kernel)) g0_z hm_z
  replace hm_z := rn_getR (x := 192) (am_cur_of (i := (57, 3, .getfield 97, (12, 54, 1438), 0)) (by decide +kernel)) (by decide +kernel) hm_z
  replace hm_z := rn_iconst (w := 4) (am_cur_of (i := (60, 1, .iconst 4, (0, 0, 0), 0)) (by decide +kernel)) (by decide) hm_z
  replace hm_z := rn_iload_n (am_cur_of (i := (61, 1, .iload_n 1, (0, 0, 0), 0)) (by decide +kernel)) g1_z hm_z
  replace hm_z := rn_imul (w := 0) (am_cur_of (i := (62, 1, .imul, (0, 0, 0), 0)) (by decide +kernel)) (by decide) hm_z
  replace hm_z := rn_iload_n (am_cur_of (i := (63, 1, .iload_n 2, (0, 0, 0), 0)) (by decide +kernel)) g2_z hm_z
  replace hm_z := rn_iadd (w := 2) (am_cur_of (i := (64, 1, .iadd, (0, 0, 0), 0)) (by decide +kernel)) (by decide) hm_z
  replace hm_z := rn_iconst (w := 0) (am_cur_of (i := (65, 1, .iconst 0, (0, 0, 0), 0)) (by decide +kernel)) (by decide) hm_z
  replace hm_z := rn_iastore (N := 16) (q := 2) (am_cur_of (i := (66, 1, .iastore, (0, 0, 0), 0)) (by decide +kernel)) (by decide +kernel) rfl hm_z
  obtain ⟨p38_z, hm_z⟩ := hm_z
  replace hm_z := rn_aload_n (am_cur_of (i := (67, 1, .aload_n 0, (0, 0, 0), 0)) (by decide +kernel)) g0_z hm_z
  replace hm_z := rn_getR (x := 193) (am_cur_of (i := (68, 3, .getfield 100, (12, 55, 1439), 0)) (by decide +kernel)) (by decide +kernel) hm_z
  replace hm_z := rn_iconst (w := 4) (am_cur_of (i := (71, 1, .iconst 4, (0, 0, 0), 0)) (by decide +kernel)) (by decide) hm_z
  replace hm_z := rn_iload_n (am_cur_of (i := (72, 1, .iload_n 1, (0, 0, 0), 0)) (by decide +kernel)) g1_z hm_z
  replace hm_z := rn_imul (w := 0) (am_cur_of (i := (73, 1, .imul, (0, 0, 0), 0)) (by decide +kernel)) (by decide) hm_z
  replace hm_z := rn_iload_n (am_cur_of (i := (74, 1, .iload_n 2, (0, 0, 0), 0)) (by decide +kernel)) g2_z hm_z
  replace hm_z := rn_iadd (w := 2) (am_cur_of (i := (75, 1, .iadd, (0, 0, 0), 0)) (by decide +kernel)) (by decide) hm_z
  replace hm_z := rn_iconst (w := 0) (am_cur_of (i := (76, 1, .iconst 0, (0, 0, 0), 0)) (by decide +kernel)) (by decide) hm_z
  replace hm_z := rn_iastore (N := 16) (q := 2) (am_cur_of (i := (77, 1, .iastore, (0, 0, 0), 0)) (by decide +kernel)) (by decide +kernel) rfl hm_z
  obtain ⟨p39_z, hm_z⟩ := hm_z
  replace hm_z := rn_iinc (w := 3) (am_cur_of (i := (78, 3, .iinc 2 1, (0, 0, 0), 0)) (by decide +kernel)) g2_z (by decide) hm_z
  obtain ⟨_, s40_z, s41_z, g2_z, hm_z⟩ := hm_z
  replace g0_z := s40_z 0 _ (by decide) rfl g0_z
  replace g1_z := s40_z 1 _ (by decide) rfl g1_z
  clear s40_z s41_z
  replace hm_z := rn_goto (am_cur_of (i := (81, 3, .goto (-41), (28, 0, 0), 0)) (by decide +kernel)) hm_z
  replace hm_z := rn_iload_n (am_cur_of (i := (40, 1, .iload_n 2, (0, 0, 0), 0)) (by decide +kernel)) g2_z hm_z
  replace hm_z := rn_iconst (w := 4) (am_cur_of (i := (41, 1, .iconst 4, (0, 0, 0), 0)) (by decide +kernel)) (by decide) hm_z
  replace hm_z := rn_cmpF (am_cur_of (i := (42, 3, .if_icmp .ge 42, (60, 0, 0), 0)) (by decide +kernel)) (by decide) hm_z
  replace hm_z := rn_aload_n (am_cur_of (i := (45, 1, .aload_n 0, (0, 0, 0), 0)) (by decide +kernel)) g0_z hm_z
  replace hm_z := rn_getR (x := 191) (am_cur_of (i := (46, 3, .getfield 94, (12, 53, 1437), 0)) (by decide +kernel)) (by decide +kernel) hm_z
  replace hm_z := rn_iconst (w := 4) (am_cur_of (i := (49, 1, .iconst 4, (0, 0, 0), 0)) (by decide +kernel)) (by decide) hm_z
  replace hm_z := rn_iload_n (am_cur_of (i := (50, 1, .iload_n 1, (0, 0, 0), 0)) (by decide +kernel)) g1_z hm_z
  replace hm_z := rn_imul (w := 0) (am_cur_of (i := (51, 1, .imul, (0, 0, 0), 0)) (by decide +kernel)) (by decide) hm_z
  replace hm_z := rn_iload_n (am_cur_of (i := (52, 1, .iload_n 2, (0, 0, 0), 0)) (by decide +kernel)) g2_z hm_z
  replace hm_z := rn_iadd (w := 3) (am_cur_of (i := (53, 1, .iadd, (0, 0, 0), 0)) (by decide +kernel)) (by decide) hm_z
  replace hm_z := rn_iconst (w := 0) (am_cur_of (i := (54, 1, .iconst 0, (0, 0, 0), 0)) (by decide +kernel)) (by decide) hm_z
  replace hm_z := rn_iastore (N := 16) (q := 3) (am_cur_of (i := (55, 1, .iastore, (0, 0, 0), 0)) (by decide +kernel)) (by decide +kernel) rfl hm_z
  obtain ⟨p42_z, hm_z⟩ := hm_z
  replace hm_z := rn_aload_n (am_cur_of (i := (56, 1, .aload_n 0, (0, 0, 0), 0)) (by decide +kernel)) g0_z hm_z
  replace hm_z := rn_getR (x := 192) (am_cur_of (i := (57, 3, .getfield 97, (12, 54, 1438), 0)) (by decide +kernel)) (by decide +kernel) hm_z
  replace hm_z := rn_iconst (w := 4) (am_cur_of (i := (60, 1, .iconst 4, (0, 0, 0), 0)) (by decide +kernel)) (by decide) hm_z
  replace hm_z := rn_iload_n (am_cur_of (i := (61, 1, .iload_n 1, (0, 0, 0), 0)) (by decide +kernel)) g1_z hm_z
  replace hm_z := rn_imul (w := 0) (am_cur_of (i := (62, 1, .imul, (0, 0, 0), 0)) (by decide +kernel)) (by decide) hm_z
  replace hm_z := rn_iload_n (am_cur_of (i := (63, 1, .iload_n 2, (0, 0, 0), 0)) (by decide +kernel)) g2_z hm_z
  replace hm_z := rn_iadd (w := 3) (am_cur_of (i := (64, 1, .iadd, (0, 0, 0), 0)) (by decide +kernel)) (by decide) hm_z
  replace hm_z := rn_iconst (w := 0) (am_cur_of (i := (65, 1, .iconst 0, (0, 0, 0), 0)) (by decide +kernel)) (by decide) hm_z
  replace hm_z := rn_iastore (N := 16) (q := 3) (am_cur_of (i := (66, 1, .iastore, (0, 0, 0), 0)) (by decide +kernel)) (by decide +kernel) rfl hm_z
  obtain ⟨p43_z, hm_z⟩ := hm_z
  replace hm_z := rn_aload_n (am_cur_of (i := (67, 1, .aload_n 0, (0, 0, 0), 0)) (by decide +kernel)) g0_z hm_z
  replace hm_z := rn_getR (x := 193) (am_cur_of (i := (68, 3, .getfield 100, (12, 55, 1439), 0)) (by decide +kernel)) (by decide +kernel) hm_z
  replace hm_z := rn_iconst (w := 4) (am_cur_of (i := (71, 1, .iconst 4, (0, 0, 0), 0)) (by decide +kernel)) (by decide) hm_z
  replace hm_z := rn_iload_n (am_cur_of (i := (72, 1, .iload_n 1, (0, 0, 0), 0)) (by decide +kernel)) g1_z hm_z
  replace hm_z := rn_imul (w := 0) (am_cur_of (i := (73, 1, .imul, (0, 0, 0), 0)) (by decide +kernel)) (by decide) hm_z
  replace hm_z := rn_iload_n (am_cur_of (i := (74, 1, .iload_n 2, (0, 0, 0), 0)) (by decide +kernel)) g2_z hm_z
  replace hm_z := rn_iadd (w := 3) (am_cur_of (i := (75, 1, .iadd, (0, 0, 0), 0)) (by decide +kernel)) (by decide) hm_z
  replace hm_z := rn_iconst (w := 0) (am_cur_of (i := (76, 1, .iconst 0, (0, 0, 0), 0)) (by decide +kernel)) (by decide) hm_z
  replace hm_z := rn_iastore (N := 16) (q := 3) (am_cur_of (i := (77, 1, .iastore, (0, 0, 0), 0)) (by decide +kernel)) (by decide +kernel) rfl hm_z
  obtain ⟨p44_z, hm_z⟩ := hm_z
  replace hm_z := rn_iinc (w := 4) (am_cur_of (i := (78, 3, .iinc 2 1, (0, 0, 0), 0)) (by decide +kernel)) g2_z (by decide) hm_z
  obtain ⟨_, s45_z, s46_z, g2_z, hm_z⟩ := hm_z
  replace g0_z := s45_z 0 _ (by decide) rfl g0_z
  replace g1_z := s45_z 1 _ (by decide) rfl g1_z
  clear s45_z s46_z
  replace hm_z := rn_goto (am_cur_of (i := (81, 3, .goto (-41), (28, 0, 0), 0)) (by decide +kernel)) hm_z
  replace hm_z := rn_iload_n (am_cur_of (i := (40, 1, .iload_n 2, (0, 0, 0), 0)) (by decide +kernel)) g2_z hm_z
  replace hm_z := rn_iconst (w := 4) (am_cur_of (i := (41, 1, .iconst 4, (0, 0, 0), 0)) (by decide +kernel)) (by decide) hm_z
  replace hm_z := rn_cmpT (am_cur_of (i := (42, 3, .if_icmp .ge 42, (60, 0, 0), 0)) (by decide +kernel)) (by decide) hm_z
  replace hm_z := rn_vret (am_cur_of (i := (84, 1, .return_, (0, 0, 0), 0)) (by decide +kernel)) hm_z
  obtain ⟨e47_z, e48_z⟩ := hm_z
  rw [e48_z]
  refine ⟨fun j j1_z j17_z => ?_, fun o q e => (up_ne (by omega)).trans ((up_ne (by omega)).trans ((up_ne (by omega)).trans ((up_ne (by omega)).trans ((up_ne (by omega)).trans ((up_ne (by omega)).trans ((up_ne (by omega)).trans ((up_ne (by omega)).trans ((up_ne (by omega)).trans ((up_ne (by omega)).trans ((up_ne (by omega)).trans ((up_ne (by omega)).trans ((up_ne (by omega)).trans ((up_ne (by omega)).trans ((up_ne (by omega)).trans ((up_ne (by omega)).trans (rfl))))))))))))))))⟩
  match j, j1_z, j17_z with
  | 1, _, _ => exact ((rg_v_other (by omega)).trans ((rg_v_other (by omega)).trans ((rg_v_other (by omega)).trans ((rg_v_other (by omega)).trans ((rg_v_other (by omega)).trans ((rg_v_other (by omega)).trans ((rg_v_other (by omega)).trans ((rg_v_other (by omega)).trans ((rg_v_other (by omega)).trans ((rg_v_other (by omega)).trans ((rg_v_other (by omega)).trans ((rg_v_other (by omega)).trans ((rg_v_other (by omega)).trans ((rg_v_other (by omega)).trans (rg_v_self)))))))))))))))
  | 2, _, _ => exact ((rg_v_other (by omega)).trans ((rg_v_other (by omega)).trans ((rg_v_other (by omega)).trans ((rg_v_other (by omega)).trans ((rg_v_other (by omega)).trans ((rg_v_other (by omega)).trans ((rg_v_other (by omega)).trans ((rg_v_other (by omega)).trans ((rg_v_other (by omega)).trans ((rg_v_other (by omega)).trans ((rg_v_other (by omega)).trans ((rg_v_other (by omega)).trans ((rg_v_other (by omega)).trans (rg_v_self))))))))))))))
  | 3, _, _ => exact ((rg_v_other (by omega)).trans ((rg_v_other (by omega)).trans ((rg_v_other (by omega)).trans ((rg_v_other (by omega)).trans ((rg_v_other (by omega)).trans ((rg_v_other (by omega)).trans ((rg_v_other (by omega)).trans ((rg_v_other (by omega)).trans ((rg_v_other (by omega)).trans ((rg_v_other (by omega)).trans ((rg_v_other (by omega)).trans ((rg_v_other (by omega)).trans (rg_v_self)))))))))))))
  | 4, _, _ => exact (((rg_v_other (by omega)).trans ((rg_v_other (by omega)).trans ((rg_v_other (by omega)).trans ((rg_v_other (by omega)).trans ((rg_v_other (by omega)).trans ((rg_v_other (by omega)).trans ((rg_v_other (by omega)).trans ((rg_v_other (by omega)).trans ((rg_v_other (by omega)).trans ((rg_v_other (by omega)).trans ((rg_v_other (by omega)).trans ((rg_v_other (by omega)).trans ((rg_v_other (by omega)).trans ((rg_v_other (by omega)).trans ((rg_v_other (by omega)).trans ((rg_v_other (by omega)).trans (rfl))))))))))))))))))
  | 5, _, _ => exact ((rg_v_other (by omega)).trans ((rg_v_other (by omega)).trans ((rg_v_other (by omega)).trans ((rg_v_other (by omega)).trans ((rg_v_other (by omega)).trans ((rg_v_other (by omega)).trans ((rg_v_other (by omega)).trans ((rg_v_other (by omega)).trans ((rg_v_other (by omega)).trans ((rg_v_other (by omega)).trans ((rg_v_other (by omega)).trans (rg_v_self))))))))))))
  | 6, _, _ => exact ((rg_v_other (by omega)).trans ((rg_v_other (by omega)).trans ((rg_v_other (by omega)).trans ((rg_v_other (by omega)).trans ((rg_v_other (by omega)).trans ((rg_v_other (by omega)).trans ((rg_v_other (by omega)).trans ((rg_v_other (by omega)).trans (rg_v_self)))))))))
  | 7, _, _ => exact ((rg_v_other (by omega)).trans ((rg_v_other (by omega)).trans ((rg_v_other (by omega)).trans ((rg_v_other (by omega)).trans ((rg_v_other (by omega)).trans (rg_v_self))))))
  | 8, _, _ => exact ((rg_v_other (by omega)).trans ((rg_v_other (by omega)).trans (rg_v_self)))
  | 9, _, _ => exact ((rg_v_other (by omega)).trans ((rg_v_other (by omega)).trans ((rg_v_other (by omega)).trans ((rg_v_other (by omega)).trans ((rg_v_other (by omega)).trans ((rg_v_other (by omega)).trans ((rg_v_other (by omega)).trans ((rg_v_other (by omega)).trans ((rg_v_other (by omega)).trans ((rg_v_other (by omega)).trans (rg_v_self)))))))))))
  | 10, _, _ => exact ((rg_v_other (by omega)).trans ((rg_v_other (by omega)).trans ((rg_v_other (by omega)).trans ((rg_v_other (by omega)).trans ((rg_v_other (by omega)).trans ((rg_v_other (by omega)).trans ((rg_v_other (by omega)).trans (rg_v_self))))))))
  | 11, _, _ => exact ((rg_v_other (by omega)).trans ((rg_v_other (by omega)).trans ((rg_v_other (by omega)).trans ((rg_v_other (by omega)).trans (rg_v_self)))))
  | 12, _, _ => exact ((rg_v_other (by omega)).trans (rg_v_self))
  | 13, _, _ => exact ((rg_v_other (by omega)).trans ((rg_v_other (by omega)).trans ((rg_v_other (by omega)).trans ((rg_v_other (by omega)).trans ((rg_v_other (by omega)).trans ((rg_v_other (by omega)).trans ((rg_v_other (by omega)).trans ((rg_v_other (by omega)).trans ((rg_v_other (by omega)).trans (rg_v_self))))))))))
  | 14, _, _ => exact ((rg_v_other (by omega)).trans ((rg_v_other (by omega)).trans ((rg_v_other (by omega)).trans ((rg_v_other (by omega)).trans ((rg_v_other (by omega)).trans ((rg_v_other (by omega)).trans (rg_v_self)))))))
  | 15, _, _ => exact ((rg_v_other (by omega)).trans ((rg_v_other (by omega)).trans ((rg_v_other (by omega)).trans (rg_v_self))))
  | 16, _, _ => exact rg_v_self
  | j + 17, _, h => omega
theorem sm_146 {n : Nat} {r : Option Value} {g g' : am_H} (hm_z : rn n am_m146 0 (lv_args 0 [.ref 164]) [] g r g') : rg_v g' 164 77 = 0 ∧ rg_v g' 164 79 = 0 ∧ rg_v g' 164 60 = 0 ∧ rg_v g' 164 61 = 0 ∧ rg_v g' 164 62 = -1 ∧ bF (mS g' 0) (rg_v g 168 3) := by
  have z0_z : (0 : Int32).toInt = 0 := by decide
  have g0_z : am_get (lv_args 0 [.ref 164]) 0 = some (.ref 164) := rfl
  replace hm_z := rn_aload_n (am_cur_of (i := (0, 1, .aload_n 0, (0, 0, 0), 0)) (by decide +kernel)) g0_z hm_z
  replace hm_z := rn_iconst (w := 0) (am_cur_of (i := (1, 1, .iconst 0, (0, 0, 0), 0)) (by decide +kernel)) (by decide) hm_z
  replace hm_z := rn_callV (M' := am_m147) (o := 164) (ar := [.int 0]) (rest := []) (L := lv_args 0 [.ref 164, .int 0]) (am_cur_of (i := (2, 3, .invokevirtual 346, (147, 1372, 3), 0)) (by decide +kernel)) rfl rfl rfl rfl hm_z
  obtain ⟨r49_z, h50_z, q51_z, hm_z⟩ := hm_z
  have vo := rn_void rfl q51_z
  subst vo
  obtain ⟨a1_z, a2_z⟩ := sm_147 q51_z
  have za := kt_147 q51_z
  have e3_z : rg_v h50_z 168 3 = rg_v g 168 3 := za 168 3 (by decide)
  replace hm_z : rn _ _ _ _ [] _ _ _ := hm_z
  replace hm_z := rn_aload_n (am_cur_of (i := (5, 1, .aload_n 0, (0, 0, 0), 0)) (by decide +kernel)) g0_z hm_z
  replace hm_z := rn_iconst (w := 0) (am_cur_of (i := (6, 1, .iconst 0, (0, 0, 0), 0)) (by decide +kernel)) (by decide) hm_z
  replace hm_z := rn_put (am_cur_of (i := (7, 3, .putfield 349, (12, 57, 1441), 0)) (by decide +kernel)) (by decide +kernel) hm_z
  replace hm_z := rn_aload_n (am_cur_of (i := (10, 1, .aload_n 0, (0, 0, 0), 0)) (by decide +kernel)) g0_z hm_z
  replace hm_z := rn_iconst (w := 0) (am_cur_of (i := (11, 1, .iconst 0, (0, 0, 0), 0)) (by decide +kernel)) (by decide) hm_z
  replace hm_z := rn_put (am_cur_of (i := (12, 3, .putfield 352, (12, 60, 1444), 0)) (by decide +kernel)) (by decide +kernel) hm_z
  replace hm_z := rn_aload_n (am_cur_of (i := (15, 1, .aload_n 0, (0, 0, 0), 0)) (by decide +kernel)) g0_z hm_z
  replace hm_z := rn_iconst (w := 0) (am_cur_of (i := (16, 1, .iconst 0, (0, 0, 0), 0)) (by decide +kernel)) (by decide) hm_z
  replace hm_z := rn_put (am_cur_of (i := (17, 3, .putfield 355, (12, 61, 1445), 0)) (by decide +kernel)) (by decide +kernel) hm_z
  replace hm_z := rn_aload_n (am_cur_of (i := (20, 1, .aload_n 0, (0, 0, 0), 0)) (by decide +kernel)) g0_z hm_z
  replace hm_z := rn_iconst (w := (-1)) (am_cur_of (i := (21, 1, .iconst (-1), (0, 0, 0), 0)) (by decide +kernel)) (by decide) hm_z
  replace hm_z := rn_put (am_cur_of (i := (22, 3, .putfield 106, (12, 62, 1446), 0)) (by decide +kernel)) (by decide +kernel) hm_z
  replace hm_z := rn_aload_n (am_cur_of (i := (25, 1, .aload_n 0, (0, 0, 0), 0)) (by decide +kernel)) g0_z hm_z
  replace hm_z := rn_aload_n (am_cur_of (i := (26, 1, .aload_n 0, (0, 0, 0), 0)) (by decide +kernel)) g0_z hm_z
  replace hm_z := rn_getR (x := 168) (am_cur_of (i := (27, 3, .getfield 24, (12, 23, 1407), 0)) (by decide +kernel)) (by decide +kernel) hm_z
  replace hm_z := rn_iconst (w := 5) (am_cur_of (i := (30, 1, .iconst 5, (0, 0, 0), 0)) (by decide +kernel)) (by decide) hm_z
  replace hm_z := rn_iaload (N := 12) (q := 5) (v := rg_v h50_z 168 5) (am_cur_of (i := (31, 1, .iaload, (0, 0, 0), 0)) (by decide +kernel)) (by decide +kernel) rfl ((rg_v_other (by omega)).trans ((rg_v_other (by omega)).trans ((rg_v_other (by omega)).trans ((rg_v_other (by omega)).trans (rfl))))) hm_z
  obtain ⟨p52_z, hm_z⟩ := hm_z
  replace hm_z := rn_i2l (w := (rg_v h50_z 168 5).toInt64) (am_cur_of (i := (32, 1, .i2l, (0, 0, 0), 0)) (by decide +kernel)) rfl hm_z
  replace hm_z := rn_put (am_cur_of (i := (33, 3, .putfield 358, (12, 59, 1443), 0)) (by decide +kernel)) (by decide +kernel) hm_z
  replace hm_z := rn_aload_n (am_cur_of (i := (36, 1, .aload_n 0, (0, 0, 0), 0)) (by decide +kernel)) g0_z hm_z
  replace hm_z := rn_iconst (w := (-1)) (am_cur_of (i := (37, 1, .iconst (-1), (0, 0, 0), 0)) (by decide +kernel)) (by decide) hm_z
  replace hm_z := rn_put (am_cur_of (i := (38, 3, .putfield 362, (12, 58, 1442), 0)) (by decide +kernel)) (by decide +kernel) hm_z
  replace hm_z := rn_aload_n (am_cur_of (i := (41, 1, .aload_n 0, (0, 0, 0), 0)) (by decide +kernel)) g0_z hm_z
  replace hm_z := rn_getI (v := rg_v h50_z 164 14) (am_cur_of (i := (42, 3, .getfield 225, (12, 14, 1398), 0)) (by decide +kernel)) (by decide +kernel) ((rg_v_other (by omega)).trans ((rg_v_other (by omega)).trans ((rg_v_other (by omega)).trans ((rg_v_other (by omega)).trans ((rg_v_other (by omega)).trans ((rg_v_other (by omega)).trans (rfl))))))) hm_z
  replace hm_z := rn_if (am_cur_of (i := (45, 3, .ifCond .le 79, (74, 0, 0), 0)) (by decide +kernel)) hm_z
  rcases hm_z with ⟨b53_z, hm_z⟩ | ⟨b53_z, hm_z⟩
  · replace b53_z : (rg_v h50_z 164 14).toInt ≤ (0 : Int32).toInt := b53_z
    obtain ⟨e1_z, e2_z, e5_z⟩ := sm_e g0_z hm_z
    have ev_z : ∀ o q, ((188 ≤ o ∧ o ≤ 194) ∨ (o = 164 ∧ (q = 57 ∨ q = 60 ∨ q = 61 ∨ q = 62))) → rg_v g' o q = rg_v (am_up (am_up (am_up (am_up (am_up (am_up h50_z 164 57 (.int 0)) 164 60 (.int 0)) 164 61 (.int 0)) 164 62 (.int (-1))) 164 59 (.long ((rg_v h50_z 168 5).toInt64))) 164 58 (.int (-1))) o q := by
      intro o q e
      unfold rg_v
      rw [e5_z o q e]
    refine ⟨e1_z, e2_z, (ev_z 164 60 (by omega)).trans (((rg_v_other (by omega)).trans ((rg_v_other (by omega)).trans ((rg_v_other (by omega)).trans ((rg_v_other (by omega)).trans (rg_v_self)))))), (ev_z 164 61 (by omega)).trans (((rg_v_other (by omega)).trans ((rg_v_other (by omega)).trans ((rg_v_other (by omega)).trans (rg_v_self))))), (ev_z 164 62 (by omega)).trans (((rg_v_other (by omega)).trans ((rg_v_other (by omega)).trans (rg_v_self)))), fun j j1_z j17_z => ?_⟩
    by_cases j4_z : j = 4
    · rw [j4_z]
      exact (ev_z 164 57 (by omega)).trans (((rg_v_other (by omega)).trans ((rg_v_other (by omega)).trans ((rg_v_other (by omega)).trans ((rg_v_other (by omega)).trans ((rg_v_other (by omega)).trans (rg_v_self)))))))
    · refine Eq.trans (mS_57 (fun o q e => (e5_z o q (by omega)).trans ((up_ne (by omega)).trans ((up_ne (by omega)).trans ((up_ne (by omega)).trans ((up_ne (by omega)).trans ((up_ne (by omega)).trans ((up_ne (by omega)).trans (rfl)))))))) j4_z) ((a1_z j j1_z j17_z).trans ?_)
      by_cases c2_z : j = 2
      · rw [if_pos c2_z, if_pos c2_z]
      · rw [if_neg c2_z, if_neg c2_z]
        by_cases c3_z : j = 3
        · rw [if_pos c3_z, if_pos c3_z]
        · rw [if_neg c3_z, if_neg c3_z, if_neg j4_z]
  · replace b53_z : (0 : Int32).toInt < (rg_v h50_z 164 14).toInt := b53_z
    replace hm_z := rn_iconst (w := 0) (am_cur_of (i := (48, 1, .iconst 0, (0, 0, 0), 0)) (by decide +kernel)) (by decide) hm_z
    replace hm_z := rn_istore_n (am_cur_of (i := (49, 1, .istore_n 1, (0, 0, 0), 0)) (by decide +kernel)) hm_z
    obtain ⟨_, s54_z, s55_z, g1_z, hm_z⟩ := hm_z
    replace g0_z := s54_z 0 _ (by decide) rfl g0_z
    clear s54_z s55_z
    replace hm_z := rn_iconst (w := 0) (am_cur_of (i := (50, 1, .iconst 0, (0, 0, 0), 0)) (by decide +kernel)) (by decide) hm_z
    replace hm_z := rn_istore_n (am_cur_of (i := (51, 1, .istore_n 2, (0, 0, 0), 0)) (by decide +kernel)) hm_z
    obtain ⟨_, s56_z, s57_z, g2_z, hm_z⟩ := hm_z
    replace g0_z := s56_z 0 _ (by decide) rfl g0_z
    replace g1_z := s56_z 1 _ (by decide) rfl g1_z
    clear s56_z s57_z
    obtain ⟨e1_z, e2_z, e5_z⟩ := sm_s _ _ _ _ _ g0_z g1_z g2_z hm_z
    have ev_z : ∀ o q, ((188 ≤ o ∧ o ≤ 194) ∨ (o = 164 ∧ (q = 57 ∨ q = 60 ∨ q = 61 ∨ q = 62))) → rg_v g' o q = rg_v (am_up (am_up (am_up (am_up (am_up (am_up h50_z 164 57 (.int 0)) 164 60 (.int 0)) 164 61 (.int 0)) 164 62 (.int (-1))) 164 59 (.long ((rg_v h50_z 168 5).toInt64))) 164 58 (.int (-1))) o q := by
      intro o q e
      unfold rg_v
      rw [e5_z o q e]
    refine ⟨e1_z, e2_z, (ev_z 164 60 (by omega)).trans (((rg_v_other (by omega)).trans ((rg_v_other (by omega)).trans ((rg_v_other (by omega)).trans ((rg_v_other (by omega)).trans (rg_v_self)))))), (ev_z 164 61 (by omega)).trans (((rg_v_other (by omega)).trans ((rg_v_other (by omega)).trans ((rg_v_other (by omega)).trans (rg_v_self))))), (ev_z 164 62 (by omega)).trans (((rg_v_other (by omega)).trans ((rg_v_other (by omega)).trans (rg_v_self)))), fun j j1_z j17_z => ?_⟩
    by_cases j4_z : j = 4
    · rw [j4_z]
      exact (ev_z 164 57 (by omega)).trans (((rg_v_other (by omega)).trans ((rg_v_other (by omega)).trans ((rg_v_other (by omega)).trans ((rg_v_other (by omega)).trans ((rg_v_other (by omega)).trans (rg_v_self)))))))
    · refine Eq.trans (mS_57 (fun o q e => (e5_z o q (by omega)).trans ((up_ne (by omega)).trans ((up_ne (by omega)).trans ((up_ne (by omega)).trans ((up_ne (by omega)).trans ((up_ne (by omega)).trans ((up_ne (by omega)).trans (rfl)))))))) j4_z) ((a1_z j j1_z j17_z).trans ?_)
      by_cases c2_z : j = 2
      · rw [if_pos c2_z, if_pos c2_z]
      · rw [if_neg c2_z, if_neg c2_z]
        by_cases c3_z : j = 3
        · rw [if_pos c3_z, if_pos c3_z]
        · rw [if_neg c3_z, if_neg c3_z, if_neg j4_z]
theorem sm_144 {n : Nat} {r : Option Value} {g g' : am_H} (hm_z : rn n am_m144 0 (lv_args 0 [.ref 164]) [] g r g') : rg_v g' 164 77 = 0 ∧ rg_v g' 164 79 = 0 ∧ rg_v g' 164 60 = 0 ∧ rg_v g' 164 61 = 0 ∧ rg_v g' 164 62 = -1 ∧ bF (mS g' 0) (rg_v g' 168 3) := by
  have g0_z : am_get (lv_args 0 [.ref 164]) 0 = some (.ref 164) := rfl
  replace hm_z := rn_aload_n (am_cur_of (i := (0, 1, .aload_n 0, (0, 0, 0), 0)) (by decide +kernel)) g0_z hm_z
  replace hm_z := rn_aload_n (am_cur_of (i := (1, 1, .aload_n 0, (0, 0, 0), 0)) (by decide +kernel)) g0_z hm_z
  replace hm_z := rn_getI (v := rg_v g 164 17) (am_cur_of (i := (2, 3, .getfield 201, (12, 17, 1401), 0)) (by decide +kernel)) (by decide +kernel) rfl hm_z
  replace hm_z := rn_put (am_cur_of (i := (5, 3, .putfield 219, (12, 12, 1396), 0)) (by decide +kernel)) (by decide +kernel) hm_z
  replace hm_z := rn_aload_n (am_cur_of (i := (8, 1, .aload_n 0, (0, 0, 0), 0)) (by decide +kernel)) g0_z hm_z
  replace hm_z := rn_aload_n (am_cur_of (i := (9, 1, .aload_n 0, (0, 0, 0), 0)) (by decide +kernel)) g0_z hm_z
  replace hm_z := rn_getI (v := rg_v g 164 18) (am_cur_of (i := (10, 3, .getfield 204, (12, 18, 1402), 0)) (by decide +kernel)) (by decide +kernel) (show rg_v (am_up g 164 12 (.int (rg_v g 164 17))) 164 18 = rg_v g 164 18 from rfl) hm_z
  replace hm_z := rn_put (am_cur_of (i := (13, 3, .putfield 222, (12, 13, 1397), 0)) (by decide +kernel)) (by decide +kernel) hm_z
  replace hm_z := rn_aload_n (am_cur_of (i := (16, 1, .aload_n 0, (0, 0, 0), 0)) (by decide +kernel)) g0_z hm_z
  replace hm_z := rn_aload_n (am_cur_of (i := (17, 1, .aload_n 0, (0, 0, 0), 0)) (by decide +kernel)) g0_z hm_z
  replace hm_z := rn_getI (v := rg_v g 164 19) (am_cur_of (i := (18, 3, .getfield 207, (12, 19, 1403), 0)) (by decide +kernel)) (by decide +kernel) (show rg_v (am_up (am_up g 164 12 (.int (rg_v g 164 17))) 164 13 (.int (rg_v g 164 18))) 164 19 = rg_v g 164 19 from rfl) hm_z
  replace hm_z := rn_put (am_cur_of (i := (21, 3, .putfield 225, (12, 14, 1398), 0)) (by decide +kernel)) (by decide +kernel) hm_z
  replace hm_z := rn_aload_n (am_cur_of (i := (24, 1, .aload_n 0, (0, 0, 0), 0)) (by decide +kernel)) g0_z hm_z
  replace hm_z := rn_aload_n (am_cur_of (i := (25, 1, .aload_n 0, (0, 0, 0), 0)) (by decide +kernel)) g0_z hm_z
  replace hm_z := rn_getI (v := rg_v g 164 20) (am_cur_of (i := (26, 3, .getfield 210, (12, 20, 1404), 0)) (by decide +kernel)) (by decide +kernel) (show rg_v (am_up (am_up (am_up g 164 12 (.int (rg_v g 164 17))) 164 13 (.int (rg_v g 164 18))) 164 14 (.int (rg_v g 164 19))) 164 20 = rg_v g 164 20 from rfl) hm_z
  replace hm_z := rn_put (am_cur_of (i := (29, 3, .putfield 228, (12, 15, 1399), 0)) (by decide +kernel)) (by decide +kernel) hm_z
  replace hm_z := rn_aload_n (am_cur_of (i := (32, 1, .aload_n 0, (0, 0, 0), 0)) (by decide +kernel)) g0_z hm_z
  replace hm_z := rn_aload_n (am_cur_of (i := (33, 1, .aload_n 0, (0, 0, 0), 0)) (by decide +kernel)) g0_z hm_z
  replace hm_z := rn_getI (v := rg_v g 164 21) (am_cur_of (i := (34, 3, .getfield 213, (12, 21, 1405), 0)) (by decide +kernel)) (by decide +kernel) (show rg_v (am_up (am_up (am_up (am_up g 164 12 (.int (rg_v g 164 17))) 164 13 (.int (rg_v g 164 18))) 164 14 (.int (rg_v g 164 19))) 164 15 (.int (rg_v g 164 20))) 164 21 = rg_v g 164 21 from rfl) hm_z
  replace hm_z := rn_put (am_cur_of (i := (37, 3, .putfield 231, (12, 16, 1400), 0)) (by decide +kernel)) (by decide +kernel) hm_z
  replace hm_z := rn_aload_n (am_cur_of (i := (40, 1, .aload_n 0, (0, 0, 0), 0)) (by decide +kernel)) g0_z hm_z
  replace hm_z := rn_getR (x := 168) (am_cur_of (i := (41, 3, .getfield 24, (12, 23, 1407), 0)) (by decide +kernel)) (by decide +kernel) hm_z
  replace hm_z := rn_bipush (w := 6) (am_cur_of (i := (44, 2, .bipush 6, (0, 0, 0), 0)) (by decide +kernel)) (by decide) hm_z
  replace hm_z := rn_callS (M' := am_m145) (ar := [.int 6, .ref 168]) (rest := []) (L := lv_args 0 [.ref 168, .int 6]) (am_cur_of (i := (46, 3, .invokestatic 234, (145, 1365, 3), 0)) (by decide +kernel)) rfl rfl rfl rfl hm_z
  obtain ⟨r58_z, h59_z, q60_z, hm_z⟩ := hm_z
  have vo := rn_void rfl q60_z
  subst vo
  clear q60_z
  replace hm_z : rn _ _ _ _ [] _ _ _ := hm_z
  replace hm_z := rn_aload_n (am_cur_of (i := (49, 1, .aload_n 0, (0, 0, 0), 0)) (by decide +kernel)) g0_z hm_z
  replace hm_z := rn_getR (x := 169) (am_cur_of (i := (50, 3, .getfield 27, (12, 24, 1408), 0)) (by decide +kernel)) (by decide +kernel) hm_z
  replace hm_z := rn_iconst (w := 4) (am_cur_of (i := (53, 1, .iconst 4, (0, 0, 0), 0)) (by decide +kernel)) (by decide) hm_z
  replace hm_z := rn_callS (M' := am_m145) (ar := [.int 4, .ref 169]) (rest := []) (L := lv_args 0 [.ref 169, .int 4]) (am_cur_of (i := (54, 3, .invokestatic 234, (145, 1365, 3), 0)) (by decide +kernel)) rfl rfl rfl rfl hm_z
  obtain ⟨r61_z, h62_z, q63_z, hm_z⟩ := hm_z
  have vo := rn_void rfl q63_z
  subst vo
  clear q63_z
  replace hm_z : rn _ _ _ _ [] _ _ _ := hm_z
  replace hm_z := rn_aload_n (am_cur_of (i := (57, 1, .aload_n 0, (0, 0, 0), 0)) (by decide +kernel)) g0_z hm_z
  replace hm_z := rn_getR (x := 170) (am_cur_of (i := (58, 3, .getfield 30, (12, 25, 1409), 0)) (by decide +kernel)) (by decide +kernel) hm_z
  replace hm_z := rn_bipush (w := 28) (am_cur_of (i := (61, 2, .bipush 28, (0, 0, 0), 0)) (by decide +kernel)) (by decide) hm_z
  replace hm_z := rn_callS (M' := am_m145) (ar := [.int 28, .ref 170]) (rest := []) (L := lv_args 0 [.ref 170, .int 28]) (am_cur_of (i := (63, 3, .invokestatic 234, (145, 1365, 3), 0)) (by decide +kernel)) rfl rfl rfl rfl hm_z
  obtain ⟨r64_z, h65_z, q66_z, hm_z⟩ := hm_z
  have vo := rn_void rfl q66_z
  subst vo
  clear q66_z
  replace hm_z : rn _ _ _ _ [] _ _ _ := hm_z
  replace hm_z := rn_aload_n (am_cur_of (i := (66, 1, .aload_n 0, (0, 0, 0), 0)) (by decide +kernel)) g0_z hm_z
  replace hm_z := rn_getR (x := 171) (am_cur_of (i := (67, 3, .getfield 33, (12, 26, 1410), 0)) (by decide +kernel)) (by decide +kernel) hm_z
  replace hm_z := rn_bipush (w := 8) (am_cur_of (i := (70, 2, .bipush 8, (0, 0, 0), 0)) (by decide +kernel)) (by decide) hm_z
  replace hm_z := rn_callS (M' := am_m145) (ar := [.int 8, .ref 171]) (rest := []) (L := lv_args 0 [.ref 171, .int 8]) (am_cur_of (i := (72, 3, .invokestatic 234, (145, 1365, 3), 0)) (by decide +kernel)) rfl rfl rfl rfl hm_z
  obtain ⟨r67_z, h68_z, q69_z, hm_z⟩ := hm_z
  have vo := rn_void rfl q69_z
  subst vo
  clear q69_z
  replace hm_z : rn _ _ _ _ [] _ _ _ := hm_z
  replace hm_z := rn_aload_n (am_cur_of (i := (75, 1, .aload_n 0, (0, 0, 0), 0)) (by decide +kernel)) g0_z hm_z
  replace hm_z := rn_getR (x := 172) (am_cur_of (i := (76, 3, .getfield 36, (12, 27, 1411), 0)) (by decide +kernel)) (by decide +kernel) hm_z
  replace hm_z := rn_bipush (w := 8) (am_cur_of (i := (79, 2, .bipush 8, (0, 0, 0), 0)) (by decide +kernel)) (by decide) hm_z
  replace hm_z := rn_callS (M' := am_m145) (ar := [.int 8, .ref 172]) (rest := []) (L := lv_args 0 [.ref 172, .int 8]) (am_cur_of (i := (81, 3, .invokestatic 234, (145, 1365, 3), 0)) (by decide +kernel)) rfl rfl rfl rfl hm_z
  obtain ⟨r70_z, h71_z, q72_z, hm_z⟩ := hm_z
  have vo := rn_void rfl q72_z
  subst vo
  clear q72_z
  replace hm_z : rn _ _ _ _ [] _ _ _ := hm_z
  replace hm_z := rn_aload_n (am_cur_of (i := (84, 1, .aload_n 0, (0, 0, 0), 0)) (by decide +kernel)) g0_z hm_z
  replace hm_z := rn_getR (x := 173) (am_cur_of (i := (85, 3, .getfield 39, (12, 28, 1412), 0)) (by decide +kernel)) (by decide +kernel) hm_z
  replace hm_z := rn_bipush (w := 6) (am_cur_of (i := (88, 2, .bipush 6, (0, 0, 0), 0)) (by decide +kernel)) (by decide) hm_z
  replace hm_z := rn_callS (M' := am_m145) (ar := [.int 6, .ref 173]) (rest := []) (L := lv_args 0 [.ref 173, .int 6]) (am_cur_of (i := (90, 3, .invokestatic 234, (145, 1365, 3), 0)) (by decide +kernel)) rfl rfl rfl rfl hm_z
  obtain ⟨r73_z, h74_z, q75_z, hm_z⟩ := hm_z
  have vo := rn_void rfl q75_z
  subst vo
  clear q75_z
  replace hm_z : rn _ _ _ _ [] _ _ _ := hm_z
  replace hm_z := rn_aload_n (am_cur_of (i := (93, 1, .aload_n 0, (0, 0, 0), 0)) (by decide +kernel)) g0_z hm_z
  replace hm_z := rn_getR (x := 174) (am_cur_of (i := (94, 3, .getfield 42, (12, 29, 1413), 0)) (by decide +kernel)) (by decide +kernel) hm_z
  replace hm_z := rn_bipush (w := 6) (am_cur_of (i := (97, 2, .bipush 6, (0, 0, 0), 0)) (by decide +kernel)) (by decide) hm_z
  replace hm_z := rn_callS (M' := am_m145) (ar := [.int 6, .ref 174]) (rest := []) (L := lv_args 0 [.ref 174, .int 6]) (am_cur_of (i := (99, 3, .invokestatic 234, (145, 1365, 3), 0)) (by decide +kernel)) rfl rfl rfl rfl hm_z
  obtain ⟨r76_z, h77_z, q78_z, hm_z⟩ := hm_z
  have vo := rn_void rfl q78_z
  subst vo
  clear q78_z
  replace hm_z : rn _ _ _ _ [] _ _ _ := hm_z
  replace hm_z := rn_aload_n (am_cur_of (i := (102, 1, .aload_n 0, (0, 0, 0), 0)) (by decide +kernel)) g0_z hm_z
  replace hm_z := rn_getR (x := 175) (am_cur_of (i := (103, 3, .getfield 45, (12, 30, 1414), 0)) (by decide +kernel)) (by decide +kernel) hm_z
  replace hm_z := rn_iconst (w := 3) (am_cur_of (i := (106, 1, .iconst 3, (0, 0, 0), 0)) (by decide +kernel)) (by decide) hm_z
  replace hm_z := rn_callS (M' := am_m145) (ar := [.int 3, .ref 175]) (rest := []) (L := lv_args 0 [.ref 175, .int 3]) (am_cur_of (i := (107, 3, .invokestatic 234, (145, 1365, 3), 0)) (by decide +kernel)) rfl rfl rfl rfl hm_z
  obtain ⟨r79_z, h80_z, q81_z, hm_z⟩ := hm_z
  have vo := rn_void rfl q81_z
  subst vo
  clear q81_z
  replace hm_z : rn _ _ _ _ [] _ _ _ := hm_z
  replace hm_z := rn_aload_n (am_cur_of (i := (110, 1, .aload_n 0, (0, 0, 0), 0)) (by decide +kernel)) g0_z hm_z
  replace hm_z := rn_getR (x := 176) (am_cur_of (i := (111, 3, .getfield 48, (12, 31, 1415), 0)) (by decide +kernel)) (by decide +kernel) hm_z
  replace hm_z := rn_iconst (w := 3) (am_cur_of (i := (114, 1, .iconst 3, (0, 0, 0), 0)) (by decide +kernel)) (by decide) hm_z
  replace hm_z := rn_callS (M' := am_m145) (ar := [.int 3, .ref 176]) (rest := []) (L := lv_args 0 [.ref 176, .int 3]) (am_cur_of (i := (115, 3, .invokestatic 234, (145, 1365, 3), 0)) (by decide +kernel)) rfl rfl rfl rfl hm_z
  obtain ⟨r82_z, h83_z, q84_z, hm_z⟩ := hm_z
  have vo := rn_void rfl q84_z
  subst vo
  clear q84_z
  replace hm_z : rn _ _ _ _ [] _ _ _ := hm_z
  replace hm_z := rn_aload_n (am_cur_of (i := (118, 1, .aload_n 0, (0, 0, 0), 0)) (by decide +kernel)) g0_z hm_z
  replace hm_z := rn_getR (x := 177) (am_cur_of (i := (119, 3, .getfield 51, (12, 32, 1416), 0)) (by decide +kernel)) (by decide +kernel) hm_z
  replace hm_z := rn_iconst (w := 3) (am_cur_of (i := (122, 1, .iconst 3, (0, 0, 0), 0)) (by decide +kernel)) (by decide) hm_z
  replace hm_z := rn_callS (M' := am_m145) (ar := [.int 3, .ref 177]) (rest := []) (L := lv_args 0 [.ref 177, .int 3]) (am_cur_of (i := (123, 3, .invokestatic 234, (145, 1365, 3), 0)) (by decide +kernel)) rfl rfl rfl rfl hm_z
  obtain ⟨r85_z, h86_z, q87_z, hm_z⟩ := hm_z
  have vo := rn_void rfl q87_z
  subst vo
  clear q87_z
  replace hm_z : rn _ _ _ _ [] _ _ _ := hm_z
  replace hm_z := rn_iconst (w := 0) (am_cur_of (i := (126, 1, .iconst 0, (0, 0, 0), 0)) (by decide +kernel)) (by decide) hm_z
  replace hm_z := rn_istore_n (am_cur_of (i := (127, 1, .istore_n 1, (0, 0, 0), 0)) (by decide +kernel)) hm_z
  obtain ⟨_, s88_z, s89_z, g1_z, hm_z⟩ := hm_z
  replace g0_z := s88_z 0 _ (by decide) rfl g0_z
  clear s88_z s89_z
  replace hm_z := rn_iload_n (am_cur_of (i := (128, 1, .iload_n 1, (0, 0, 0), 0)) (by decide +kernel)) g1_z hm_z
  replace hm_z := rn_iconst (w := 3) (am_cur_of (i := (129, 1, .iconst 3, (0, 0, 0), 0)) (by decide +kernel)) (by decide) hm_z
  replace hm_z := rn_cmpF (am_cur_of (i := (130, 3, .if_icmp .ge 23, (77, 0, 0), 0)) (by decide +kernel)) (by decide) hm_z
  replace hm_z := rn_aload_n (am_cur_of (i := (133, 1, .aload_n 0, (0, 0, 0), 0)) (by decide +kernel)) g0_z hm_z
  replace hm_z := rn_getR (x := 178) (am_cur_of (i := (134, 3, .getfield 54, (12, 33, 1417), 0)) (by decide +kernel)) (by decide +kernel) hm_z
  replace hm_z := rn_iload_n (am_cur_of (i := (137, 1, .iload_n 1, (0, 0, 0), 0)) (by decide +kernel)) g1_z hm_z
  replace hm_z := rn_aload_n (am_cur_of (i := (138, 1, .aload_n 0, (0, 0, 0), 0)) (by decide +kernel)) g0_z hm_z
  replace hm_z := rn_getR (x := 178) (am_cur_of (i := (139, 3, .getfield 54, (12, 33, 1417), 0)) (by decide +kernel)) (by decide +kernel) hm_z
  replace hm_z := rn_iconst (w := 3) (am_cur_of (i := (142, 1, .iconst 3, (0, 0, 0), 0)) (by decide +kernel)) (by decide) hm_z
  replace hm_z := rn_iload_n (am_cur_of (i := (143, 1, .iload_n 1, (0, 0, 0), 0)) (by decide +kernel)) g1_z hm_z
  replace hm_z := rn_iadd (w := 3) (am_cur_of (i := (144, 1, .iadd, (0, 0, 0), 0)) (by decide +kernel)) (by decide) hm_z
  replace hm_z := rn_baload (N := 6) (q := 3) (v := rg_v h86_z 178 3) (am_cur_of (i := (145, 1, .baload, (0, 0, 0), 0)) (by decide +kernel)) (by decide +kernel) rfl rfl hm_z
  obtain ⟨p90_z, hm_z⟩ := hm_z
  replace hm_z := rn_bastore (N := 6) (q := 0) (am_cur_of (i := (146, 1, .bastore, (0, 0, 0), 0)) (by decide +kernel)) (by decide +kernel) rfl hm_z
  obtain ⟨p91_z, hm_z⟩ := hm_z
  replace hm_z := rn_iinc (w := 1) (am_cur_of (i := (147, 3, .iinc 1 1, (0, 0, 0), 0)) (by decide +kernel)) g1_z (by decide) hm_z
  obtain ⟨_, s92_z, s93_z, g1_z, hm_z⟩ := hm_z
  replace g0_z := s92_z 0 _ (by decide) rfl g0_z
  clear s92_z s93_z
  replace hm_z := rn_goto (am_cur_of (i := (150, 3, .goto (-22), (62, 0, 0), 0)) (by decide +kernel)) hm_z
  replace hm_z := rn_iload_n (am_cur_of (i := (128, 1, .iload_n 1, (0, 0, 0), 0)) (by decide +kernel)) g1_z hm_z
  replace hm_z := rn_iconst (w := 3) (am_cur_of (i := (129, 1, .iconst 3, (0, 0, 0), 0)) (by decide +kernel)) (by decide) hm_z
  replace hm_z := rn_cmpF (am_cur_of (i := (130, 3, .if_icmp .ge 23, (77, 0, 0), 0)) (by decide +kernel)) (by decide) hm_z
  replace hm_z := rn_aload_n (am_cur_of (i := (133, 1, .aload_n 0, (0, 0, 0), 0)) (by decide +kernel)) g0_z hm_z
  replace hm_z := rn_getR (x := 178) (am_cur_of (i := (134, 3, .getfield 54, (12, 33, 1417), 0)) (by decide +kernel)) (by decide +kernel) hm_z
  replace hm_z := rn_iload_n (am_cur_of (i := (137, 1, .iload_n 1, (0, 0, 0), 0)) (by decide +kernel)) g1_z hm_z
  replace hm_z := rn_aload_n (am_cur_of (i := (138, 1, .aload_n 0, (0, 0, 0), 0)) (by decide +kernel)) g0_z hm_z
  replace hm_z := rn_getR (x := 178) (am_cur_of (i := (139, 3, .getfield 54, (12, 33, 1417), 0)) (by decide +kernel)) (by decide +kernel) hm_z
  replace hm_z := rn_iconst (w := 3) (am_cur_of (i := (142, 1, .iconst 3, (0, 0, 0), 0)) (by decide +kernel)) (by decide) hm_z
  replace hm_z := rn_iload_n (am_cur_of (i := (143, 1, .iload_n 1, (0, 0, 0), 0)) (by decide +kernel)) g1_z hm_z
  replace hm_z := rn_iadd (w := 4) (am_cur_of (i := (144, 1, .iadd, (0, 0, 0), 0)) (by decide +kernel)) (by decide) hm_z
  replace hm_z := rn_baload (N := 6) (q := 4) (v := rg_v h86_z 178 4) (am_cur_of (i := (145, 1, .baload, (0, 0, 0), 0)) (by decide +kernel)) (by decide +kernel) rfl (show rg_v (am_up h86_z 178 0 (.int (rg_v h86_z 178 3))) 178 4 = rg_v h86_z 178 4 from rfl) hm_z
  obtain ⟨p94_z, hm_z⟩ := hm_z
  replace hm_z := rn_bastore (N := 6) (q := 1) (am_cur_of (i := (146, 1, .bastore, (0, 0, 0), 0)) (by decide +kernel)) (by decide +kernel) rfl hm_z
  obtain ⟨p95_z, hm_z⟩ := hm_z
  replace hm_z := rn_iinc (w := 2) (am_cur_of (i := (147, 3, .iinc 1 1, (0, 0, 0), 0)) (by decide +kernel)) g1_z (by decide) hm_z
  obtain ⟨_, s96_z, s97_z, g1_z, hm_z⟩ := hm_z
  replace g0_z := s96_z 0 _ (by decide) rfl g0_z
  clear s96_z s97_z
  replace hm_z := rn_goto (am_cur_of (i := (150, 3, .goto (-22), (62, 0, 0), 0)) (by decide +kernel)) hm_z
  replace hm_z := rn_iload_n (am_cur_of (i := (128, 1, .iload_n 1, (0, 0, 0), 0)) (by decide +kernel)) g1_z hm_z
  replace hm_z := rn_iconst (w := 3) (am_cur_of (i := (129, 1, .iconst 3, (0, 0, 0), 0)) (by decide +kernel)) (by decide) hm_z
  replace hm_z := rn_cmpF (am_cur_of (i := (130, 3, .if_icmp .ge 23, (77, 0, 0), 0)) (by decide +kernel)) (by decide) hm_z
  replace hm_z := rn_aload_n (am_cur_of (i := (133, 1, .aload_n 0, (0, 0, 0), 0)) (by decide +kernel)) g0_z hm_z
  replace hm_z := rn_getR (x := 178) (am_cur_of (i := (134, 3, .getfield 54, (12, 33, 1417), 0)) (by decide +kernel)) (by decide +kernel) hm_z
  replace hm_z := rn_iload_n (am_cur_of (i := (137, 1, .iload_n 1, (0, 0, 0), 0)) (by decide +kernel)) g1_z hm_z
  replace hm_z := rn_aload_n (am_cur_of (i := (138, 1, .aload_n 0, (0, 0, 0), 0)) (by decide +kernel)) g0_z hm_z
  replace hm_z := rn_getR (x := 178) (am_cur_of (i := (139, 3, .getfield 54, (12, 33, 1417), 0)) (by decide +kernel)) (by decide +kernel) hm_z
  replace hm_z := rn_iconst (w := 3) (am_cur_of (i := (142, 1, .iconst 3, (0, 0, 0), 0)) (by decide +kernel)) (by decide) hm_z
  replace hm_z := rn_iload_n (am_cur_of (i := (143, 1, .iload_n 1, (0, 0, 0), 0)) (by decide +kernel)) g1_z hm_z
  replace hm_z := rn_iadd (w := 5) (am_cur_of (i := (144, 1, .iadd, (0, 0, 0), 0)) (by decide +kernel)) (by decide) hm_z
  replace hm_z := rn_baload (N := 6) (q := 5) (v := rg_v h86_z 178 5) (am_cur_of (i := (145, 1, .baload, (0, 0, 0), 0)) (by decide +kernel)) (by decide +kernel) rfl (show rg_v (am_up (am_up h86_z 178 0 (.int (rg_v h86_z 178 3))) 178 1 (.int (rg_v h86_z 178 4))) 178 5 = rg_v h86_z 178 5 from rfl) hm_z
  obtain ⟨p98_z, hm_z⟩ := hm_z
  replace hm_z := rn_bastore (N := 6) (q := 2) (am_cur_of (i := (146, 1, .bastore, (0, 0, 0), 0)) (by decide +kernel)) (by decide +kernel) rfl hm_z
  obtain ⟨p99_z, hm_z⟩ := hm_z
  replace hm_z := rn_iinc (w := 3) (am_cur_of (i := (147, 3, .iinc 1 1, (0, 0, 0), 0)) (by decide +kernel)) g1_z (by decide) hm_z
  obtain ⟨_, s100_z, s101_z, g1_z, hm_z⟩ := hm_z
  replace g0_z := s100_z 0 _ (by decide) rfl g0_z
  clear s100_z s101_z
  replace hm_z := rn_goto (am_cur_of (i := (150, 3, .goto (-22), (62, 0, 0), 0)) (by decide +kernel)) hm_z
  replace hm_z := rn_iload_n (am_cur_of (i := (128, 1, .iload_n 1, (0, 0, 0), 0)) (by decide +kernel)) g1_z hm_z
  replace hm_z := rn_iconst (w := 3) (am_cur_of (i := (129, 1, .iconst 3, (0, 0, 0), 0)) (by decide +kernel)) (by decide) hm_z
  replace hm_z := rn_cmpT (am_cur_of (i := (130, 3, .if_icmp .ge 23, (77, 0, 0), 0)) (by decide +kernel)) (by decide) hm_z
  replace hm_z := rn_aload_n (am_cur_of (i := (153, 1, .aload_n 0, (0, 0, 0), 0)) (by decide +kernel)) g0_z hm_z
  replace hm_z := rn_getR (x := 179) (am_cur_of (i := (154, 3, .getfield 57, (12, 34, 1418), 0)) (by decide +kernel)) (by decide +kernel) hm_z
  replace hm_z := rn_iconst (w := 3) (am_cur_of (i := (157, 1, .iconst 3, (0, 0, 0), 0)) (by decide +kernel)) (by decide) hm_z
  replace hm_z := rn_callS (M' := am_m145) (ar := [.int 3, .ref 179]) (rest := []) (L := lv_args 0 [.ref 179, .int 3]) (am_cur_of (i := (158, 3, .invokestatic 234, (145, 1365, 3), 0)) (by decide +kernel)) rfl rfl rfl rfl hm_z
  obtain ⟨r102_z, h103_z, q104_z, hm_z⟩ := hm_z
  have vo := rn_void rfl q104_z
  subst vo
  clear q104_z
  replace hm_z : rn _ _ _ _ [] _ _ _ := hm_z
  replace hm_z := rn_aload_n (am_cur_of (i := (161, 1, .aload_n 0, (0, 0, 0), 0)) (by decide +kernel)) g0_z hm_z
  replace hm_z := rn_getR (x := 180) (am_cur_of (i := (162, 3, .getfield 60, (12, 35, 1419), 0)) (by decide +kernel)) (by decide +kernel) hm_z
  replace hm_z := rn_iconst (w := 3) (am_cur_of (i := (165, 1, .iconst 3, (0, 0, 0), 0)) (by decide +kernel)) (by decide) hm_z
  replace hm_z := rn_callS (M' := am_m145) (ar := [.int 3, .ref 180]) (rest := []) (L := lv_args 0 [.ref 180, .int 3]) (am_cur_of (i := (166, 3, .invokestatic 234, (145, 1365, 3), 0)) (by decide +kernel)) rfl rfl rfl rfl hm_z
  obtain ⟨r105_z, h106_z, q107_z, hm_z⟩ := hm_z
  have vo := rn_void rfl q107_z
  subst vo
  clear q107_z
  replace hm_z : rn _ _ _ _ [] _ _ _ := hm_z
  replace hm_z := rn_aload_n (am_cur_of (i := (169, 1, .aload_n 0, (0, 0, 0), 0)) (by decide +kernel)) g0_z hm_z
  replace hm_z := rn_getR (x := 181) (am_cur_of (i := (170, 3, .getfield 63, (12, 36, 1420), 0)) (by decide +kernel)) (by decide +kernel) hm_z
  replace hm_z := rn_bipush (w := 64) (am_cur_of (i := (173, 2, .bipush 64, (0, 0, 0), 0)) (by decide +kernel)) (by decide) hm_z
  replace hm_z := rn_callS (M' := am_m145) (ar := [.int 64, .ref 181]) (rest := []) (L := lv_args 0 [.ref 181, .int 64]) (am_cur_of (i := (175, 3, .invokestatic 234, (145, 1365, 3), 0)) (by decide +kernel)) rfl rfl rfl rfl hm_z
  obtain ⟨r108_z, h109_z, q110_z, hm_z⟩ := hm_z
  have vo := rn_void rfl q110_z
  subst vo
  clear q110_z
  replace hm_z : rn _ _ _ _ [] _ _ _ := hm_z
  replace hm_z := rn_aload_n (am_cur_of (i := (178, 1, .aload_n 0, (0, 0, 0), 0)) (by decide +kernel)) g0_z hm_z
  replace hm_z := rn_getR (x := 182) (am_cur_of (i := (179, 3, .getfield 66, (12, 37, 1421), 0)) (by decide +kernel)) (by decide +kernel) hm_z
  replace hm_z := rn_bipush (w := 64) (am_cur_of (i := (182, 2, .bipush 64, (0, 0, 0), 0)) (by decide +kernel)) (by decide) hm_z
  replace hm_z := rn_callS (M' := am_m145) (ar := [.int 64, .ref 182]) (rest := []) (L := lv_args 0 [.ref 182, .int 64]) (am_cur_of (i := (184, 3, .invokestatic 234, (145, 1365, 3), 0)) (by decide +kernel)) rfl rfl rfl rfl hm_z
  obtain ⟨r111_z, h112_z, q113_z, hm_z⟩ := hm_z
  have vo := rn_void rfl q113_z
  subst vo
  clear q113_z
  replace hm_z : rn _ _ _ _ [] _ _ _ := hm_z
  replace hm_z := rn_aload_n (am_cur_of (i := (187, 1, .aload_n 0, (0, 0, 0), 0)) (by decide +kernel)) g0_z hm_z
  replace hm_z := rn_getR (x := 183) (am_cur_of (i := (188, 3, .getfield 69, (12, 38, 1422), 0)) (by decide +kernel)) (by decide +kernel) hm_z
  replace hm_z := rn_bipush (w := 64) (am_cur_of (i := (191, 2, .bipush 64, (0, 0, 0), 0)) (by decide +kernel)) (by decide) hm_z
  replace hm_z := rn_callS (M' := am_m145) (ar := [.int 64, .ref 183]) (rest := []) (L := lv_args 0 [.ref 183, .int 64]) (am_cur_of (i := (193, 3, .invokestatic 234, (145, 1365, 3), 0)) (by decide +kernel)) rfl rfl rfl rfl hm_z
  obtain ⟨r114_z, h115_z, q116_z, hm_z⟩ := hm_z
  have vo := rn_void rfl q116_z
  subst vo
  clear q116_z
  replace hm_z : rn _ _ _ _ [] _ _ _ := hm_z
  replace hm_z := rn_aload_n (am_cur_of (i := (196, 1, .aload_n 0, (0, 0, 0), 0)) (by decide +kernel)) g0_z hm_z
  replace hm_z := rn_callV (M' := am_m146) (o := 164) (ar := []) (rest := []) (L := lv_args 0 [.ref 164]) (am_cur_of (i := (197, 3, .invokevirtual 238, (146, 1368, 3), 0)) (by decide +kernel)) rfl rfl rfl rfl hm_z
  obtain ⟨r117_z, h118_z, q119_z, hm_z⟩ := hm_z
  have vo := rn_void rfl q119_z
  subst vo
  have zb := kt_begin q119_z
  have sb := sm_146 q119_z
  replace hm_z : rn _ _ _ _ [] _ _ _ := hm_z
  replace hm_z := rn_vret (am_cur_of (i := (200, 1, .return_, (0, 0, 0), 0)) (by decide +kernel)) hm_z
  obtain ⟨e120_z, e121_z⟩ := hm_z
  rw [e121_z, zb 168 3 (by decide)]
  exact sb
/-- a state in its bounds -/
def okF (f : Nat → Int32) : Prop := (0 ≤ (f 1).toInt ∧ (f 1).toInt ≤ 99999) ∧ (0 ≤ (f 3).toInt ∧ (f 3).toInt ≤ 99) ∧ ∀ k, k < 4 → (0 ≤ (f (13 + k)).toInt ∧ (f (13 + k)).toInt ≤ (f 1).toInt) ∧ (0 ≤ (f (5 + k)).toInt ∧ (f (5 + k)).toInt ≤ 20)
/-- a state of the class and one of the model, alike from number lo on -/
def sRec (lo : Nat) (f m : Nat → Int32) : Prop := (∀ j, lo ≤ j → j < 17 → f j = m j) ∧ okF f
/-- the place of the j-th of sz states, the next one's place being nx -/
def hI (nx sz : Int) (j : Nat) : Nat := 62 + 4 * ((nx + 20 - sz + j) % 20).toNat
def hR (lo : Nat) (h g : am_H) : Prop := (0 ≤ (rg_v h 60 1).toInt ∧ (rg_v h 60 1).toInt < 20) ∧ (0 ≤ (rg_v h 60 2).toInt ∧ (rg_v h 60 2).toInt ≤ 20) ∧ rg_v h 60 2 = rg_v g 164 77 ∧ ∀ j : Nat, (j : Int) < (rg_v h 60 2).toInt → sRec lo (cS_z h (hI (rg_v h 60 1).toInt (rg_v h 60 2).toInt j)) (fun q => rg_v g 200 (17 * j + q))
def iR (lo : Nat) (h g : am_H) : Prop := rg_v h 0 8 = rg_v g 164 79 ∧ (¬ rg_v h 0 8 = 0 → sRec lo (cS_z h 56) (fun q => rg_v g 201 q))
def St (lo : Nat) (h g : am_H) : Prop := sRec lo (cS_z h 48) (mS g 0) ∧ hR lo h g ∧ iR lo h g
theorem okF_e {f f' : Nat → Int32} (e : ∀ j, 1 ≤ j → j < 17 → f' j = f j) (o : okF f) : okF f' := by
  obtain ⟨o1_z, o2_z, o3_z⟩ := o
  unfold okF
  rw [e 1 (by decide) (by decide), e 3 (by decide) (by decide)]
  refine ⟨o1_z, o2_z, fun k hk_z => ?_⟩
  rw [e (13 + k) (by omega) (by omega), e (5 + k) (by omega) (by omega)]
  exact o3_z k hk_z
theorem sRec_e {lo : Nat} {f m f' m' : Nat → Int32} (l1_z : lo ≤ 1) (e : ∀ j, lo ≤ j → j < 17 → f' j = f j) (d : ∀ j, lo ≤ j → j < 17 → m' j = m j) (S : sRec lo f m) : sRec lo f' m' := ⟨fun j a c => (e j a c).trans ((S.1 j a c).trans (d j a c).symm), okF_e (fun j a c => e j (by omega) c) S.2⟩
/-- the class's places of its state -/
def cQ (o k : Nat) : Prop := (48 ≤ o ∧ o ≤ 51) ∨ (56 ≤ o ∧ o ≤ 59) ∨ (o = 0 ∧ k = 8) ∨ (o = 60 ∧ (k = 1 ∨ k = 2)) ∨ (62 ≤ o ∧ o ≤ 141)
theorem cS_v {h h' : am_H} {a : Nat} (e : ∀ o k, a ≤ o → o ≤ a + 3 → rg_v h' o k = rg_v h o k) (j : Nat) : cS_z h' a j = cS_z h a j := by
  unfold cS_z
  rw [e a j (by omega) (by omega), e (a + 1) _ (by omega) (by omega), e (a + 2) _ (by omega) (by omega), e (a + 3) _ (by omega) (by omega)]
theorem mS_v {g g' : am_H} (e : ∀ o q, mQ o q → rg_v g' o q = rg_v g o q) {j : Nat} (hj_z : j < 17) : mS g' 0 j = mS g 0 j := by
  match j, hj_z with
  | 0, _ => exact e 188 0 (by unfold mQ; omega)
  | 1, _ => exact e 189 0 (by unfold mQ; omega)
  | 2, _ => exact e 190 0 (by unfold mQ; omega)
  | 3, _ => exact e 194 0 (by unfold mQ; omega)
  | 4, _ => exact e 164 57 (by unfold mQ; omega)
  | j + 5, hj_z =>
    show (if j < 4 then rg_v g' 191 (4 * 0 + j) else if j < 8 then rg_v g' 192 (4 * 0 + (j - 4)) else rg_v g' 193 (4 * 0 + (j - 8))) = (if j < 4 then rg_v g 191 (4 * 0 + j) else if j < 8 then rg_v g 192 (4 * 0 + (j - 4)) else rg_v g 193 (4 * 0 + (j - 8)))
    by_cases c1_z : j < 4
    · rw [if_pos c1_z, if_pos c1_z, e 191 _ (by unfold mQ; omega)]
    · rw [if_neg c1_z, if_neg c1_z]
      by_cases c2_z : j < 8
      · rw [if_pos c2_z, if_pos c2_z, e 192 _ (by unfold mQ; omega)]
      · rw [if_neg c2_z, if_neg c2_z, e 193 _ (by unfold mQ; omega)]
theorem hI_r {nx sz : Int} {j : Nat} : 62 ≤ hI nx sz j ∧ hI nx sz j + 3 ≤ 141 := by
  unfold hI
  omega
theorem St_e {lo : Nat} {h h' g g' : am_H} (l1_z : lo ≤ 1) (c : ∀ o k, cQ o k → rg_v h' o k = rg_v h o k) (m : ∀ o q, mQ o q → rg_v g' o q = rg_v g o q) (S : St lo h g) : St lo h' g' := by
  obtain ⟨s1_z, ⟨h1_z, h2_z, h3_z, h4_z⟩, i1_z, i2_z⟩ := S
  refine ⟨sRec_e l1_z (fun j _ _ => cS_v (fun o k a d => c o k (by unfold cQ; omega)) j) (fun j _ hj_z => mS_v m hj_z) s1_z, ⟨?_, ?_, ?_, fun j hj_z => ?_⟩, ?_, fun hb_z => ?_⟩
  · rw [c 60 1 (by unfold cQ; omega)]
    exact h1_z
  · rw [c 60 2 (by unfold cQ; omega)]
    exact h2_z
  · rw [c 60 2 (by unfold cQ; omega), m 164 77 (by unfold mQ; omega)]
    exact h3_z
  · rw [c 60 2 (by unfold cQ; omega)] at hj_z ⊢
    rw [c 60 1 (by unfold cQ; omega)]
    have q := hI_r (nx := (rg_v h 60 1).toInt) (sz := (rg_v h 60 2).toInt) (j := j)
    exact sRec_e l1_z (fun i _ _ => cS_v (fun o k a d => c o k (by unfold cQ; omega)) i) (fun i _ _ => m 200 _ (by unfold mQ; omega)) (h4_z j hj_z)
  · rw [c 0 8 (by unfold cQ; omega), m 164 79 (by unfold mQ; omega)]
    exact i1_z
  · rw [c 0 8 (by unfold cQ; omega)] at hb_z
    exact sRec_e l1_z (fun i _ _ => cS_v (fun o k a d => c o k (by unfold cQ; omega)) i) (fun i _ _ => m 201 _ (by unfold mQ; omega)) (i2_z hb_z)
/-- a push in both -/
theorem hR_push {lo : Nat} {h0_z h h' g0_z g g' : am_H} (l1_z : lo ≤ 1) (S : sRec lo (cS_z h0_z 48) (mS g0_z 0)) (H : hR lo h g) (p : hp_z h0_z h h') (fr : ∀ o k, 62 ≤ o → o ≤ 141 → ¬ (62 + 4 * (rg_v h 60 1).toNatClampNeg ≤ o ∧ o ≤ 62 + 4 * (rg_v h 60 1).toNatClampNeg + 3) → h' o k = h o k) (m : mpu g0_z g g') : hR lo h' g' := by
  obtain ⟨p1_z, p2_z, p3_z⟩ := p
  obtain ⟨m1_z, m2_z, m3_z, m4_z⟩ := m
  obtain ⟨⟨n0_z, n1_z⟩, ⟨s0_z, s1_z⟩, e, H4⟩ := H
  have cn := rt_cl n0_z
  refine ⟨by rw [p2_z]; omega, by rw [p3_z]; omega, Int32.toInt_inj.mp (by rw [p3_z, m1_z, e]), fun j hj_z => ?_⟩
  rw [p3_z] at hj_z
  rw [p2_z, p3_z]
  by_cases hl_z : (j : Int) = min (rg_v h 60 2).toInt 19
  · -- the new one
    have a1_z : hI (((rg_v h 60 1).toInt + 1) % 20) (min ((rg_v h 60 2).toInt + 1) 20) j = 62 + 4 * (rg_v h 60 1).toNatClampNeg := by
      unfold hI
      omega
    rw [a1_z]
    refine sRec_e l1_z (fun i _ hi_z => p1_z i hi_z) (fun i _ hi_z => ?_) S
    show rg_v g' 200 (17 * j + i) = mS g0_z 0 i
    rw [show 17 * j = 17 * (min (rg_v g 164 77).toInt 19).toNat by rw [← e]; omega]
    exact m2_z i hi_z
  · by_cases hs_z : (rg_v h 60 2).toInt < 20
    · have a1_z : hI (((rg_v h 60 1).toInt + 1) % 20) (min ((rg_v h 60 2).toInt + 1) 20) j = hI (rg_v h 60 1).toInt (rg_v h 60 2).toInt j := by
        unfold hI
        omega
      have a2_z : ¬ hI (rg_v h 60 1).toInt (rg_v h 60 2).toInt j = 62 + 4 * (rg_v h 60 1).toNatClampNeg := by
        unfold hI
        omega
      rw [a1_z]
      have q := hI_r (nx := (rg_v h 60 1).toInt) (sz := (rg_v h 60 2).toInt) (j := j)
      refine sRec_e l1_z (fun i _ _ => cS_e (fun o k a d => fr o k (by omega) (by omega) ?_) i) (fun i _ hi_z => ?_) (H4 j (by omega))
      · unfold hI at a2_z a d
        omega
      · exact m3_z (by rw [← e]; omega) (17 * j + i) (by rw [← e]; omega)
    · have a1_z : hI (((rg_v h 60 1).toInt + 1) % 20) (min ((rg_v h 60 2).toInt + 1) 20) j = hI (rg_v h 60 1).toInt (rg_v h 60 2).toInt (j + 1) := by
        unfold hI
        omega
      have a2_z : ¬ hI (rg_v h 60 1).toInt (rg_v h 60 2).toInt (j + 1) = 62 + 4 * (rg_v h 60 1).toNatClampNeg := by
        unfold hI
        omega
      rw [a1_z]
      have q := hI_r (nx := (rg_v h 60 1).toInt) (sz := (rg_v h 60 2).toInt) (j := j + 1)
      refine sRec_e l1_z (fun i _ _ => cS_e (fun o k a d => fr o k (by omega) (by omega) ?_) i) (fun i _ hi_z => ?_) (H4 (j + 1) (by omega))
      · unfold hI at a2_z a d
        omega
      · have z := m4_z (by rw [← e]; omega) (17 * j + i) (by omega)
        rw [z, show 17 * j + i + 17 = 17 * (j + 1) + i by omega]
theorem bt_key {t : Int32} {h : am_H} {l u : Int} {o f : Nat} (hG : ag_G t h) (hk_z : am_ks0[o]? = some (.inl 3)) (hf_z : f < 8) (ht : ab_hi ab_tab o f = ab_i l u) (l0_z : 0 ≤ l) (u9_z : u ≤ 99) : 0 ≤ (rg_v h o f).toInt ∧ (rg_v h o f).toInt ≤ 99 := by
  have z := hG.1 o f _ hk_z (show f < 8 from hf_z)
  rw [ht] at z
  obtain ⟨x, e, x0_z, x1_z⟩ := z
  unfold rg_v
  rw [e]
  exact ⟨Int.le_trans l0_z x0_z, Int.le_trans x1_z u9_z⟩
theorem bt_2 {t : Int32} {h : am_H} (hG : ag_G t h) : bt 2 h := by
  intro b f hb_z f1_z f8_z
  match b, f, hb_z, f1_z, f8_z with
  | 0, 1, _, _, _ => exact bt_key (l := 0) (u := 99) (o := 19) (f := 1) hG (by decide +kernel) (by decide) (by decide +kernel) (by decide) (by decide)
  | 0, 2, _, _, _ => exact bt_key (l := 0) (u := 20) (o := 19) (f := 2) hG (by decide +kernel) (by decide) (by decide +kernel) (by decide) (by decide)
  | 0, 3, _, _, _ => exact bt_key (l := 0) (u := 20) (o := 19) (f := 3) hG (by decide +kernel) (by decide) (by decide +kernel) (by decide) (by decide)
  | 0, 4, _, _, _ => exact bt_key (l := 0) (u := 9) (o := 19) (f := 4) hG (by decide +kernel) (by decide) (by decide +kernel) (by decide) (by decide)
  | 0, 5, _, _, _ => exact bt_key (l := 0) (u := 99) (o := 19) (f := 5) hG (by decide +kernel) (by decide) (by decide +kernel) (by decide) (by decide)
  | 0, 6, _, _, _ => exact bt_key (l := 0) (u := 9) (o := 19) (f := 6) hG (by decide +kernel) (by decide) (by decide +kernel) (by decide) (by decide)
  | 0, 7, _, _, _ => exact bt_key (l := 0) (u := 99) (o := 19) (f := 7) hG (by decide +kernel) (by decide) (by decide +kernel) (by decide) (by decide)
  | 1, 1, _, _, _ => exact bt_key (l := 0) (u := 99) (o := 20) (f := 1) hG (by decide +kernel) (by decide) (by decide +kernel) (by decide) (by decide)
  | 1, 2, _, _, _ => exact bt_key (l := 0) (u := 20) (o := 20) (f := 2) hG (by decide +kernel) (by decide) (by decide +kernel) (by decide) (by decide)
  | 1, 3, _, _, _ => exact bt_key (l := 0) (u := 20) (o := 20) (f := 3) hG (by decide +kernel) (by decide) (by decide +kernel) (by decide) (by decide)
  | 1, 4, _, _, _ => exact bt_key (l := 0) (u := 9) (o := 20) (f := 4) hG (by decide +kernel) (by decide) (by decide +kernel) (by decide) (by decide)
  | 1, 5, _, _, _ => exact bt_key (l := 0) (u := 99) (o := 20) (f := 5) hG (by decide +kernel) (by decide) (by decide +kernel) (by decide) (by decide)
  | 1, 6, _, _, _ => exact bt_key (l := 0) (u := 9) (o := 20) (f := 6) hG (by decide +kernel) (by decide) (by decide +kernel) (by decide) (by decide)
  | 1, 7, _, _, _ => exact bt_key (l := 0) (u := 99) (o := 20) (f := 7) hG (by decide +kernel) (by decide) (by decide +kernel) (by decide) (by decide)
  | 2, 1, _, _, _ => exact bt_key (l := 0) (u := 99) (o := 21) (f := 1) hG (by decide +kernel) (by decide) (by decide +kernel) (by decide) (by decide)
  | 2, 2, _, _, _ => exact bt_key (l := 0) (u := 20) (o := 21) (f := 2) hG (by decide +kernel) (by decide) (by decide +kernel) (by decide) (by decide)
  | 2, 3, _, _, _ => exact bt_key (l := 0) (u := 20) (o := 21) (f := 3) hG (by decide +kernel) (by decide) (by decide +kernel) (by decide) (by decide)
  | 2, 4, _, _, _ => exact bt_key (l := 0) (u := 9) (o := 21) (f := 4) hG (by decide +kernel) (by decide) (by decide +kernel) (by decide) (by decide)
  | 2, 5, _, _, _ => exact bt_key (l := 0) (u := 99) (o := 21) (f := 5) hG (by decide +kernel) (by decide) (by decide +kernel) (by decide) (by decide)
  | 2, 6, _, _, _ => exact bt_key (l := 0) (u := 9) (o := 21) (f := 6) hG (by decide +kernel) (by decide) (by decide +kernel) (by decide) (by decide)
  | 2, 7, _, _, _ => exact bt_key (l := 0) (u := 99) (o := 21) (f := 7) hG (by decide +kernel) (by decide) (by decide +kernel) (by decide) (by decide)
  | 3, 1, _, _, _ => exact bt_key (l := 0) (u := 99) (o := 22) (f := 1) hG (by decide +kernel) (by decide) (by decide +kernel) (by decide) (by decide)
  | 3, 2, _, _, _ => exact bt_key (l := 0) (u := 20) (o := 22) (f := 2) hG (by decide +kernel) (by decide) (by decide +kernel) (by decide) (by decide)
  | 3, 3, _, _, _ => exact bt_key (l := 0) (u := 20) (o := 22) (f := 3) hG (by decide +kernel) (by decide) (by decide +kernel) (by decide) (by decide)
  | 3, 4, _, _, _ => exact bt_key (l := 0) (u := 9) (o := 22) (f := 4) hG (by decide +kernel) (by decide) (by decide +kernel) (by decide) (by decide)
  | 3, 5, _, _, _ => exact bt_key (l := 0) (u := 99) (o := 22) (f := 5) hG (by decide +kernel) (by decide) (by decide +kernel) (by decide) (by decide)
  | 3, 6, _, _, _ => exact bt_key (l := 0) (u := 9) (o := 22) (f := 6) hG (by decide +kernel) (by decide) (by decide +kernel) (by decide) (by decide)
  | 3, 7, _, _, _ => exact bt_key (l := 0) (u := 99) (o := 22) (f := 7) hG (by decide +kernel) (by decide) (by decide +kernel) (by decide) (by decide)
  | b + 4, _, hb_z, _, _ => omega
  | 0, f + 8, _, _, h8_z => omega
  | 1, f + 8, _, _, h8_z => omega
  | 2, f + 8, _, _, h8_z => omega
  | 3, f + 8, _, _, h8_z => omega
theorem bt_23 {t : Int32} {h : am_H} (hG : ag_G t h) : bt 23 h := by
  intro b f hb_z f1_z f8_z
  match b, f, hb_z, f1_z, f8_z with
  | 0, 1, _, _, _ => exact bt_key (l := 0) (u := 99) (o := 40) (f := 1) hG (by decide +kernel) (by decide) (by decide +kernel) (by decide) (by decide)
  | 0, 2, _, _, _ => exact bt_key (l := 0) (u := 20) (o := 40) (f := 2) hG (by decide +kernel) (by decide) (by decide +kernel) (by decide) (by decide)
  | 0, 3, _, _, _ => exact bt_key (l := 0) (u := 20) (o := 40) (f := 3) hG (by decide +kernel) (by decide) (by decide +kernel) (by decide) (by decide)
  | 0, 4, _, _, _ => exact bt_key (l := 0) (u := 9) (o := 40) (f := 4) hG (by decide +kernel) (by decide) (by decide +kernel) (by decide) (by decide)
  | 0, 5, _, _, _ => exact bt_key (l := 0) (u := 99) (o := 40) (f := 5) hG (by decide +kernel) (by decide) (by decide +kernel) (by decide) (by decide)
  | 0, 6, _, _, _ => exact bt_key (l := 0) (u := 9) (o := 40) (f := 6) hG (by decide +kernel) (by decide) (by decide +kernel) (by decide) (by decide)
  | 0, 7, _, _, _ => exact bt_key (l := 0) (u := 99) (o := 40) (f := 7) hG (by decide +kernel) (by decide) (by decide +kernel) (by decide) (by decide)
  | 1, 1, _, _, _ => exact bt_key (l := 0) (u := 99) (o := 41) (f := 1) hG (by decide +kernel) (by decide) (by decide +kernel) (by decide) (by decide)
  | 1, 2, _, _, _ => exact bt_key (l := 0) (u := 20) (o := 41) (f := 2) hG (by decide +kernel) (by decide) (by decide +kernel) (by decide) (by decide)
  | 1, 3, _, _, _ => exact bt_key (l := 0) (u := 20) (o := 41) (f := 3) hG (by decide +kernel) (by decide) (by decide +kernel) (by decide) (by decide)
  | 1, 4, _, _, _ => exact bt_key (l := 0) (u := 9) (o := 41) (f := 4) hG (by decide +kernel) (by decide) (by decide +kernel) (by decide) (by decide)
  | 1, 5, _, _, _ => exact bt_key (l := 0) (u := 99) (o := 41) (f := 5) hG (by decide +kernel) (by decide) (by decide +kernel) (by decide) (by decide)
  | 1, 6, _, _, _ => exact bt_key (l := 0) (u := 9) (o := 41) (f := 6) hG (by decide +kernel) (by decide) (by decide +kernel) (by decide) (by decide)
  | 1, 7, _, _, _ => exact bt_key (l := 0) (u := 99) (o := 41) (f := 7) hG (by decide +kernel) (by decide) (by decide +kernel) (by decide) (by decide)
  | 2, 1, _, _, _ => exact bt_key (l := 0) (u := 99) (o := 42) (f := 1) hG (by decide +kernel) (by decide) (by decide +kernel) (by decide) (by decide)
  | 2, 2, _, _, _ => exact bt_key (l := 0) (u := 20) (o := 42) (f := 2) hG (by decide +kernel) (by decide) (by decide +kernel) (by decide) (by decide)
  | 2, 3, _, _, _ => exact bt_key (l := 0) (u := 20) (o := 42) (f := 3) hG (by decide +kernel) (by decide) (by decide +kernel) (by decide) (by decide)
  | 2, 4, _, _, _ => exact bt_key (l := 0) (u := 9) (o := 42) (f := 4) hG (by decide +kernel) (by decide) (by decide +kernel) (by decide) (by decide)
  | 2, 5, _, _, _ => exact bt_key (l := 0) (u := 99) (o := 42) (f := 5) hG (by decide +kernel) (by decide) (by decide +kernel) (by decide) (by decide)
  | 2, 6, _, _, _ => exact bt_key (l := 0) (u := 9) (o := 42) (f := 6) hG (by decide +kernel) (by decide) (by decide +kernel) (by decide) (by decide)
  | 2, 7, _, _, _ => exact bt_key (l := 0) (u := 99) (o := 42) (f := 7) hG (by decide +kernel) (by decide) (by decide +kernel) (by decide) (by decide)
  | 3, 1, _, _, _ => exact bt_key (l := 0) (u := 99) (o := 43) (f := 1) hG (by decide +kernel) (by decide) (by decide +kernel) (by decide) (by decide)
  | 3, 2, _, _, _ => exact bt_key (l := 0) (u := 20) (o := 43) (f := 2) hG (by decide +kernel) (by decide) (by decide +kernel) (by decide) (by decide)
  | 3, 3, _, _, _ => exact bt_key (l := 0) (u := 20) (o := 43) (f := 3) hG (by decide +kernel) (by decide) (by decide +kernel) (by decide) (by decide)
  | 3, 4, _, _, _ => exact bt_key (l := 0) (u := 9) (o := 43) (f := 4) hG (by decide +kernel) (by decide) (by decide +kernel) (by decide) (by decide)
  | 3, 5, _, _, _ => exact bt_key (l := 0) (u := 99) (o := 43) (f := 5) hG (by decide +kernel) (by decide) (by decide +kernel) (by decide) (by decide)
  | 3, 6, _, _, _ => exact bt_key (l := 0) (u := 9) (o := 43) (f := 6) hG (by decide +kernel) (by decide) (by decide +kernel) (by decide) (by decide)
  | 3, 7, _, _, _ => exact bt_key (l := 0) (u := 99) (o := 43) (f := 7) hG (by decide +kernel) (by decide) (by decide +kernel) (by decide) (by decide)
  | b + 4, _, hb_z, _, _ => omega
  | 0, f + 8, _, _, h8_z => omega
  | 1, f + 8, _, _, h8_z => omega
  | 2, f + 8, _, _, h8_z => omega
  | 3, f + 8, _, _, h8_z => omega
theorem ef_r {s e t r : Int32} (s0_z : 0 ≤ s.toInt) (s20_z : s.toInt ≤ 20) : 0 ≤ (ef s e t r).toInt ∧ (ef s e t r).toInt ≤ 20 := by
  unfold ef
  split
  · decide
  · exact ⟨s0_z, s20_z⟩
/-- breaths that dizzy -/
theorem mD_iff {rs tk tm : Int32} (r0_z : 0 ≤ rs.toInt) (t1_z : 1 ≤ tm.toInt) (t20_z : tm.toInt ≤ 20) (k0_z : 0 ≤ tk.toInt) (k9_z : tk.toInt ≤ 99) : ∀ (n : Nat) (d e t : Int32), 0 ≤ d.toInt → d.toInt ≤ 20 → 0 ≤ e.toInt → e.toInt ≤ t.toInt → t.toInt + n * 100 ≤ 300000 → (mD rs tk tm n d e t ↔ 0 < n ∧ 0 < rs.toInt ∧ tm.toInt < (ef d e t rs).toInt + n) ∧ (¬ mD rs tk tm n d e t → mB rs tk n d e t = bS rs tk n d e t ∧ (0 < n → 0 ≤ (bS rs tk n d e t).toInt ∧ (bS rs tk n d e t).toInt ≤ 20))
  | 0, d, e, t, _, _, _, _, _ => ⟨⟨fun q => absurd q (fun z => z), fun q => absurd q.1 (by omega)⟩, fun _ => ⟨rfl, fun q => absurd q (by omega)⟩⟩
  | n + 1, d, e, t, d0_z, d20_z, e0_z, et, tb => by
    have x := ef_r (s := d) (e := e) (t := t) (r := rs) d0_z d20_z
    have te := ab_isub (x := t) (y := e) (by omega) (by omega)
    have tt := ab_iadd (x := t) (y := tk) (by omega) (by omega)
    have z0_z : (0 : Int32).toInt = 0 := by decide
    have z1_z : (1 : Int32).toInt = 1 := by decide
    have hm_z : mrs d t e rs = ef d e t rs := mrs_ef d0_z
    by_cases c : tm.toInt ≤ (ef d e t rs).toInt
    · have rp : 0 < rs.toInt := by
        by_cases r : 0 < rs.toInt
        · exact r
        · have : ef d e t rs = 0 := ef_1 (by omega)
          rw [this, z0_z] at c
          omega
      have md : mD rs tk tm (n + 1) d e t := Or.inl (by rw [hm_z]; exact c)
      exact ⟨⟨fun _ => ⟨by omega, rp, by omega⟩, fun _ => md⟩, fun q => absurd md q⟩
    · have x1_z := ab_iadd (x := ef d e t rs) (y := 1) (by omega) (by omega)
      obtain ⟨i1_z, i2_z⟩ := mD_iff r0_z t1_z t20_z k0_z k9_z n (ef d e t rs + 1) (t + tk) (t + tk) (by omega) (by omega) (by omega) (by omega) (by omega)
      have ts := ab_isub (x := t + tk) (y := t + tk) (by omega) (by omega)
      have ed_z : mD rs tk tm (n + 1) d e t ↔ mD rs tk tm n (ef d e t rs + 1) (t + tk) (t + tk) := by
        refine ⟨fun q => ?_, fun q => Or.inr (by rw [hm_z]; exact q)⟩
        rcases q with q | q
        · rw [hm_z] at q
          exact absurd q c
        · rw [hm_z] at q
          exact q
      refine ⟨ed_z.trans (i1_z.trans ⟨fun q => ?_, fun q => ?_⟩), fun q => ?_⟩
      · obtain ⟨q1_z, q2_z, q3_z⟩ := q
        rw [ef_0 (by omega)] at q3_z
        exact ⟨by omega, q2_z, by omega⟩
      · obtain ⟨q1_z, q2_z, q3_z⟩ := q
        refine ⟨by omega, q2_z, ?_⟩
        rw [ef_0 (by omega)]
        omega
      · obtain ⟨j1_z, j2_z⟩ := i2_z (fun y => q (ed_z.mpr y))
        have e1_z : mB rs tk (n + 1) d e t = mB rs tk n (ef d e t rs + 1) (t + tk) (t + tk) := by
          show mB rs tk n (mrs d t e rs + 1) (t + tk) (t + tk) = _
          rw [hm_z]
        refine ⟨e1_z.trans j1_z, fun _ => ?_⟩
        show 0 ≤ (bS rs tk n (ef d e t rs + 1) (t + tk) (t + tk)).toInt ∧ (bS rs tk n (ef d e t rs + 1) (t + tk) (t + tk)).toInt ≤ 20
        by_cases n0_z : 0 < n
        · exact j2_z n0_z
        · obtain rfl : n = 0 := by omega
          show 0 ≤ (ef d e t rs + 1).toInt ∧ (ef d e t rs + 1).toInt ≤ 20
          omega
theorem St_kk {lo : Nat} {h h' g g' : am_H} (l1_z : lo ≤ 1) (c : (∀ o k, ¬ (148 ≤ o ∧ o ≤ 152) → h' o k = h o k)) (m : (∀ o q, mQ o q → g' o q = g o q)) (S : St lo h g) : St lo h' g' := St_e l1_z (fun o k q => by unfold rg_v; rw [c o k (by unfold cQ at q; omega)]) (fun o q e => mQ_v m e) S
theorem iR_e {lo : Nat} {h h' g g' : am_H} (l1_z : lo ≤ 1) (c : ∀ o k, (56 ≤ o ∧ o ≤ 59) ∨ (o = 0 ∧ k = 8) → rg_v h' o k = rg_v h o k) (m : ∀ q, rg_v g' 201 q = rg_v g 201 q) (m79_z : rg_v g' 164 79 = rg_v g 164 79) (I : iR lo h g) : iR lo h' g' := by
  obtain ⟨i1_z, i2_z⟩ := I
  refine ⟨?_, fun hb_z => ?_⟩
  · rw [c 0 8 (by omega), m79_z]
    exact i1_z
  · rw [c 0 8 (by omega)] at hb_z
    exact sRec_e l1_z (fun i _ _ => cS_v (fun o k a d => c o k (by omega)) i) (fun i _ _ => m i) (i2_z hb_z)
theorem bl_pair {h h' g g' : am_H} {r r' : Option Value} {b m se al en rs tk tm hd_z s1_z s2_z N : Int32} (S : St 1 h g) (E1 : rg_v h 48 1 = s1_z) (E5 : rg_v h 49 b.toNatClampNeg = se) (En : rg_v h 51 b.toNatClampNeg = en) (N4 : N.toInt ≤ 4) (HB : 0 ≤ b.toInt → b.toInt < N.toInt → (0 ≤ rs.toInt ∧ rs.toInt ≤ 99) ∧ (1 ≤ tm.toInt ∧ tm.toInt ≤ 20) ∧ (0 ≤ hd_z.toInt ∧ hd_z.toInt ≤ 99) ∧ (0 ≤ tk.toInt ∧ tk.toInt ≤ 99)) (cf_z : ∀ o k, (56 ≤ o ∧ o ≤ 59) ∨ (o = 0 ∧ k = 8) → rg_v h' o k = rg_v h o k) (mf : ∀ q, rg_v g' 201 q = rg_v g 201 q) (m79_z : rg_v g' 164 79 = rg_v g 164 79)
    (c : (¬ (0 ≤ b.toInt ∧ b.toInt < N.toInt ∧ 1 ≤ m.toInt ∧ m.toInt ≤ 20) ∧ r = some (.int (-1)) ∧ (∀ o k, ¬ (148 ≤ o ∧ o ≤ 152) → h' o k = h o k)) ∨ ((0 ≤ b.toInt ∧ b.toInt < N.toInt ∧ 1 ≤ m.toInt ∧ m.toInt ≤ 20) ∧ (0 < rs.toInt ∧ tm.toInt < (ef se en (s1_z + hn_z s2_z b hd_z) rs + m).toInt) ∧ r = some (.int (-2)) ∧ (∀ o k, ¬ (148 ≤ o ∧ o ≤ 152) → h' o k = h o k)) ∨ ((0 ≤ b.toInt ∧ b.toInt < N.toInt ∧ 1 ≤ m.toInt ∧ m.toInt ≤ 20) ∧ ¬ (0 < rs.toInt ∧ tm.toInt < (ef se en (s1_z + hn_z s2_z b hd_z) rs + m).toInt) ∧ ((99999 - s1_z).toInt < (hn_z s2_z b hd_z + m * tk).toInt) ∧ r = some (.int (-1)) ∧ (∀ o k, ¬ (148 ≤ o ∧ o ≤ 152) → h' o k = h o k)) ∨ ((0 ≤ b.toInt ∧ b.toInt < N.toInt ∧ 1 ≤ m.toInt ∧ m.toInt ≤ 20) ∧ ¬ (0 < rs.toInt ∧ tm.toInt < (ef se en (s1_z + hn_z s2_z b hd_z) rs + m).toInt) ∧ ¬ ((99999 - s1_z).toInt < (hn_z s2_z b hd_z + m * tk).toInt) ∧ (∃ v : Int32, r = some (.int v)) ∧ hp_z h h h' ∧ (∀ j, 1 ≤ j → j < 17 → cS_z h' 48 j = bW (cS_z h 48) b m.toInt.toNat (s1_z + hn_z s2_z b hd_z) rs tk j) ∧ (∀ o k, 62 ≤ o → o ≤ 141 → ¬ (62 + 4 * (rg_v h 60 1).toNatClampNeg ≤ o ∧ o ≤ 62 + 4 * (rg_v h 60 1).toNatClampNeg + 3) → h' o k = h o k)))
    (d : (¬ (0 ≤ b.toInt ∧ b.toInt < N.toInt ∧ 1 ≤ m.toInt ∧ m.toInt ≤ 20) ∧ r' = some (.int (-1)) ∧ (∀ o q, mQ o q → g' o q = g o q)) ∨ ((0 ≤ b.toInt ∧ b.toInt < N.toInt ∧ 1 ≤ m.toInt ∧ m.toInt ≤ 20) ∧ mD rs tk tm m.toInt.toNat se en (s1_z + hn_z s2_z b hd_z) ∧ r' = some (.int (-2)) ∧ (∀ o q, mQ o q → g' o q = g o q)) ∨ ((0 ≤ b.toInt ∧ b.toInt < N.toInt ∧ 1 ≤ m.toInt ∧ m.toInt ≤ 20) ∧ ¬ mD rs tk tm m.toInt.toNat se en (s1_z + hn_z s2_z b hd_z) ∧ 99999 < (bT tk m.toInt.toNat (s1_z + hn_z s2_z b hd_z)).toInt ∧ r' = some (.int (-1)) ∧ (∀ o q, mQ o q → g' o q = g o q)) ∨ ((0 ≤ b.toInt ∧ b.toInt < N.toInt ∧ 1 ≤ m.toInt ∧ m.toInt ≤ 20) ∧ ¬ mD rs tk tm m.toInt.toNat se en (s1_z + hn_z s2_z b hd_z) ∧ ¬ 99999 < (bT tk m.toInt.toNat (s1_z + hn_z s2_z b hd_z)).toInt ∧ (∃ v : Int32, r' = some (.int v)) ∧ mpu g g g' ∧ ∀ j, 1 ≤ j → j < 17 → mS g' 0 j = mW (mS g 0) b m.toInt.toNat (s1_z + hn_z s2_z b hd_z) rs tk j)) : St 1 h' g' := by
  by_cases hv_z : (0 ≤ b.toInt ∧ b.toInt < N.toInt ∧ 1 ≤ m.toInt ∧ m.toInt ≤ 20)
  · obtain ⟨⟨r0_z, r9_z⟩, ⟨t1_z, t20_z⟩, ⟨h0_z, h9_z⟩, ⟨k0_z, k9_z⟩⟩ := HB hv_z.1 hv_z.2.1
    have cb := rt_cl hv_z.1
    have b4_z : b.toNatClampNeg < 4 := by omega
    have SS := S
    obtain ⟨⟨sv, okf⟩, H, I⟩ := S
    obtain ⟨o1_z, o3_z, o5_z⟩ := okf
    have oe := o5_z b.toNatClampNeg b4_z
    rw [cS_s b4_z, cS_n b4_z, E5, En] at oe
    have o1_z' : 0 ≤ s1_z.toInt ∧ s1_z.toInt ≤ 99999 := by rw [← E1]; exact o1_z
    have oe1_z : en.toInt ≤ s1_z.toInt := by rw [← E1]; exact oe.1.2
    have hr := hn_r (l := s2_z) (b := b) h0_z h9_z
    have la := ab_iadd (x := s1_z) (y := hn_z s2_z b hd_z) (by omega) (by omega)
    have em : ((m.toInt.toNat : Nat) : Int) = m.toInt := by omega
    have mt := se_mt (m := m) (t := tk) (by omega) (by omega) k0_z k9_z
    have ef0_z := ef_r (s := se) (e := en) (t := s1_z + hn_z s2_z b hd_z) (r := rs) oe.2.1 oe.2.2
    have fa := ab_iadd (x := ef se en (s1_z + hn_z s2_z b hd_z) rs) (y := m) (by omega) (by omega)
    have ha_z := ab_iadd (x := hn_z s2_z b hd_z) (y := m * tk) (by omega) (by omega)
    have z9_z : (99999 : Int32).toInt = 99999 := by decide
    have sb := ab_isub (x := 99999) (y := s1_z) (by rw [z9_z]; omega) (by rw [z9_z]; omega)
    rw [z9_z] at sb
    have bti := bT_i k0_z m.toInt.toNat (s1_z + hn_z s2_z b hd_z) (by omega) (by rw [em]; omega)
    rw [em] at bti
    obtain ⟨i1_z, i2_z⟩ := mD_iff r0_z t1_z t20_z k0_z k9_z m.toInt.toNat se en (s1_z + hn_z s2_z b hd_z) oe.2.1 oe.2.2 oe.1.1 (by omega) (by omega)
    have di : mD rs tk tm m.toInt.toNat se en (s1_z + hn_z s2_z b hd_z) ↔ (0 < rs.toInt ∧ tm.toInt < (ef se en (s1_z + hn_z s2_z b hd_z) rs + m).toInt) := i1_z.trans ⟨fun q => ⟨q.2.1, by omega⟩, fun q => ⟨by omega, q.1, by omega⟩⟩
    have li : ((99999 - s1_z).toInt < (hn_z s2_z b hd_z + m * tk).toInt) ↔ 99999 < (bT tk m.toInt.toNat (s1_z + hn_z s2_z b hd_z)).toInt := by omega
    by_cases dz : (0 < rs.toInt ∧ tm.toInt < (ef se en (s1_z + hn_z s2_z b hd_z) rs + m).toInt)
    · rcases c with ⟨v, -⟩ | ⟨-, -, -, kp⟩ | ⟨-, v, -⟩ | ⟨-, v, -⟩
      · exact absurd hv_z v
      · rcases d with ⟨v, -⟩ | ⟨-, -, -, km⟩ | ⟨-, v, -⟩ | ⟨-, v, -⟩
        · exact absurd hv_z v
        · exact St_kk (by decide) kp km SS
        · exact absurd (di.mpr dz) v
        · exact absurd (di.mpr dz) v
      · exact absurd dz v
      · exact absurd dz v
    · have nd : ¬ mD rs tk tm m.toInt.toNat se en (s1_z + hn_z s2_z b hd_z) := fun q => dz (di.mp q)
      by_cases lt : ((99999 - s1_z).toInt < (hn_z s2_z b hd_z + m * tk).toInt)
      · rcases c with ⟨v, -⟩ | ⟨-, v, -⟩ | ⟨-, -, -, -, kp⟩ | ⟨-, -, v, -⟩
        · exact absurd hv_z v
        · exact absurd v dz
        · rcases d with ⟨v, -⟩ | ⟨-, v, -⟩ | ⟨-, -, -, -, km⟩ | ⟨-, -, v, -⟩
          · exact absurd hv_z v
          · exact absurd v nd
          · exact St_kk (by decide) kp km SS
          · exact absurd (li.mp lt) v
        · exact absurd lt v
      · rcases c with ⟨v, -⟩ | ⟨-, v, -⟩ | ⟨-, -, v, -⟩ | ⟨-, -, -, -, cp_z, cw, cfr⟩
        · exact absurd hv_z v
        · exact absurd v dz
        · exact absurd v lt
        · rcases d with ⟨v, -⟩ | ⟨-, v, -⟩ | ⟨-, -, v, -⟩ | ⟨-, -, -, -, dp, dw⟩
          · exact absurd hv_z v
          · exact absurd v nd
          · exact absurd v (fun q => lt (li.mpr q))
          · obtain ⟨jB, jR⟩ := i2_z nd
            have jr := jR (by omega)
            refine ⟨⟨fun j j1_z j17_z => ?_, ?_⟩, hR_push (by decide) SS.1 H cp_z cfr dp, iR_e (by decide) cf_z mf m79_z I⟩
            · rw [cw j j1_z j17_z, dw j j1_z j17_z]
              unfold bW mW
              rw [← sv (5 + b.toNatClampNeg) (by omega) (by omega), ← sv (13 + b.toNatClampNeg) (by omega) (by omega), ← sv (9 + b.toNatClampNeg) (by omega) (by omega), cS_s b4_z, cS_n b4_z, E5, En, jB]
              by_cases c1_z : j = 1
              · rw [if_pos c1_z, if_pos c1_z]
              · rw [if_neg c1_z, if_neg c1_z]
                by_cases c2_z : j = 2
                · rw [if_pos c2_z, if_pos c2_z]
                · rw [if_neg c2_z, if_neg c2_z, sv j j1_z j17_z]
            · have w1_z : cS_z h' 48 1 = bT tk m.toInt.toNat (s1_z + hn_z s2_z b hd_z) := by
                rw [cw 1 (by decide) (by decide)]
                unfold bW
                rw [if_pos rfl]
              have w3_z : cS_z h' 48 3 = cS_z h 48 3 := by
                rw [cw 3 (by decide) (by decide)]
                unfold bW
                rw [if_neg (by omega), if_neg (by omega), if_neg (by omega), if_neg (by omega), if_neg (by omega)]
              refine ⟨by rw [w1_z]; omega, by rw [w3_z]; exact o3_z, fun k hk_z => ?_⟩
              by_cases kb : k = b.toNatClampNeg
              · have w5_z : cS_z h' 48 (5 + k) = bS rs tk m.toInt.toNat se en (s1_z + hn_z s2_z b hd_z) := by
                  rw [cw (5 + k) (by omega) (by omega)]
                  unfold bW
                  rw [if_neg (by omega), if_neg (by omega), if_pos (by omega), cS_s b4_z, cS_n b4_z, E5, En]
                have w13_z : cS_z h' 48 (13 + k) = bT tk m.toInt.toNat (s1_z + hn_z s2_z b hd_z) := by
                  rw [cw (13 + k) (by omega) (by omega)]
                  unfold bW
                  rw [if_neg (by omega), if_neg (by omega), if_neg (by omega), if_neg (by omega), if_pos (by omega)]
                rw [w5_z, w13_z, w1_z]
                exact ⟨⟨by omega, by omega⟩, jr⟩
              · have w5_z : cS_z h' 48 (5 + k) = cS_z h 48 (5 + k) := by
                  rw [cw (5 + k) (by omega) (by omega)]
                  unfold bW
                  rw [if_neg (by omega), if_neg (by omega), if_neg (by omega), if_neg (by omega), if_neg (by omega)]
                have w13_z : cS_z h' 48 (13 + k) = cS_z h 48 (13 + k) := by
                  rw [cw (13 + k) (by omega) (by omega)]
                  unfold bW
                  rw [if_neg (by omega), if_neg (by omega), if_neg (by omega), if_neg (by omega), if_neg (by omega)]
                have q := o5_z k hk_z
                have q1_z : (cS_z h 48 1).toInt = s1_z.toInt := congrArg Int32.toInt E1
                rw [w5_z, w13_z, w1_z]
                refine ⟨⟨q.1.1, ?_⟩, q.2⟩
                have := q.1.2
                omega
  · rcases c with ⟨-, -, kp⟩ | ⟨v, -⟩ | ⟨v, -⟩ | ⟨v, -⟩
    · rcases d with ⟨-, -, km⟩ | ⟨v, -⟩ | ⟨v, -⟩ | ⟨v, -⟩
      · exact St_kk (by decide) kp km S
      · exact absurd v hv_z
      · exact absurd v hv_z
      · exact absurd v hv_z
    · exact absurd v hv_z
    · exact absurd v hv_z
    · exact absurd v hv_z
theorem ps_pair {h h' g g' : am_H} {W : (Nat → Int32) → Int32 → Nat → Int32} {m : Int32} (S : St 1 h g) (cf_z : ∀ o k, (56 ≤ o ∧ o ≤ 59) ∨ (o = 0 ∧ k = 8) → rg_v h' o k = rg_v h o k) (mf : ∀ q, rg_v g' 201 q = rg_v g 201 q) (m79_z : rg_v g' 164 79 = rg_v g 164 79) (we : ∀ f f' : Nat → Int32, (∀ j, 1 ≤ j → j < 17 → f j = f' j) → ∀ j, 1 ≤ j → j < 17 → W f m j = W f' m j) (wo : okF (cS_z h 48) → okF (W (cS_z h 48) m)) (cp_z : hp_z h h h') (cw : ∀ j, 1 ≤ j → j < 17 → cS_z h' 48 j = W (cS_z h 48) m j) (cfr : (∀ o k, 62 ≤ o → o ≤ 141 → ¬ (62 + 4 * (rg_v h 60 1).toNatClampNeg ≤ o ∧ o ≤ 62 + 4 * (rg_v h 60 1).toNatClampNeg + 3) → h' o k = h o k)) (dp : mpu g g g') (dw : ∀ j, 1 ≤ j → j < 17 → mS g' 0 j = W (mS g 0) m j) : St 1 h' g' := by
  obtain ⟨s, H, I⟩ := S
  refine ⟨⟨fun j j1_z j17_z => (cw j j1_z j17_z).trans ((we _ _ s.1 j j1_z j17_z).trans (dw j j1_z j17_z).symm), okF_e (fun j j1_z j17_z => cw j j1_z j17_z) (wo s.2)⟩, hR_push (by decide) s H cp_z cfr dp, iR_e (by decide) cf_z mf m79_z I⟩
theorem wt_pair {h h' g g' : am_H} {r r' : Option Value} {m s1_z : Int32} (S : St 1 h g) (E1 : rg_v h 48 1 = s1_z) (cf_z : ∀ o k, (56 ≤ o ∧ o ≤ 59) ∨ (o = 0 ∧ k = 8) → rg_v h' o k = rg_v h o k) (mf : ∀ q, rg_v g' 201 q = rg_v g 201 q) (m79_z : rg_v g' 164 79 = rg_v g 164 79)
    (c : (¬ (1 ≤ m.toInt ∧ m.toInt ≤ 999 ∧ s1_z.toInt + m.toInt ≤ 99999) ∧ r = some (.int (-1)) ∧ (∀ o k, ¬ (148 ≤ o ∧ o ≤ 152) → h' o k = h o k)) ∨ ((1 ≤ m.toInt ∧ m.toInt ≤ 999 ∧ s1_z.toInt + m.toInt ≤ 99999) ∧ (∃ v : Int32, r = some (.int v)) ∧ hp_z h h h' ∧ (∀ j, 1 ≤ j → j < 17 → cS_z h' 48 j = wW (cS_z h 48) m j) ∧ (∀ o k, 62 ≤ o → o ≤ 141 → ¬ (62 + 4 * (rg_v h 60 1).toNatClampNeg ≤ o ∧ o ≤ 62 + 4 * (rg_v h 60 1).toNatClampNeg + 3) → h' o k = h o k)))
    (d : (¬ (1 ≤ m.toInt ∧ m.toInt ≤ 999 ∧ s1_z.toInt + m.toInt ≤ 99999) ∧ r' = some (.int (-1)) ∧ (∀ o q, mQ o q → g' o q = g o q)) ∨ ((1 ≤ m.toInt ∧ m.toInt ≤ 999 ∧ s1_z.toInt + m.toInt ≤ 99999) ∧ (∃ v : Int32, r' = some (.int v)) ∧ mpu g g g' ∧ ∀ j, 1 ≤ j → j < 17 → mS g' 0 j = wW (mS g 0) m j)) : St 1 h' g' := by
  by_cases hv_z : 1 ≤ m.toInt ∧ m.toInt ≤ 999 ∧ s1_z.toInt + m.toInt ≤ 99999
  · rcases c with ⟨v, -⟩ | ⟨-, -, cp_z, cw, cfr⟩
    · exact absurd hv_z v
    · rcases d with ⟨v, -⟩ | ⟨-, -, dp, dw⟩
      · exact absurd hv_z v
      · refine ps_pair S cf_z mf m79_z (fun f f' e j j1_z j17_z => ?_) (fun o => ?_) cp_z cw cfr dp dw
        · unfold wW
          rw [e 1 (by decide) (by decide), e j j1_z j17_z]
        · obtain ⟨o1_z, o3_z, o5_z⟩ := o
          have q1_z : (cS_z h 48 1).toInt = s1_z.toInt := congrArg Int32.toInt E1
          have a := ab_iadd (x := cS_z h 48 1) (y := m) (by omega) (by omega)
          have w1_z : wW (cS_z h 48) m 1 = cS_z h 48 1 + m := by
            unfold wW
            rw [if_pos rfl]
          have wn : ∀ j, ¬ j = 1 → wW (cS_z h 48) m j = cS_z h 48 j := fun j hj_z => by
            unfold wW
            rw [if_neg hj_z]
          unfold okF
          rw [w1_z, wn 3 (by decide)]
          refine ⟨by omega, o3_z, fun k hk_z => ?_⟩
          rw [wn (13 + k) (by omega), wn (5 + k) (by omega)]
          have q := o5_z k hk_z
          exact ⟨⟨q.1.1, by omega⟩, q.2⟩
  · rcases c with ⟨-, -, kp⟩ | ⟨v, -⟩
    · rcases d with ⟨-, -, km⟩ | ⟨v, -⟩
      · exact St_kk (by decide) kp km S
      · exact absurd v hv_z
    · exact absurd v hv_z
theorem pm_pair {h h' g g' : am_H} {r r' : Option Value} {m s1_z lf x y : Int32} (S : St 1 h g) (E1 : rg_v h 48 1 = s1_z) (E3 : rg_v h 48 3 = lf) (xy : ¬ x.toInt = 0 ↔ ¬ y.toInt = 0) (cf_z : ∀ o k, (56 ≤ o ∧ o ≤ 59) ∨ (o = 0 ∧ k = 8) → rg_v h' o k = rg_v h o k) (mf : ∀ q, rg_v g' 201 q = rg_v g 201 q) (m79_z : rg_v g' 164 79 = rg_v g 164 79)
    (c : (¬ (¬ x.toInt = 0 ∧ 1 ≤ m.toInt) ∧ r = some (.int (-1)) ∧ (∀ o k, ¬ (148 ≤ o ∧ o ≤ 152) → h' o k = h o k)) ∨ ((¬ x.toInt = 0 ∧ 1 ≤ m.toInt) ∧ ¬ (m.toInt ≤ lf.toInt) ∧ r = some (.int (-2)) ∧ (∀ o k, ¬ (148 ≤ o ∧ o ≤ 152) → h' o k = h o k)) ∨ (((¬ x.toInt = 0 ∧ 1 ≤ m.toInt) ∧ (m.toInt ≤ lf.toInt)) ∧ ¬ (s1_z.toInt + m.toInt ≤ 99999) ∧ r = some (.int (-1)) ∧ (∀ o k, ¬ (148 ≤ o ∧ o ≤ 152) → h' o k = h o k)) ∨ ((¬ x.toInt = 0 ∧ 1 ≤ m.toInt) ∧ (m.toInt ≤ lf.toInt) ∧ (s1_z.toInt + m.toInt ≤ 99999) ∧ (∃ v : Int32, r = some (.int v)) ∧ hp_z h h h' ∧ (∀ j, 1 ≤ j → j < 17 → cS_z h' 48 j = pW (cS_z h 48) m j) ∧ (∀ o k, 62 ≤ o → o ≤ 141 → ¬ (62 + 4 * (rg_v h 60 1).toNatClampNeg ≤ o ∧ o ≤ 62 + 4 * (rg_v h 60 1).toNatClampNeg + 3) → h' o k = h o k)))
    (d : (¬ (¬ y.toInt = 0 ∧ 1 ≤ m.toInt) ∧ r' = some (.int (-1)) ∧ (∀ o q, mQ o q → g' o q = g o q)) ∨ ((¬ y.toInt = 0 ∧ 1 ≤ m.toInt) ∧ ¬ (m.toInt ≤ lf.toInt) ∧ r' = some (.int (-2)) ∧ (∀ o q, mQ o q → g' o q = g o q)) ∨ (((¬ y.toInt = 0 ∧ 1 ≤ m.toInt) ∧ (m.toInt ≤ lf.toInt)) ∧ ¬ (s1_z.toInt + m.toInt ≤ 99999) ∧ r' = some (.int (-1)) ∧ (∀ o q, mQ o q → g' o q = g o q)) ∨ ((¬ y.toInt = 0 ∧ 1 ≤ m.toInt) ∧ (m.toInt ≤ lf.toInt) ∧ (s1_z.toInt + m.toInt ≤ 99999) ∧ (∃ v : Int32, r' = some (.int v)) ∧ mpu g g g' ∧ ∀ j, 1 ≤ j → j < 17 → mS g' 0 j = pW (mS g 0) m j)) : St 1 h' g' := by
  by_cases hv_z : ¬ x.toInt = 0 ∧ 1 ≤ m.toInt
  · have hw_z : ¬ y.toInt = 0 ∧ 1 ≤ m.toInt := ⟨xy.mp hv_z.1, hv_z.2⟩
    by_cases hl_z : m.toInt ≤ lf.toInt
    · by_cases hs_z : s1_z.toInt + m.toInt ≤ 99999
      · rcases c with ⟨v, -⟩ | ⟨-, v, -⟩ | ⟨-, v, -⟩ | ⟨-, -, -, -, cp_z, cw, cfr⟩
        · exact absurd hv_z v
        · exact absurd hl_z v
        · exact absurd hs_z v
        · rcases d with ⟨v, -⟩ | ⟨-, v, -⟩ | ⟨-, v, -⟩ | ⟨-, -, -, -, dp, dw⟩
          · exact absurd hw_z v
          · exact absurd hl_z v
          · exact absurd hs_z v
          · refine ps_pair S cf_z mf m79_z (fun f f' e j j1_z j17_z => ?_) (fun o => ?_) cp_z cw cfr dp dw
            · unfold pW
              rw [e 1 (by decide) (by decide), e 3 (by decide) (by decide), e j j1_z j17_z]
            · obtain ⟨o1_z, o3_z, o5_z⟩ := o
              have q1_z : (cS_z h 48 1).toInt = s1_z.toInt := congrArg Int32.toInt E1
              have q3_z : (cS_z h 48 3).toInt = lf.toInt := congrArg Int32.toInt E3
              have a := ab_iadd (x := cS_z h 48 1) (y := m) (by omega) (by omega)
              have a3_z := ab_isub (x := cS_z h 48 3) (y := m) (by omega) (by omega)
              have w1_z : pW (cS_z h 48) m 1 = cS_z h 48 1 + m := by
                unfold pW
                rw [if_pos rfl]
              have w3_z : pW (cS_z h 48) m 3 = cS_z h 48 3 - m := by
                unfold pW
                rw [if_neg (by omega), if_neg (by omega), if_pos rfl]
              have wn : ∀ j, 4 ≤ j → pW (cS_z h 48) m j = cS_z h 48 j := fun j hj_z => by
                unfold pW
                rw [if_neg (by omega), if_neg (by omega), if_neg (by omega)]
              unfold okF
              rw [w1_z, w3_z]
              refine ⟨by omega, by omega, fun k hk_z => ?_⟩
              rw [wn (13 + k) (by omega), wn (5 + k) (by omega)]
              have q := o5_z k hk_z
              exact ⟨⟨q.1.1, by omega⟩, q.2⟩
      · rcases c with ⟨v, -⟩ | ⟨-, v, -⟩ | ⟨-, -, -, kp⟩ | ⟨-, -, v, -⟩
        · exact absurd hv_z v
        · exact absurd hl_z v
        · rcases d with ⟨v, -⟩ | ⟨-, v, -⟩ | ⟨-, -, -, km⟩ | ⟨-, -, v, -⟩
          · exact absurd hw_z v
          · exact absurd hl_z v
          · exact St_kk (by decide) kp km S
          · exact absurd v hs_z
        · exact absurd v hs_z
    · rcases c with ⟨v, -⟩ | ⟨-, -, -, kp⟩ | ⟨v, -⟩ | ⟨-, v, -⟩
      · exact absurd hv_z v
      · rcases d with ⟨v, -⟩ | ⟨-, -, -, km⟩ | ⟨v, -⟩ | ⟨-, v, -⟩
        · exact absurd hw_z v
        · exact St_kk (by decide) kp km S
        · exact absurd v.2 hl_z
        · exact absurd v hl_z
      · exact absurd v.2 hl_z
      · exact absurd v hl_z
  · have hw_z : ¬ (¬ y.toInt = 0 ∧ 1 ≤ m.toInt) := fun q => hv_z ⟨xy.mpr q.1, q.2⟩
    rcases c with ⟨-, -, kp⟩ | ⟨v, -⟩ | ⟨v, -⟩ | ⟨v, -⟩
    · rcases d with ⟨-, -, km⟩ | ⟨v, -⟩ | ⟨v, -⟩ | ⟨v, -⟩
      · exact St_kk (by decide) kp km S
      · exact absurd v hw_z
      · exact absurd v.1 hw_z
      · exact absurd v hw_z
    · exact absurd v hv_z
    · exact absurd v.1 hv_z
    · exact absurd v hv_z
theorem pt_pair {h h' g g' : am_H} {r r' : Option Value} {m n n2_z x y : Int32} (S : St 1 h g) (nn : n = n2_z) (xy : x = y) (cf_z : ∀ o k, (56 ≤ o ∧ o ≤ 59) ∨ (o = 0 ∧ k = 8) → rg_v h' o k = rg_v h o k) (mf : ∀ q, rg_v g' 201 q = rg_v g 201 q) (m79_z : rg_v g' 164 79 = rg_v g 164 79)
    (c : (¬ (0 ≤ m.toInt ∧ m.toInt < n.toInt ∧ (((rg_v h 48 4) >>> (m &&& 31)) &&& 1).toInt = 0) ∧ r = some (.int (-1)) ∧ ∀ o k, h' o k = h o k) ∨ ((0 ≤ m.toInt ∧ m.toInt < n.toInt ∧ (((rg_v h 48 4) >>> (m &&& 31)) &&& 1).toInt = 0) ∧ r = some (.int (if m = x then 1 else 0)) ∧ hp_z h h h' ∧ (∀ j, 1 ≤ j → j < 17 → cS_z h' 48 j = tW (cS_z h 48) m j) ∧ (∀ o k, 62 ≤ o → o ≤ 141 → ¬ (62 + 4 * (rg_v h 60 1).toNatClampNeg ≤ o ∧ o ≤ 62 + 4 * (rg_v h 60 1).toNatClampNeg + 3) → h' o k = h o k)))
    (d : (¬ (0 ≤ m.toInt ∧ m.toInt < n2_z.toInt ∧ (((rg_v g 164 57) >>> (m &&& 31)) &&& 1).toInt = 0) ∧ r' = some (.int (-1)) ∧ (∀ o q, mQ o q → g' o q = g o q)) ∨ ((0 ≤ m.toInt ∧ m.toInt < n2_z.toInt ∧ (((rg_v g 164 57) >>> (m &&& 31)) &&& 1).toInt = 0) ∧ r' = some (.int (if m = y then 1 else 0)) ∧ mpu g g g' ∧ ∀ j, 1 ≤ j → j < 17 → mS g' 0 j = tW (mS g 0) m j)) : r = r' ∧ St 1 h' g' := by
  have e4_z : rg_v h 48 4 = rg_v g 164 57 := S.1.1 4 (by decide) (by decide)
  rw [← e4_z, ← nn] at d
  by_cases hv_z : (0 ≤ m.toInt ∧ m.toInt < n.toInt ∧ (((rg_v h 48 4) >>> (m &&& 31)) &&& 1).toInt = 0)
  · rcases c with ⟨v, -⟩ | ⟨-, cr, cp_z, cw, cfr⟩
    · exact absurd hv_z v
    · rcases d with ⟨v, -⟩ | ⟨-, dr, dp, dw⟩
      · exact absurd hv_z v
      · refine ⟨by rw [cr, dr, xy], ps_pair S cf_z mf m79_z (fun f f' e j j1_z j17_z => ?_) (fun o => ?_) cp_z cw cfr dp dw⟩
        · unfold tW
          rw [e 4 (by decide) (by decide), e j j1_z j17_z]
        · have wn : ∀ j, ¬ j = 4 → tW (cS_z h 48) m j = cS_z h 48 j := fun j hj_z => by
            unfold tW
            rw [if_neg hj_z]
          obtain ⟨o1_z, o3_z, o5_z⟩ := o
          unfold okF
          rw [wn 1 (by decide), wn 3 (by decide)]
          refine ⟨o1_z, o3_z, fun k hk_z => ?_⟩
          rw [wn (13 + k) (by omega), wn (5 + k) (by omega)]
          exact o5_z k hk_z
  · rcases c with ⟨-, cr, kp⟩ | ⟨v, -⟩
    · rcases d with ⟨-, dr, km⟩ | ⟨v, -⟩
      · exact ⟨by rw [cr, dr], St_kk (by decide) (fun o k _ => kp o k) km S⟩
      · exact absurd v hv_z
    · exact absurd v hv_z
theorem un_pair {h h' g g' : am_H} {r r' : Option Value} (S : St 1 h g) (cf_z : ∀ o k, (56 ≤ o ∧ o ≤ 59) ∨ (o = 0 ∧ k = 8) → rg_v h' o k = rg_v h o k) (mf : ∀ q, rg_v g' 201 q = rg_v g 201 q) (m79_z : rg_v g' 164 79 = rg_v g 164 79)
    (c : (rg_v h 60 2 = 0 ∧ r = some (.int (-1)) ∧ ∀ o k, h' o k = h o k) ∨ (¬ rg_v h 60 2 = 0 ∧ r = some (.int (rg_v h' 60 2)) ∧ (∀ j, j < 17 → cS_z h' 48 j = cS_z h (62 + 4 * (((rg_v h 60 1).toInt + 19) % 20).toNat) j) ∧ (rg_v h' 60 1).toInt = ((rg_v h 60 1).toInt + 19) % 20 ∧ (rg_v h' 60 2).toInt = (rg_v h 60 2).toInt - 1 ∧ ∀ o k, ¬ (48 ≤ o ∧ o ≤ 51) → ¬ (o = 60 ∧ (k = 1 ∨ k = 2)) → h' o k = h o k))
    (d : (rg_v g 164 77 = 0 ∧ r' = some (.int (-1)) ∧ (∀ o q, mQ o q → g' o q = g o q)) ∨ (¬ rg_v g 164 77 = 0 ∧ r' = some (.int (rg_v g' 164 77)) ∧ (rg_v g' 164 77).toInt = (rg_v g 164 77).toInt - 1 ∧ (∀ j, j < 17 → mS g' 0 j = rg_v g 200 (17 * ((rg_v g 164 77).toInt.toNat - 1) + j)) ∧ ∀ q, rg_v g' 200 q = rg_v g 200 q)) : r = r' ∧ St 1 h' g' := by
  have SS := S
  obtain ⟨s, ⟨⟨n0_z, n1_z⟩, ⟨z0_z, z1_z⟩, e, H4⟩, I⟩ := S
  rw [← e] at d
  rcases c with ⟨c1_z, cr, kp⟩ | ⟨c1_z, cr, cs, cn, cz, cf2_z⟩
  · rcases d with ⟨-, dr, km⟩ | ⟨v, -⟩
    · exact ⟨by rw [cr, dr], St_kk (by decide) (fun o k _ => kp o k) km SS⟩
    · exact absurd c1_z v
  · rcases d with ⟨v, -⟩ | ⟨-, dr, dz, ds, dq⟩
    · exact absurd v c1_z
    · have c0_z : ¬ (rg_v h 60 2).toInt = 0 := fun q => c1_z (Int32.toInt_inj.mp (q.trans (by decide)))
      have ez : rg_v h' 60 2 = rg_v g' 164 77 := Int32.toInt_inj.mp (by rw [cz, dz])
      refine ⟨by rw [cr, dr, ez], ?_, ⟨by rw [cn]; omega, by rw [cz]; omega, ez, fun j hj_z => ?_⟩, iR_e (by decide) cf_z mf m79_z I⟩
      · have p := H4 ((rg_v h 60 2).toInt.toNat - 1) (by omega)
        have eI : hI (rg_v h 60 1).toInt (rg_v h 60 2).toInt ((rg_v h 60 2).toInt.toNat - 1) = 62 + 4 * (((rg_v h 60 1).toInt + 19) % 20).toNat := by
          unfold hI
          omega
        rw [eI] at p
        exact sRec_e (by decide) (fun i _ hi_z => cs i hi_z) (fun i _ hi_z => ds i hi_z) p
      · rw [cz] at hj_z
        rw [cn, cz]
        have eI : hI (((rg_v h 60 1).toInt + 19) % 20) ((rg_v h 60 2).toInt - 1) j = hI (rg_v h 60 1).toInt (rg_v h 60 2).toInt j := by
          unfold hI
          omega
        rw [eI]
        have q := hI_r (nx := (rg_v h 60 1).toInt) (sz := (rg_v h 60 2).toInt) (j := j)
        exact sRec_e (by decide) (fun i _ _ => cS_e (fun o k a c => cf2_z o k (by omega) (by omega)) i) (fun i _ _ => dq _) (H4 j (by omega))
theorem kp_pair {h h' g g' : am_H} {r r' : Option Value} (S : St 1 h g)
    (c : r = some (.int (rg_v h 48 1)) ∧ rg_v h' 0 8 = 1 ∧ (∀ j, j < 17 → cS_z h' 56 j = cS_z h 48 j) ∧ ∀ o k, ¬ (56 ≤ o ∧ o ≤ 59) → ¬ (o = 0 ∧ k = 8) → h' o k = h o k)
    (d : r' = some (.int (rg_v g 189 0)) ∧ rg_v g' 164 79 = 1 ∧ (∀ j, j < 17 → rg_v g' 201 j = mS g 0 j) ∧ ∀ j, mS g' 0 j = mS g 0 j) (d77_z : rg_v g' 164 77 = rg_v g 164 77) (d200_z : ∀ q, rg_v g' 200 q = rg_v g 200 q) : r = r' ∧ St 1 h' g' := by
  obtain ⟨s, ⟨⟨n0_z, n1_z⟩, ⟨z0_z, z1_z⟩, e, H4⟩, I⟩ := S
  obtain ⟨cr, c8_z, ci_z, cf_z⟩ := c
  obtain ⟨dr, d79_z, di, dm⟩ := d
  have cv_z : ∀ o k, ¬ (56 ≤ o ∧ o ≤ 59) → ¬ (o = 0 ∧ k = 8) → rg_v h' o k = rg_v h o k := by
    intro o k a b
    unfold rg_v
    rw [cf_z o k a b]
  refine ⟨by rw [cr, dr, show rg_v h 48 1 = rg_v g 189 0 from s.1 1 (by decide) (by decide)], sRec_e (by decide) (fun i _ _ => cS_e (fun o k a b => cf_z o k (by omega) (by omega)) i) (fun i _ _ => dm i) s, ⟨?_, ?_, ?_, fun j hj_z => ?_⟩, by rw [c8_z, d79_z], fun _ => sRec_e (by decide) (fun i _ hi_z => ci_z i hi_z) (fun i _ hi_z => di i hi_z) s⟩
  · rw [cv_z 60 1 (by omega) (by omega)]
    exact ⟨n0_z, n1_z⟩
  · rw [cv_z 60 2 (by omega) (by omega)]
    exact ⟨z0_z, z1_z⟩
  · rw [cv_z 60 2 (by omega) (by omega), d77_z]
    exact e
  · rw [cv_z 60 2 (by omega) (by omega)] at hj_z ⊢
    rw [cv_z 60 1 (by omega) (by omega)]
    have q := hI_r (nx := (rg_v h 60 1).toInt) (sz := (rg_v h 60 2).toInt) (j := j)
    exact sRec_e (by decide) (fun i _ _ => cS_e (fun o k a c => cf_z o k (by omega) (by omega)) i) (fun i _ _ => d200_z _) (H4 j hj_z)
theorem bc_pair {h h' g g' : am_H} {r r' : Option Value} (S : St 1 h g) (cf_z : ∀ o k, (56 ≤ o ∧ o ≤ 59) ∨ (o = 0 ∧ k = 8) → rg_v h' o k = rg_v h o k) (mf : ∀ q, rg_v g' 201 q = rg_v g 201 q) (m79_z : rg_v g' 164 79 = rg_v g 164 79)
    (c : (rg_v h 0 8 = 0 ∧ r = some (.int (-1)) ∧ ∀ o k, h' o k = h o k) ∨ (¬ rg_v h 0 8 = 0 ∧ r = some (.int (rg_v h' 48 1)) ∧ (∀ j, j < 17 → cS_z h' 48 j = cS_z h 56 j) ∧ rg_v h' 60 2 = 0 ∧ ∀ o k, ¬ (48 ≤ o ∧ o ≤ 51) → ¬ (o = 60 ∧ k = 2) → h' o k = h o k))
    (d : (rg_v g 164 79 = 0 ∧ r' = some (.int (-1)) ∧ (∀ o q, mQ o q → g' o q = g o q)) ∨ (¬ rg_v g 164 79 = 0 ∧ r' = some (.int (rg_v g' 189 0)) ∧ rg_v g' 164 77 = 0 ∧ ∀ j, j < 17 → mS g' 0 j = rg_v g 201 j)) : r = r' ∧ St 1 h' g' := by
  have SS := S
  obtain ⟨s, ⟨⟨n0_z, n1_z⟩, ⟨z0_z, z1_z⟩, e, H4⟩, I⟩ := S
  have II := I
  obtain ⟨i1_z, i2_z⟩ := I
  rw [← i1_z] at d
  rcases c with ⟨c1_z, cr, kp⟩ | ⟨c1_z, cr, cs, cz, cf2_z⟩
  · rcases d with ⟨-, dr, km⟩ | ⟨v, -⟩
    · exact ⟨by rw [cr, dr], St_kk (by decide) (fun o k _ => kp o k) km SS⟩
    · exact absurd c1_z v
  · rcases d with ⟨v, -⟩ | ⟨-, dr, dz, ds⟩
    · exact absurd v c1_z
    · have sn : sRec 1 (cS_z h' 48) (mS g' 0) := sRec_e (by decide) (fun i _ hi_z => cs i hi_z) (fun i _ hi_z => ds i hi_z) (i2_z c1_z)
      have y0_z : (0 : Int32).toInt = 0 := by decide
      refine ⟨by rw [cr, dr, show rg_v h' 48 1 = rg_v g' 189 0 from sn.1 1 (by decide) (by decide)], sn, ⟨?_, by rw [cz]; decide, by rw [cz, dz], fun j hj_z => ?_⟩, iR_e (by decide) cf_z mf m79_z II⟩
      · have q : rg_v h' 60 1 = rg_v h 60 1 := by
          unfold rg_v
          rw [cf2_z 60 1 (by omega) (by omega)]
        rw [q]
        exact ⟨n0_z, n1_z⟩
      · rw [cz, y0_z] at hj_z
        omega
theorem ft_245 {n : Nat} {h h' : am_H} {r : Option Value}   (hc_z : rn n am_m245 0 (lv_args 0 [.ref 164]) [] h r h') : (((0 : Int32).toInt ≤ (rg_v h 164 74).toInt) ∧ r = some (.int (rg_v h 164 74)) ∧ h' = h) ∨ (((rg_v h 164 74).toInt < (0 : Int32).toInt) ∧ r = some (.int (rg_v h 164 73)) ∧ h' = h) := by
  have g0_z : am_get (lv_args 0 [.ref 164]) 0 = some (.ref 164) := rfl
  replace hc_z := rn_aload_n (am_cur_of (i := (0, 1, .aload_n 0, (0, 0, 0), 0)) (by decide +kernel)) g0_z hc_z
  replace hc_z := rn_getI (v := rg_v h 164 74) (am_cur_of (i := (1, 3, .getfield 118, (12, 74, 1458), 0)) (by decide +kernel)) (by decide +kernel) rfl hc_z
  replace hc_z := rn_if (am_cur_of (i := (4, 3, .ifCond .ge 10, (6, 0, 0), 0)) (by decide +kernel)) hc_z
  rcases hc_z with ⟨b122_z, hc_z⟩ | ⟨b122_z, hc_z⟩
  · replace b122_z : (0 : Int32).toInt ≤ (rg_v h 164 74).toInt := b122_z
    replace hc_z := rn_aload_n (am_cur_of (i := (14, 1, .aload_n 0, (0, 0, 0), 0)) (by decide +kernel)) g0_z hc_z
    replace hc_z := rn_getI (v := rg_v h 164 74) (am_cur_of (i := (15, 3, .getfield 118, (12, 74, 1458), 0)) (by decide +kernel)) (by decide +kernel) rfl hc_z
    replace hc_z := rn_iret (am_cur_of (i := (18, 1, .ireturn, (0, 0, 0), 0)) (by decide +kernel)) hc_z
    obtain ⟨e123_z, e124_z⟩ := hc_z
    exact Or.inl ⟨b122_z, e123_z, e124_z⟩
  · replace b122_z : (rg_v h 164 74).toInt < (0 : Int32).toInt := b122_z
    replace hc_z := rn_aload_n (am_cur_of (i := (7, 1, .aload_n 0, (0, 0, 0), 0)) (by decide +kernel)) g0_z hc_z
    replace hc_z := rn_getI (v := rg_v h 164 73) (am_cur_of (i := (8, 3, .getfield 368, (12, 73, 1457), 0)) (by decide +kernel)) (by decide +kernel) rfl hc_z
    replace hc_z := rn_goto (am_cur_of (i := (11, 3, .goto 7, (8, 0, 0), 0)) (by decide +kernel)) hc_z
    replace hc_z := rn_iret (am_cur_of (i := (18, 1, .ireturn, (0, 0, 0), 0)) (by decide +kernel)) hc_z
    obtain ⟨e125_z, e126_z⟩ := hc_z
    exact Or.inr (⟨b122_z, e125_z, e126_z⟩)
theorem ft_c {r : Option Value} {g' : am_H} {hd_z : Int32} : ∀ (f : Nat) (x i : Int32) (ls : am_L) (g : am_H), am_get ls 0 = some (.ref 164) → am_get ls 1 = some (.int x) → am_get ls 2 = some (.int hd_z) → am_get ls 3 = some (.int i) → rn f am_m244 59 ls [] g r g' → rg_v g' 164 57 = hd_z := by
  intro f
  induction f with
  | zero => intro x i ls g g0_z g1_z g2_z g3_z hm_z; exact absurd hm_z rn_0
  | succ f ih_z =>
    intro x i ls g g0_z g1_z g2_z g3_z hm_z
    have z0_z : (0 : Int32).toInt = 0 := by decide
    replace hm_z := rn_iload_n (am_cur_of (i := (95, 1, .iload_n 3, (0, 0, 0), 0)) (by decide +kernel)) g3_z hm_z
    replace hm_z := rn_aload_n (am_cur_of (i := (96, 1, .aload_n 0, (0, 0, 0), 0)) (by decide +kernel)) g0_z hm_z
    replace hm_z := rn_getI (v := rg_v g 164 14) (am_cur_of (i := (97, 3, .getfield 225, (12, 14, 1398), 0)) (by decide +kernel)) (by decide +kernel) rfl hm_z
    replace hm_z := rn_cmp (am_cur_of (i := (100, 3, .if_icmp .gt 31, (79, 0, 0), 0)) (by decide +kernel)) hm_z
    rcases hm_z with ⟨b127_z, hm_z⟩ | ⟨b127_z, hm_z⟩
    · replace b127_z : (rg_v g 164 14).toInt < i.toInt := b127_z
      replace hm_z := rn_aload_n (am_cur_of (i := (131, 1, .aload_n 0, (0, 0, 0), 0)) (by decide +kernel)) g0_z hm_z
      replace hm_z := rn_iload_n (am_cur_of (i := (132, 1, .iload_n 2, (0, 0, 0), 0)) (by decide +kernel)) g2_z hm_z
      replace hm_z := rn_put (am_cur_of (i := (133, 3, .putfield 349, (12, 57, 1441), 0)) (by decide +kernel)) (by decide +kernel) hm_z
      replace hm_z := rn_aload_n (am_cur_of (i := (136, 1, .aload_n 0, (0, 0, 0), 0)) (by decide +kernel)) g0_z hm_z
      replace hm_z := rn_iconst (w := (-1)) (am_cur_of (i := (137, 1, .iconst (-1), (0, 0, 0), 0)) (by decide +kernel)) (by decide) hm_z
      replace hm_z := rn_put (am_cur_of (i := (138, 3, .putfield 106, (12, 62, 1446), 0)) (by decide +kernel)) (by decide +kernel) hm_z
      replace hm_z := rn_iload_n (am_cur_of (i := (141, 1, .iload_n 1, (0, 0, 0), 0)) (by decide +kernel)) g1_z hm_z
      replace hm_z := rn_iret (am_cur_of (i := (142, 1, .ireturn, (0, 0, 0), 0)) (by decide +kernel)) hm_z
      obtain ⟨e128_z, e129_z⟩ := hm_z
      rw [e129_z]
      exact ((rg_v_other (by omega)).trans (rg_v_self))
    · replace b127_z : i.toInt ≤ (rg_v g 164 14).toInt := b127_z
      replace hm_z := rn_aload_n (am_cur_of (i := (103, 1, .aload_n 0, (0, 0, 0), 0)) (by decide +kernel)) g0_z hm_z
      replace hm_z := rn_iload_n (am_cur_of (i := (104, 1, .iload_n 3, (0, 0, 0), 0)) (by decide +kernel)) g3_z hm_z
      replace hm_z := rn_put (am_cur_of (i := (105, 3, .putfield 106, (12, 62, 1446), 0)) (by decide +kernel)) (by decide +kernel) hm_z
      replace hm_z := rn_iload_n (am_cur_of (i := (108, 1, .iload_n 1, (0, 0, 0), 0)) (by decide +kernel)) g1_z hm_z
      replace hm_z := rn_aload_n (am_cur_of (i := (109, 1, .aload_n 0, (0, 0, 0), 0)) (by decide +kernel)) g0_z hm_z
      replace hm_z := rn_callV (M' := am_m246) (o := 164) (ar := []) (rest := [.int x]) (L := lv_args 0 [.ref 164]) (am_cur_of (i := (110, 3, .invokevirtual 527, (246, 2015, 3), 0)) (by decide +kernel)) rfl rfl rfl rfl hm_z
      obtain ⟨r130_z, h131_z, q132_z, hm_z⟩ := hm_z
      obtain ⟨v133_z, rfl⟩ := rn_ret (M := am_m246) rfl (by decide) q132_z
      replace hm_z : rn _ _ _ _ [.int v133_z, .int x] _ _ _ := hm_z
      replace hm_z := rn_if (am_cur_of (i := (113, 3, .ifCond .eq 9, (74, 0, 0), 0)) (by decide +kernel)) hm_z
      rcases hm_z with ⟨b134_z, hm_z⟩ | ⟨b134_z, hm_z⟩
      · replace b134_z : v133_z = (0 : Int32) ∧ v133_z.toInt = (0 : Int32).toInt := b134_z
        replace hm_z := rn_iconst (w := 0) (am_cur_of (i := (122, 1, .iconst 0, (0, 0, 0), 0)) (by decide +kernel)) (by decide) hm_z
        replace hm_z := rn_ior (w := x ||| 0) (am_cur_of (i := (123, 1, .ior, (0, 0, 0), 0)) (by decide +kernel)) rfl hm_z
        replace hm_z := rn_istore_n (am_cur_of (i := (124, 1, .istore_n 1, (0, 0, 0), 0)) (by decide +kernel)) hm_z
        obtain ⟨_, s135_z, s136_z, g1_z, hm_z⟩ := hm_z
        replace g0_z := s135_z 0 _ (by decide) rfl g0_z
        replace g2_z := s135_z 2 _ (by decide) rfl g2_z
        replace g3_z := s135_z 3 _ (by decide) rfl g3_z
        clear s135_z s136_z
        replace hm_z := rn_iinc (w := i + 1) (am_cur_of (i := (125, 3, .iinc 3 1, (0, 0, 0), 0)) (by decide +kernel)) g3_z rfl hm_z
        obtain ⟨_, s137_z, s138_z, g3_z, hm_z⟩ := hm_z
        replace g0_z := s137_z 0 _ (by decide) rfl g0_z
        replace g1_z := s137_z 1 _ (by decide) rfl g1_z
        replace g2_z := s137_z 2 _ (by decide) rfl g2_z
        clear s137_z s138_z
        replace hm_z := rn_gotoL (am_cur_of (i := (128, 3, .goto (-33), (59, 0, 0), 0)) (by decide +kernel)) hm_z
        exact ih_z _ _ _ _ g0_z g1_z g2_z g3_z hm_z
      · replace b134_z : ¬ v133_z = (0 : Int32) ∧ ¬ v133_z.toInt = (0 : Int32).toInt := b134_z
        replace hm_z := rn_iconst (w := 1) (am_cur_of (i := (116, 1, .iconst 1, (0, 0, 0), 0)) (by decide +kernel)) (by decide) hm_z
        replace hm_z := rn_iload_n (am_cur_of (i := (117, 1, .iload_n 3, (0, 0, 0), 0)) (by decide +kernel)) g3_z hm_z
        replace hm_z := rn_ishl (w := (1 : Int32) <<< (i &&& 31)) (am_cur_of (i := (118, 1, .ishl, (0, 0, 0), 0)) (by decide +kernel)) rfl hm_z
        replace hm_z := rn_goto (am_cur_of (i := (119, 3, .goto 4, (75, 0, 0), 0)) (by decide +kernel)) hm_z
        replace hm_z := rn_ior (w := x ||| ((1 : Int32) <<< (i &&& 31))) (am_cur_of (i := (123, 1, .ior, (0, 0, 0), 0)) (by decide +kernel)) rfl hm_z
        replace hm_z := rn_istore_n (am_cur_of (i := (124, 1, .istore_n 1, (0, 0, 0), 0)) (by decide +kernel)) hm_z
        obtain ⟨_, s139_z, s140_z, g1_z, hm_z⟩ := hm_z
        replace g0_z := s139_z 0 _ (by decide) rfl g0_z
        replace g2_z := s139_z 2 _ (by decide) rfl g2_z
        replace g3_z := s139_z 3 _ (by decide) rfl g3_z
        clear s139_z s140_z
        replace hm_z := rn_iinc (w := i + 1) (am_cur_of (i := (125, 3, .iinc 3 1, (0, 0, 0), 0)) (by decide +kernel)) g3_z rfl hm_z
        obtain ⟨_, s141_z, s142_z, g3_z, hm_z⟩ := hm_z
        replace g0_z := s141_z 0 _ (by decide) rfl g0_z
        replace g1_z := s141_z 1 _ (by decide) rfl g1_z
        replace g2_z := s141_z 2 _ (by decide) rfl g2_z
        clear s141_z s142_z
        replace hm_z := rn_gotoL (am_cur_of (i := (128, 3, .goto (-33), (59, 0, 0), 0)) (by decide +kernel)) hm_z
        exact ih_z _ _ _ _ g0_z g1_z g2_z g3_z hm_z
theorem ft_b {r : Option Value} {g' : am_H} : ∀ (f : Nat) (i : Int32) (ls : am_L) (g : am_H), am_get ls 0 = some (.ref 164) → am_get ls 1 = some (.int i) → rn f am_m244 21 ls [] g r g' → rg_v g' 164 57 = rg_v g 164 57 := by
  intro f
  induction f with
  | zero => intro i ls g g0_z g1_z hm_z; exact absurd hm_z rn_0
  | succ f ih_z =>
    intro i ls g g0_z g1_z hm_z
    have z0_z : (0 : Int32).toInt = 0 := by decide
    replace hm_z := rn_iload_n (am_cur_of (i := (35, 1, .iload_n 1, (0, 0, 0), 0)) (by decide +kernel)) g1_z hm_z
    replace hm_z := rn_if (am_cur_of (i := (36, 3, .ifCond .lt 45, (49, 0, 0), 0)) (by decide +kernel)) hm_z
    rcases hm_z with ⟨b143_z, hm_z⟩ | ⟨b143_z, hm_z⟩
    · replace b143_z : i.toInt < (0 : Int32).toInt := b143_z
      replace hm_z := rn_iconst (w := 0) (am_cur_of (i := (81, 1, .iconst 0, (0, 0, 0), 0)) (by decide +kernel)) (by decide) hm_z
      replace hm_z := rn_istore_n (am_cur_of (i := (82, 1, .istore_n 1, (0, 0, 0), 0)) (by decide +kernel)) hm_z
      obtain ⟨_, s144_z, s145_z, g1_z, hm_z⟩ := hm_z
      replace g0_z := s144_z 0 _ (by decide) rfl g0_z
      clear s144_z s145_z
      replace hm_z := rn_aload_n (am_cur_of (i := (83, 1, .aload_n 0, (0, 0, 0), 0)) (by decide +kernel)) g0_z hm_z
      replace hm_z := rn_getI (v := rg_v g 164 57) (am_cur_of (i := (84, 3, .getfield 349, (12, 57, 1441), 0)) (by decide +kernel)) (by decide +kernel) rfl hm_z
      replace hm_z := rn_istore_n (am_cur_of (i := (87, 1, .istore_n 2, (0, 0, 0), 0)) (by decide +kernel)) hm_z
      obtain ⟨_, s146_z, s147_z, g2_z, hm_z⟩ := hm_z
      replace g0_z := s146_z 0 _ (by decide) rfl g0_z
      replace g1_z := s146_z 1 _ (by decide) rfl g1_z
      clear s146_z s147_z
      replace hm_z := rn_aload_n (am_cur_of (i := (88, 1, .aload_n 0, (0, 0, 0), 0)) (by decide +kernel)) g0_z hm_z
      replace hm_z := rn_iconst (w := 0) (am_cur_of (i := (89, 1, .iconst 0, (0, 0, 0), 0)) (by decide +kernel)) (by decide) hm_z
      replace hm_z := rn_put (am_cur_of (i := (90, 3, .putfield 349, (12, 57, 1441), 0)) (by decide +kernel)) (by decide +kernel) hm_z
      replace hm_z := rn_iconst (w := 0) (am_cur_of (i := (93, 1, .iconst 0, (0, 0, 0), 0)) (by decide +kernel)) (by decide) hm_z
      replace hm_z := rn_istore_n (am_cur_of (i := (94, 1, .istore_n 3, (0, 0, 0), 0)) (by decide +kernel)) hm_z
      obtain ⟨_, s148_z, s149_z, g3_z, hm_z⟩ := hm_z
      replace g0_z := s148_z 0 _ (by decide) rfl g0_z
      replace g1_z := s148_z 1 _ (by decide) rfl g1_z
      replace g2_z := s148_z 2 _ (by decide) rfl g2_z
      clear s148_z s149_z
      exact ft_c _ _ _ _ _ g0_z g1_z g2_z g3_z hm_z
    · replace b143_z : (0 : Int32).toInt ≤ i.toInt := b143_z
      replace hm_z := rn_aload_n (am_cur_of (i := (39, 1, .aload_n 0, (0, 0, 0), 0)) (by decide +kernel)) g0_z hm_z
      replace hm_z := rn_getR (x := 199) (am_cur_of (i := (40, 3, .getfield 124, (12, 76, 1460), 0)) (by decide +kernel)) (by decide +kernel) hm_z
      replace hm_z := rn_iload_n (am_cur_of (i := (43, 1, .iload_n 1, (0, 0, 0), 0)) (by decide +kernel)) g1_z hm_z
      replace hm_z := rn_baload (N := 24) (q := i.toNatClampNeg) (v := rg_v g 199 i.toNatClampNeg) (am_cur_of (i := (44, 1, .baload, (0, 0, 0), 0)) (by decide +kernel)) (by decide +kernel) rfl rfl hm_z
      obtain ⟨p150_z, hm_z⟩ := hm_z
      replace hm_z := rn_if (am_cur_of (i := (45, 3, .ifCond .eq 30, (47, 0, 0), 0)) (by decide +kernel)) hm_z
      rcases hm_z with ⟨b151_z, hm_z⟩ | ⟨b151_z, hm_z⟩
      · replace b151_z : (rg_v g 199 i.toNatClampNeg) = (0 : Int32) ∧ (rg_v g 199 i.toNatClampNeg).toInt = (0 : Int32).toInt := b151_z
        replace hm_z := rn_iinc (w := i + (-1)) (am_cur_of (i := (75, 3, .iinc 1 (-1), (0, 0, 0), 0)) (by decide +kernel)) g1_z (congrArg (fun z => i + z) (show Int32.ofInt (-1) = (-1) by decide)) hm_z
        obtain ⟨_, s152_z, s153_z, g1_z, hm_z⟩ := hm_z
        replace g0_z := s152_z 0 _ (by decide) rfl g0_z
        clear s152_z s153_z
        replace hm_z := rn_gotoL (am_cur_of (i := (78, 3, .goto (-43), (21, 0, 0), 0)) (by decide +kernel)) hm_z
        exact (ih_z _ _ _ g0_z g1_z hm_z).trans (rfl)
      · replace b151_z : ¬ (rg_v g 199 i.toNatClampNeg) = (0 : Int32) ∧ ¬ (rg_v g 199 i.toNatClampNeg).toInt = (0 : Int32).toInt := b151_z
        replace hm_z := rn_aload_n (am_cur_of (i := (48, 1, .aload_n 0, (0, 0, 0), 0)) (by decide +kernel)) g0_z hm_z
        replace hm_z := rn_getR (x := 198) (am_cur_of (i := (49, 3, .getfield 121, (12, 75, 1459), 0)) (by decide +kernel)) (by decide +kernel) hm_z
        replace hm_z := rn_iconst (w := 4) (am_cur_of (i := (52, 1, .iconst 4, (0, 0, 0), 0)) (by decide +kernel)) (by decide) hm_z
        replace hm_z := rn_iload_n (am_cur_of (i := (53, 1, .iload_n 1, (0, 0, 0), 0)) (by decide +kernel)) g1_z hm_z
        replace hm_z := rn_imul (w := (4 : Int32) * i) (am_cur_of (i := (54, 1, .imul, (0, 0, 0), 0)) (by decide +kernel)) rfl hm_z
        replace hm_z := rn_iaload (N := 96) (q := ((4 : Int32) * i).toNatClampNeg) (v := rg_v g 198 (((4 : Int32) * i).toNatClampNeg)) (am_cur_of (i := (55, 1, .iaload, (0, 0, 0), 0)) (by decide +kernel)) (by decide +kernel) rfl rfl hm_z
        obtain ⟨p154_z, hm_z⟩ := hm_z
        replace hm_z := rn_if (am_cur_of (i := (56, 3, .ifCond .ge 19, (47, 0, 0), 0)) (by decide +kernel)) hm_z
        rcases hm_z with ⟨b155_z, hm_z⟩ | ⟨b155_z, hm_z⟩
        · replace b155_z : (0 : Int32).toInt ≤ (rg_v g 198 (((4 : Int32) * i).toNatClampNeg)).toInt := b155_z
          replace hm_z := rn_iinc (w := i + (-1)) (am_cur_of (i := (75, 3, .iinc 1 (-1), (0, 0, 0), 0)) (by decide +kernel)) g1_z (congrArg (fun z => i + z) (show Int32.ofInt (-1) = (-1) by decide)) hm_z
          obtain ⟨_, s156_z, s157_z, g1_z, hm_z⟩ := hm_z
          replace g0_z := s156_z 0 _ (by decide) rfl g0_z
          clear s156_z s157_z
          replace hm_z := rn_gotoL (am_cur_of (i := (78, 3, .goto (-43), (21, 0, 0), 0)) (by decide +kernel)) hm_z
          exact (ih_z _ _ _ g0_z g1_z hm_z).trans (rfl)
        · replace b155_z : (rg_v g 198 (((4 : Int32) * i).toNatClampNeg)).toInt < (0 : Int32).toInt := b155_z
          replace hm_z := rn_aload_n (am_cur_of (i := (59, 1, .aload_n 0, (0, 0, 0), 0)) (by decide +kernel)) g0_z hm_z
          replace hm_z := rn_getR (x := 199) (am_cur_of (i := (60, 3, .getfield 124, (12, 76, 1460), 0)) (by decide +kernel)) (by decide +kernel) hm_z
          replace hm_z := rn_aload_n (am_cur_of (i := (63, 1, .aload_n 0, (0, 0, 0), 0)) (by decide +kernel)) g0_z hm_z
          replace hm_z := rn_getR (x := 198) (am_cur_of (i := (64, 3, .getfield 121, (12, 75, 1459), 0)) (by decide +kernel)) (by decide +kernel) hm_z
          replace hm_z := rn_iconst (w := 4) (am_cur_of (i := (67, 1, .iconst 4, (0, 0, 0), 0)) (by decide +kernel)) (by decide) hm_z
          replace hm_z := rn_iload_n (am_cur_of (i := (68, 1, .iload_n 1, (0, 0, 0), 0)) (by decide +kernel)) g1_z hm_z
          replace hm_z := rn_imul (w := (4 : Int32) * i) (am_cur_of (i := (69, 1, .imul, (0, 0, 0), 0)) (by decide +kernel)) rfl hm_z
          replace hm_z := rn_iconst (w := 1) (am_cur_of (i := (70, 1, .iconst 1, (0, 0, 0), 0)) (by decide +kernel)) (by decide) hm_z
          replace hm_z := rn_iadd (w := ((4 : Int32) * i) + 1) (am_cur_of (i := (71, 1, .iadd, (0, 0, 0), 0)) (by decide +kernel)) rfl hm_z
          replace hm_z := rn_iaload (N := 96) (q := (((4 : Int32) * i) + 1).toNatClampNeg) (v := rg_v g 198 ((((4 : Int32) * i) + 1).toNatClampNeg)) (am_cur_of (i := (72, 1, .iaload, (0, 0, 0), 0)) (by decide +kernel)) (by decide +kernel) rfl rfl hm_z
          obtain ⟨p158_z, hm_z⟩ := hm_z
          replace hm_z := rn_iconst (w := 0) (am_cur_of (i := (73, 1, .iconst 0, (0, 0, 0), 0)) (by decide +kernel)) (by decide) hm_z
          replace hm_z := rn_bastore (N := 24) (q := (rg_v g 198 ((((4 : Int32) * i) + 1).toNatClampNeg)).toNatClampNeg) (am_cur_of (i := (74, 1, .bastore, (0, 0, 0), 0)) (by decide +kernel)) (by decide +kernel) rfl hm_z
          obtain ⟨p159_z, hm_z⟩ := hm_z
          replace hm_z := rn_iinc (w := i + (-1)) (am_cur_of (i := (75, 3, .iinc 1 (-1), (0, 0, 0), 0)) (by decide +kernel)) g1_z (congrArg (fun z => i + z) (show Int32.ofInt (-1) = (-1) by decide)) hm_z
          obtain ⟨_, s160_z, s161_z, g1_z, hm_z⟩ := hm_z
          replace g0_z := s160_z 0 _ (by decide) rfl g0_z
          clear s160_z s161_z
          replace hm_z := rn_gotoL (am_cur_of (i := (78, 3, .goto (-43), (21, 0, 0), 0)) (by decide +kernel)) hm_z
          exact (ih_z _ _ _ g0_z g1_z hm_z).trans ((rg_v_other (by omega)).trans (rfl))
theorem ft_a {r : Option Value} {g' : am_H} : ∀ (f : Nat) (i : Int32) (ls : am_L) (g : am_H), am_get ls 0 = some (.ref 164) → am_get ls 1 = some (.int i) → rn f am_m244 5 ls [] g r g' → rg_v g' 164 57 = rg_v g 164 57 := by
  intro f
  induction f with
  | zero => intro i ls g g0_z g1_z hm_z; exact absurd hm_z rn_0
  | succ f ih_z =>
    intro i ls g g0_z g1_z hm_z
    have z0_z : (0 : Int32).toInt = 0 := by decide
    replace hm_z := rn_iload_n (am_cur_of (i := (7, 1, .iload_n 1, (0, 0, 0), 0)) (by decide +kernel)) g1_z hm_z
    replace hm_z := rn_aload_n (am_cur_of (i := (8, 1, .aload_n 0, (0, 0, 0), 0)) (by decide +kernel)) g0_z hm_z
    replace hm_z := rn_callV (M' := am_m245) (o := 164) (ar := []) (rest := [.int i]) (L := lv_args 0 [.ref 164]) (am_cur_of (i := (9, 3, .invokevirtual 524, (245, 2011, 3), 0)) (by decide +kernel)) rfl rfl rfl rfl hm_z
    obtain ⟨r162_z, h163_z, q164_z, hm_z⟩ := hm_z
    rcases ft_245 q164_z with ⟨b165_z, rfl, y166_z⟩ | ⟨b167_z, rfl, y168_z⟩
    · replace y166_z := y166_z.symm
      subst y166_z
      replace b165_z : (0 : Int32).toInt ≤ ((rg_v g 164 74)).toInt := b165_z
      replace hm_z : rn _ _ _ _ [.int (rg_v g 164 74), .int i] _ _ _ := hm_z
      replace hm_z := rn_cmp (am_cur_of (i := (12, 3, .if_icmp .ge 16, (16, 0, 0), 0)) (by decide +kernel)) hm_z
      rcases hm_z with ⟨b169_z, hm_z⟩ | ⟨b169_z, hm_z⟩
      · replace b169_z : (rg_v g 164 74).toInt ≤ i.toInt := b169_z
        replace hm_z := rn_aload_n (am_cur_of (i := (28, 1, .aload_n 0, (0, 0, 0), 0)) (by decide +kernel)) g0_z hm_z
        replace hm_z := rn_callV (M' := am_m245) (o := 164) (ar := []) (rest := []) (L := lv_args 0 [.ref 164]) (am_cur_of (i := (29, 3, .invokevirtual 524, (245, 2011, 3), 0)) (by decide +kernel)) rfl rfl rfl rfl hm_z
        obtain ⟨r170_z, h171_z, q172_z, hm_z⟩ := hm_z
        rcases ft_245 q172_z with ⟨b173_z, rfl, y174_z⟩ | ⟨b175_z, rfl, y176_z⟩
        · replace y174_z := y174_z.symm
          subst y174_z
          replace b173_z : (0 : Int32).toInt ≤ ((rg_v g 164 74)).toInt := b173_z
          replace hm_z : rn _ _ _ _ [.int (rg_v g 164 74)] _ _ _ := hm_z
          replace hm_z := rn_iconst (w := 1) (am_cur_of (i := (32, 1, .iconst 1, (0, 0, 0), 0)) (by decide +kernel)) (by decide) hm_z
          replace hm_z := rn_isub (w := (rg_v g 164 74) - 1) (am_cur_of (i := (33, 1, .isub, (0, 0, 0), 0)) (by decide +kernel)) rfl hm_z
          replace hm_z := rn_istore_n (am_cur_of (i := (34, 1, .istore_n 1, (0, 0, 0), 0)) (by decide +kernel)) hm_z
          obtain ⟨_, s177_z, s178_z, g1_z, hm_z⟩ := hm_z
          replace g0_z := s177_z 0 _ (by decide) rfl g0_z
          clear s177_z s178_z
          exact (ft_b _ _ _ _ g0_z g1_z hm_z).trans (rfl)
        · replace y176_z := y176_z.symm
          subst y176_z
          replace b175_z : ((rg_v g 164 74)).toInt < (0 : Int32).toInt := b175_z
          replace hm_z : rn _ _ _ _ [.int (rg_v g 164 73)] _ _ _ := hm_z
          replace hm_z := rn_iconst (w := 1) (am_cur_of (i := (32, 1, .iconst 1, (0, 0, 0), 0)) (by decide +kernel)) (by decide) hm_z
          replace hm_z := rn_isub (w := (rg_v g 164 73) - 1) (am_cur_of (i := (33, 1, .isub, (0, 0, 0), 0)) (by decide +kernel)) rfl hm_z
          replace hm_z := rn_istore_n (am_cur_of (i := (34, 1, .istore_n 1, (0, 0, 0), 0)) (by decide +kernel)) hm_z
          obtain ⟨_, s179_z, s180_z, g1_z, hm_z⟩ := hm_z
          replace g0_z := s179_z 0 _ (by decide) rfl g0_z
          clear s179_z s180_z
          exact (ft_b _ _ _ _ g0_z g1_z hm_z).trans (rfl)
      · replace b169_z : i.toInt < (rg_v g 164 74).toInt := b169_z
        replace hm_z := rn_aload_n (am_cur_of (i := (15, 1, .aload_n 0, (0, 0, 0), 0)) (by decide +kernel)) g0_z hm_z
        replace hm_z := rn_getR (x := 199) (am_cur_of (i := (16, 3, .getfield 124, (12, 76, 1460), 0)) (by decide +kernel)) (by decide +kernel) hm_z
        replace hm_z := rn_iload_n (am_cur_of (i := (19, 1, .iload_n 1, (0, 0, 0), 0)) (by decide +kernel)) g1_z hm_z
        replace hm_z := rn_iconst (w := 1) (am_cur_of (i := (20, 1, .iconst 1, (0, 0, 0), 0)) (by decide +kernel)) (by decide) hm_z
        replace hm_z := rn_bastore (N := 24) (q := i.toNatClampNeg) (am_cur_of (i := (21, 1, .bastore, (0, 0, 0), 0)) (by decide +kernel)) (by decide +kernel) rfl hm_z
        obtain ⟨p181_z, hm_z⟩ := hm_z
        replace hm_z := rn_iinc (w := i + 1) (am_cur_of (i := (22, 3, .iinc 1 1, (0, 0, 0), 0)) (by decide +kernel)) g1_z rfl hm_z
        obtain ⟨_, s182_z, s183_z, g1_z, hm_z⟩ := hm_z
        replace g0_z := s182_z 0 _ (by decide) rfl g0_z
        clear s182_z s183_z
        replace hm_z := rn_gotoL (am_cur_of (i := (25, 3, .goto (-18), (5, 0, 0), 0)) (by decide +kernel)) hm_z
        exact (ih_z _ _ _ g0_z g1_z hm_z).trans ((rg_v_other (by omega)).trans (rfl))
    · replace y168_z := y168_z.symm
      subst y168_z
      replace b167_z : ((rg_v g 164 74)).toInt < (0 : Int32).toInt := b167_z
      replace hm_z : rn _ _ _ _ [.int (rg_v g 164 73), .int i] _ _ _ := hm_z
      replace hm_z := rn_cmp (am_cur_of (i := (12, 3, .if_icmp .ge 16, (16, 0, 0), 0)) (by decide +kernel)) hm_z
      rcases hm_z with ⟨b184_z, hm_z⟩ | ⟨b184_z, hm_z⟩
      · replace b184_z : (rg_v g 164 73).toInt ≤ i.toInt := b184_z
        replace hm_z := rn_aload_n (am_cur_of (i := (28, 1, .aload_n 0, (0, 0, 0), 0)) (by decide +kernel)) g0_z hm_z
        replace hm_z := rn_callV (M' := am_m245) (o := 164) (ar := []) (rest := []) (L := lv_args 0 [.ref 164]) (am_cur_of (i := (29, 3, .invokevirtual 524, (245, 2011, 3), 0)) (by decide +kernel)) rfl rfl rfl rfl hm_z
        obtain ⟨r185_z, h186_z, q187_z, hm_z⟩ := hm_z
        rcases ft_245 q187_z with ⟨b188_z, rfl, y189_z⟩ | ⟨b190_z, rfl, y191_z⟩
        · replace y189_z := y189_z.symm
          subst y189_z
          replace b188_z : (0 : Int32).toInt ≤ ((rg_v g 164 74)).toInt := b188_z
          replace hm_z : rn _ _ _ _ [.int (rg_v g 164 74)] _ _ _ := hm_z
          replace hm_z := rn_iconst (w := 1) (am_cur_of (i := (32, 1, .iconst 1, (0, 0, 0), 0)) (by decide +kernel)) (by decide) hm_z
          replace hm_z := rn_isub (w := (rg_v g 164 74) - 1) (am_cur_of (i := (33, 1, .isub, (0, 0, 0), 0)) (by decide +kernel)) rfl hm_z
          replace hm_z := rn_istore_n (am_cur_of (i := (34, 1, .istore_n 1, (0, 0, 0), 0)) (by decide +kernel)) hm_z
          obtain ⟨_, s192_z, s193_z, g1_z, hm_z⟩ := hm_z
          replace g0_z := s192_z 0 _ (by decide) rfl g0_z
          clear s192_z s193_z
          exact (ft_b _ _ _ _ g0_z g1_z hm_z).trans (rfl)
        · replace y191_z := y191_z.symm
          subst y191_z
          replace b190_z : ((rg_v g 164 74)).toInt < (0 : Int32).toInt := b190_z
          replace hm_z : rn _ _ _ _ [.int (rg_v g 164 73)] _ _ _ := hm_z
          replace hm_z := rn_iconst (w := 1) (am_cur_of (i := (32, 1, .iconst 1, (0, 0, 0), 0)) (by decide +kernel)) (by decide) hm_z
          replace hm_z := rn_isub (w := (rg_v g 164 73) - 1) (am_cur_of (i := (33, 1, .isub, (0, 0, 0), 0)) (by decide +kernel)) rfl hm_z
          replace hm_z := rn_istore_n (am_cur_of (i := (34, 1, .istore_n 1, (0, 0, 0), 0)) (by decide +kernel)) hm_z
          obtain ⟨_, s194_z, s195_z, g1_z, hm_z⟩ := hm_z
          replace g0_z := s194_z 0 _ (by decide) rfl g0_z
          clear s194_z s195_z
          exact (ft_b _ _ _ _ g0_z g1_z hm_z).trans (rfl)
      · replace b184_z : i.toInt < (rg_v g 164 73).toInt := b184_z
        replace hm_z := rn_aload_n (am_cur_of (i := (15, 1, .aload_n 0, (0, 0, 0), 0)) (by decide +kernel)) g0_z hm_z
        replace hm_z := rn_getR (x := 199) (am_cur_of (i := (16, 3, .getfield 124, (12, 76, 1460), 0)) (by decide +kernel)) (by decide +kernel) hm_z
        replace hm_z := rn_iload_n (am_cur_of (i := (19, 1, .iload_n 1, (0, 0, 0), 0)) (by decide +kernel)) g1_z hm_z
        replace hm_z := rn_iconst (w := 1) (am_cur_of (i := (20, 1, .iconst 1, (0, 0, 0), 0)) (by decide +kernel)) (by decide) hm_z
        replace hm_z := rn_bastore (N := 24) (q := i.toNatClampNeg) (am_cur_of (i := (21, 1, .bastore, (0, 0, 0), 0)) (by decide +kernel)) (by decide +kernel) rfl hm_z
        obtain ⟨p196_z, hm_z⟩ := hm_z
        replace hm_z := rn_iinc (w := i + 1) (am_cur_of (i := (22, 3, .iinc 1 1, (0, 0, 0), 0)) (by decide +kernel)) g1_z rfl hm_z
        obtain ⟨_, s197_z, s198_z, g1_z, hm_z⟩ := hm_z
        replace g0_z := s197_z 0 _ (by decide) rfl g0_z
        clear s197_z s198_z
        replace hm_z := rn_gotoL (am_cur_of (i := (25, 3, .goto (-18), (5, 0, 0), 0)) (by decide +kernel)) hm_z
        exact (ih_z _ _ _ g0_z g1_z hm_z).trans ((rg_v_other (by omega)).trans (rfl))
theorem ft_244 {n : Nat} {r : Option Value} {g g' : am_H} (hm_z : rn n am_m244 0 (lv_args 0 [.ref 164]) [] g r g') : rg_v g' 164 57 = rg_v g 164 57 := by
  have g0_z : am_get (lv_args 0 [.ref 164]) 0 = some (.ref 164) := rfl
  replace hm_z := rn_aload_n (am_cur_of (i := (0, 1, .aload_n 0, (0, 0, 0), 0)) (by decide +kernel)) g0_z hm_z
  replace hm_z := rn_iconst (w := 0) (am_cur_of (i := (1, 1, .iconst 0, (0, 0, 0), 0)) (by decide +kernel)) (by decide) hm_z
  replace hm_z := rn_put (am_cur_of (i := (2, 3, .putfield 139, (12, 2, 1386), 0)) (by decide +kernel)) (by decide +kernel) hm_z
  replace hm_z := rn_iconst (w := 0) (am_cur_of (i := (5, 1, .iconst 0, (0, 0, 0), 0)) (by decide +kernel)) (by decide) hm_z
  replace hm_z := rn_istore_n (am_cur_of (i := (6, 1, .istore_n 1, (0, 0, 0), 0)) (by decide +kernel)) hm_z
  obtain ⟨_, s199_z, s200_z, g1_z, hm_z⟩ := hm_z
  replace g0_z := s199_z 0 _ (by decide) rfl g0_z
  clear s199_z s200_z
  exact (ft_a _ _ _ _ g0_z g1_z hm_z).trans ((rg_v_other (by omega)).trans (rfl))
def PV (h : am_H) : Prop := ∀ p, h 0 2 = .ref p → pv p h
def R8 (h : am_H) : Prop := R7 h ∧ PV h ∧ St 1 h h
def cqB (q : Nat × Nat) : Bool := !((Nat.ble 48 q.1 && Nat.ble q.1 51) || (Nat.ble 56 q.1 && Nat.ble q.1 59) || (Nat.ble 62 q.1 && Nat.ble q.1 141) || (Nat.beq q.1 0 && (Nat.beq q.2 0 || Nat.beq q.2 9)) || (Nat.beq q.1 60 && (Nat.beq q.2 0 || Nat.beq q.2 2 || Nat.beq q.2 3)))
def m2B (q : Nat × Nat) : Bool := !((Nat.beq q.1 164 && (Nat.beq q.2 0 || Nat.beq q.2 58 || Nat.beq q.2 78 || Nat.beq q.2 80)) || Nat.beq q.1 200 || Nat.beq q.1 201)
def m3B (q : Nat × Nat) : Bool := !((Nat.beq q.1 164 && (Nat.beq q.2 0 || Nat.beq q.2 78 || Nat.beq q.2 80)) || Nat.beq q.1 200 || Nat.beq q.1 201)
def m1B (q : Nat × Nat) : Bool := !((Nat.ble 188 q.1 && Nat.ble q.1 194) && Nat.ble q.2 4)
theorem in_of {md : List (Nat × Nat)} {o k : Nat} {f : Nat × Nat → Bool} (hb_z : md.all f = true) (h0_z : f (o, 0) = false) (h1_z : f (o, k + 1) = false) : ab_in md o k = false := by
  cases q : ab_in md o k with
  | false => rfl
  | true =>
    obtain ⟨⟨a, b⟩, hw_z, hq_z⟩ := List.any_eq_true.mp q
    rw [Bool.and_eq_true, Bool.or_eq_true] at hq_z
    have e1_z := Nat.eq_of_beq_eq_true hq_z.1
    have e2_z := List.all_eq_true.mp hb_z _ hw_z
    dsimp only at e1_z
    subst e1_z
    rcases hq_z.2 with z | z
    · have := Nat.eq_of_beq_eq_true z
      dsimp only at this
      subst this
      rw [h0_z] at e2_z
      cases e2_z
    · have := Nat.eq_of_beq_eq_true z
      dsimp only at this
      subst this
      rw [h1_z] at e2_z
      cases e2_z
theorem ble_t {a b : Nat} (h : a ≤ b) : Nat.ble a b = true := Nat.ble_eq_true_of_le h
theorem cq_in {md : List (Nat × Nat)} {o k : Nat} (hb_z : md.all cqB = true) (h : cQ o k) : ab_in md o k = false := by
  refine in_of hb_z ?_ ?_
  · unfold cQ at h
    unfold cqB
    dsimp only
    rcases h with ⟨a, b⟩ | ⟨a, b⟩ | ⟨rfl, rfl⟩ | ⟨rfl, rfl | rfl⟩ | ⟨a, b⟩
    · rw [ble_t a, ble_t b]; rfl
    · rw [ble_t a, ble_t b]; simp
    · rfl
    · rfl
    · rfl
    · rw [ble_t a, ble_t b]; simp
  · unfold cQ at h
    unfold cqB
    dsimp only
    rcases h with ⟨a, b⟩ | ⟨a, b⟩ | ⟨rfl, rfl⟩ | ⟨rfl, rfl | rfl⟩ | ⟨a, b⟩
    · rw [ble_t a, ble_t b]; rfl
    · rw [ble_t a, ble_t b]; simp
    · rfl
    · rfl
    · rfl
    · rw [ble_t a, ble_t b]; simp
/-- the rows of undo, the image, what is told of them -/
def mR (o q : Nat) : Prop := (o = 164 ∧ (q = 77 ∨ q = 79)) ∨ o = 200 ∨ o = 201
theorem m3_in {md : List (Nat × Nat)} {o q : Nat} (hb_z : md.all m3B = true) (h : mR o q) : ab_in md o q = false := by
  refine in_of hb_z ?_ ?_
  · rcases h with ⟨rfl, rfl | rfl⟩ | rfl | rfl <;> rfl
  · rcases h with ⟨rfl, rfl | rfl⟩ | rfl | rfl <;> rfl
theorem m2_in {md : List (Nat × Nat)} {o q : Nat} (hb_z : md.all m2B = true) (h : mR o q ∨ (o = 164 ∧ q = 57)) : ab_in md o q = false := by
  refine in_of hb_z ?_ ?_
  · rcases h with (⟨rfl, rfl | rfl⟩ | rfl | rfl) | ⟨rfl, rfl⟩ <;> rfl
  · rcases h with (⟨rfl, rfl | rfl⟩ | rfl | rfl) | ⟨rfl, rfl⟩ <;> rfl
theorem m1_in {md : List (Nat × Nat)} {o q : Nat} (hb_z : md.all m1B = true) (h : (188 ≤ o ∧ o ≤ 194) ∧ q < 4) : ab_in md o q = false := by
  refine in_of hb_z ?_ ?_
  · unfold m1B
    dsimp only
    rw [ble_t h.1.1, ble_t h.1.2]
    rfl
  · unfold m1B
    dsimp only
    rw [ble_t h.1.1, ble_t h.1.2, ble_t (show q + 1 ≤ 4 by omega)]
    rfl
theorem mq_in {md : List (Nat × Nat)} {o q : Nat} (h2_z : md.all m2B = true) (h1_z : md.all m1B = true) (h : mQ o q) : ab_in md o q = false := by
  unfold mQ at h
  rcases h with ⟨a, b⟩ | h | h | ⟨a, b, c⟩ | ⟨a, b⟩ | ⟨a, b, c⟩
  · refine m2_in h2_z ?_
    unfold mR
    omega
  · exact m2_in h2_z (by unfold mR; omega)
  · exact m2_in h2_z (by unfold mR; omega)
  · exact m1_in h1_z (by omega)
  · exact m1_in h1_z (by omega)
  · exact m1_in h1_z (by omega)
def okC (md : List (Nat × Nat)) : Bool := md.all cqB && (md.all m2B && md.all m1B)
theorem St_c {md : List (Nat × Nat)} {h h' : am_H} (hb_z : okC md = true) (f : ab_Fr md h h') (S : St 1 h h) : St 1 h' h' := by
  unfold okC at hb_z
  simp only [Bool.and_eq_true] at hb_z
  exact St_e (by decide) (fun o k q => rg_v_fr f (cq_in hb_z.1 q)) (fun o q e => rg_v_fr f (mq_in hb_z.2.1 hb_z.2.2 e)) S
/-- a trial of the model -/
theorem St_m {md : List (Nat × Nat)} {h h' : am_H} (hb_z : (md.all cqB && md.all m3B) = true) (f : ab_Fr md h h') (b : bk h h') (e : rg_v h' 164 57 = rg_v h 164 57) (S : St 1 h h) : St 1 h' h' := by
  simp only [Bool.and_eq_true] at hb_z
  refine St_e (by decide) (fun o k q => rg_v_fr f (cq_in hb_z.1 q)) (fun o q m => ?_) S
  unfold mQ at m
  rcases m with ⟨rfl, rfl | rfl | rfl⟩ | m | m | ⟨a, c, rfl⟩ | ⟨rfl, rfl⟩ | ⟨a, c, d⟩
  · exact e
  · exact rg_v_fr f (m3_in hb_z.2 (by unfold mR; omega))
  · exact rg_v_fr f (m3_in hb_z.2 (by unfold mR; omega))
  · exact rg_v_fr f (m3_in hb_z.2 (by unfold mR; omega))
  · exact rg_v_fr f (m3_in hb_z.2 (by unfold mR; omega))
  · refine b o 0 ?_
    have h3_z : o = 188 ∨ o = 189 ∨ o = 190 := by omega
    rcases h3_z with rfl | rfl | rfl <;> rfl
  · exact b 194 0 rfl
  · refine b o q ?_
    have h3_z : o = 191 ∨ o = 192 ∨ o = 193 := by omega
    rcases h3_z with rfl | rfl | rfl
    · exact ble_t (show q ≤ 3 by omega)
    · exact ble_t (show q ≤ 3 by omega)
    · exact ble_t (show q ≤ 3 by omega)
theorem tk_G {t : Int32} {h : am_H} (hG : ag_G t h) : tk h := by
  refine ⟨fun q hq_z => ?_, ?_⟩
  · have z := hG.1 171 q (.inr (.int, 16)) (by decide +kernel) (show q < 16 from hq_z)
    rw [show ab_hi ab_tab 171 q = ab_i 0 3 from rfl] at z
    obtain ⟨x, e, x0_z, x1_z⟩ := z
    unfold rg_v
    rw [e]
    exact x0_z
  · have z := hG.1 164 12 (.inl 12) (by decide +kernel) (by decide)
    rw [show ab_hi ab_tab 164 12 = ab_i 0 4 from rfl] at z
    obtain ⟨x, e, x0_z, x1_z⟩ := z
    unfold rg_v
    rw [e]
    exact ⟨x0_z, x1_z⟩
theorem pQ_z {p o k : Nat} (h : pQ p o k) : zcB p o = false ∧ ¬ (o = p ∧ k = 18) := by
  have h2_z : (o = p ∧ ¬ k = 18) ∨ (p + 2 ≤ o ∧ o ≤ p + 8) ∨ (p + 17 ≤ o ∧ o ≤ p + 20) := h
  refine ⟨?_, by omega⟩
  obtain ⟨i, rfl⟩ : ∃ i, o = p + i := ⟨o - p, by omega⟩
  exact zcB_i (by omega)
theorem pv_z {p : Nat} {h h' : am_H} (z : zC p h h') (V : pv p h) : pv p h' := pv_e (fun o k q => z o k (pQ_z q).1 (pQ_z q).2) V
def okV (md : List (Nat × Nat)) : Bool := !(ab_in md 0 2) && md.all (fun q => zcB 2 q.1) && md.all (fun q => zcB 23 q.1)
theorem PV_c {md : List (Nat × Nat)} {h h' : am_H} (hb_z : okV md = true) (hf_z : ab_Fr md h h') (hD : tx_D h) (V : PV h) : PV h' := by
  unfold okV at hb_z
  simp only [Bool.and_eq_true, Bool.not_eq_true'] at hb_z
  obtain ⟨⟨b1_z, b2_z⟩, b3_z⟩ := hb_z
  intro p hp_z
  rw [hf_z 0 2 b1_z] at hp_z
  have v := V p hp_z
  rcases hD with ⟨-, e⟩ | ⟨-, e⟩
  · rw [e] at hp_z
    cases hp_z
    exact pv_z (zC_fr b3_z hf_z) v
  · rw [e] at hp_z
    cases hp_z
    exact pv_z (zC_fr b2_z hf_z) v
/-- the kept plan, the states of both, as a call begins -/
theorem R8_in {md : List (Nat × Nat)} {t : Int32} {h h1_z : am_H} (R : R8 h) (hG : ag_G t h) (hb_z : (md.all m2B && md.all m1B && md.all zmQ) = true) (f1_z : ab_Fr md h h1_z) : ∃ p, (p = 2 ∨ p = 23) ∧ h 0 2 = .ref p ∧ rK p h h1_z ∧ pv p h ∧ bt p h ∧ St 1 h h1_z ∧ (∀ b, b < 4 → (rg_v h (p + 17 + b) 3).toInt ≤ 20) := by
  simp only [Bool.and_eq_true] at hb_z
  obtain ⟨⟨b1_z, b2_z⟩, b3_z⟩ := hb_z
  have S : St 1 h h1_z := St_e (by decide) (fun _ _ _ => rfl) (fun o q e => rg_v_fr f1_z (mq_in b1_z b2_z e)) R.2.2
  have zm := zM_fr b3_z f1_z
  have T := ck_T hG
  rcases R.1.1.1.1.1.1 with ⟨-, e⟩ | ⟨-, e⟩
  · exact ⟨23, Or.inr rfl, e, rK_m zm (R.1.1.1.2 23 e), R.2.1 23 e, bt_23 hG, S, T.2⟩
  · exact ⟨2, Or.inl rfl, e, rK_m zm (R.1.1.1.2 2 e), R.2.1 2 e, bt_2 hG, S, T.1⟩
theorem bl_2 {n n' : Nat} {r r' : Option Value} {h h' g g' : am_H} {b m : Int32} (D : h 0 2 = .ref 2) (S : St 1 h g) (K : rK 2 h g) (V : pv 2 h) (B : bt 2 h) (T : ∀ b, b < 4 → (rg_v h (2 + 17 + b) 3).toInt ≤ 20) (hc_z : rn n am_m69 0 (lv_args 0 [.ref 0, .int b, .int m]) [] h r h') (hm_z : rn n' am_m196 0 (lv_args 0 [.ref 164, .int b, .int m]) [] g r' g') (cf_z : ∀ o k, (56 ≤ o ∧ o ≤ 59) ∨ (o = 0 ∧ k = 8) → rg_v h' o k = rg_v h o k) (mf : ∀ q, rg_v g' 201 q = rg_v g 201 q) (m79_z : rg_v g' 164 79 = rg_v g 164 79) : St 1 h' g' := by
  obtain ⟨-, ⟨k2_z, k20_z, k24_z⟩, -, -, -, ⟨C0, C1, C2, C3⟩, -, -, -⟩ := K
  have v2_z := V.2.1
  have SS := S
  obtain ⟨⟨sv, o1_z, o3_z, o5_z⟩, ⟨⟨n0_z, n1_z⟩, ⟨z0_z, z1_z⟩, e77_z, -⟩, -⟩ := S
  have u0_z : 0 ≤ (rg_v g 164 77).toInt := by rw [← e77_z]; exact z0_z
  have u20_z : (rg_v g 164 77).toInt ≤ 20 := by rw [← e77_z]; exact z1_z
  have g4_z : (rg_v g 164 12).toInt ≤ 4 := by rw [← k2_z]; exact k24_z
  have q1_z : rg_v g 189 0 = rg_v h 48 1 := (sv 1 (by decide) (by decide)).symm
  have q2_z : rg_v g 190 0 = rg_v h 48 2 := (sv 2 (by decide) (by decide)).symm
  by_cases hb_z : 0 ≤ b.toInt ∧ b.toInt < (rg_v h 2 2).toInt
  · have cb := rt_cl hb_z.1
    have b4_z : b.toNatClampNeg < 4 := by omega
    have KB : ∀ k, k < 8 → rg_v h (19 + b.toNatClampNeg) k = rK_bm g b.toNatClampNeg k := by
      intro k hk_z
      have h4_z : b.toNatClampNeg = 0 ∨ b.toNatClampNeg = 1 ∨ b.toNatClampNeg = 2 ∨ b.toNatClampNeg = 3 := by omega
      rcases h4_z with e | e | e | e
      · rw [e]; exact C0 (by omega) k hk_z
      · rw [e]; exact C1 (by omega) k hk_z
      · rw [e]; exact C2 (by omega) k hk_z
      · rw [e]; exact C3 (by omega) k hk_z
    have kb : ∀ f, f < 7 → rg_v g 170 (7 * b.toNatClampNeg + f) = rg_v h (19 + b.toNatClampNeg) (f + 1) := by
      intro f f7_z
      have q := KB (f + 1) (by omega)
      unfold rK_bm at q
      rw [if_neg (by omega), Nat.add_sub_cancel] at q
      exact q.symm
    have bb : ∀ f, 1 ≤ f → f < 8 → 0 ≤ (rg_v h (19 + b.toNatClampNeg) f).toInt ∧ (rg_v h (19 + b.toNatClampNeg) f).toInt ≤ 99 := fun f f1_z f8_z => B b.toNatClampNeg f b4_z f1_z f8_z
    have vt : 1 ≤ (rg_v h (19 + b.toNatClampNeg) 3).toInt := (v2_z b.toNatClampNeg (by omega)).2.1
    have v20_z : (rg_v h (19 + b.toNatClampNeg) 3).toInt ≤ 20 := T b.toNatClampNeg b4_z
    have z4_z : 4 * 0 + b.toNatClampNeg = b.toNatClampNeg := by omega
    have m5_z : rg_v g 191 b.toNatClampNeg = rg_v h 49 b.toNatClampNeg := by
      have q := sv (5 + b.toNatClampNeg) (by omega) (by omega)
      rw [cS_s b4_z, mS_s b4_z, z4_z] at q
      exact q.symm
    have m9_z : rg_v g 192 b.toNatClampNeg = rg_v h 50 b.toNatClampNeg := by
      have q := sv (9 + b.toNatClampNeg) (by omega) (by omega)
      rw [cS_a b4_z, mS_a b4_z, z4_z] at q
      exact q.symm
    have m13_z : rg_v g 193 b.toNatClampNeg = rg_v h 51 b.toNatClampNeg := by
      have q := sv (13 + b.toNatClampNeg) (by omega) (by omega)
      rw [cS_n b4_z, mS_n b4_z, z4_z] at q
      exact q.symm
    have c := se_69_2 D k24_z rfl rfl rfl rfl rfl rfl rfl rfl rfl o1_z.1 o1_z.2 (fun _ _ => ⟨bb 6 (by decide) (by decide), bb 4 (by decide) (by decide)⟩) n0_z n1_z z0_z z1_z hc_z
    have d := mf_196 g4_z q1_z q2_z m5_z m9_z m13_z (kb 2 (by decide)) (kb 3 (by decide)) (kb 4 (by decide)) (kb 5 (by decide)) o1_z.1 o1_z.2 (fun _ _ => ⟨bb 6 (by decide) (by decide), bb 4 (by decide) (by decide)⟩) u0_z u20_z hm_z
    rw [← k2_z] at d
    exact bl_pair SS rfl rfl rfl k24_z (fun _ _ => ⟨bb 5 (by decide) (by decide), ⟨vt, v20_z⟩, bb 6 (by decide) (by decide), bb 4 (by decide) (by decide)⟩) cf_z mf m79_z c d
  · have c := se_69_2 D k24_z rfl rfl rfl rfl rfl rfl rfl rfl rfl o1_z.1 o1_z.2 (fun x y => absurd ⟨x, y⟩ hb_z) n0_z n1_z z0_z z1_z hc_z
    have d := mf_196 g4_z q1_z q2_z rfl rfl rfl rfl rfl rfl rfl o1_z.1 o1_z.2 (fun x y => absurd ⟨x, by rw [k2_z]; exact y⟩ hb_z) u0_z u20_z hm_z
    rw [← k2_z] at d
    have nv : ¬ (0 ≤ b.toInt ∧ b.toInt < (rg_v h 2 2).toInt ∧ 1 ≤ m.toInt ∧ m.toInt ≤ 20) := fun q => hb_z ⟨q.1, q.2.1⟩
    rcases c with ⟨-, -, kp⟩ | ⟨v, -⟩ | ⟨v, -⟩ | ⟨v, -⟩
    · rcases d with ⟨-, -, km⟩ | ⟨v, -⟩ | ⟨v, -⟩ | ⟨v, -⟩
      · exact St_kk (by decide) kp km SS
      · exact absurd v nv
      · exact absurd v nv
      · exact absurd v nv
    · exact absurd v nv
    · exact absurd v nv
    · exact absurd v nv
theorem wt_2 {n n' : Nat} {r r' : Option Value} {h h' g g' : am_H} {m o : Int32} (D : h 0 2 = .ref 2) (S : St 1 h g) (hc_z : rn n am_m83 0 (lv_args 0 [.ref 0, .int m, .int o]) [] h r h') (hm_z : rn n' am_m209 0 (lv_args 0 [.ref 164, .int m, .int o]) [] g r' g') (cf_z : ∀ o k, (56 ≤ o ∧ o ≤ 59) ∨ (o = 0 ∧ k = 8) → rg_v h' o k = rg_v h o k) (mf : ∀ q, rg_v g' 201 q = rg_v g 201 q) (m79_z : rg_v g' 164 79 = rg_v g 164 79) : St 1 h' g' := by
  have SS := S
  obtain ⟨⟨sv, o1_z, o3_z, o5_z⟩, ⟨⟨n0_z, n1_z⟩, ⟨z0_z, z1_z⟩, e77_z, -⟩, -⟩ := S
  have q1_z : rg_v g 189 0 = rg_v h 48 1 := (sv 1 (by decide) (by decide)).symm
  exact wt_pair SS rfl cf_z mf m79_z (se_83_2 D rfl o1_z.1 o1_z.2 n0_z n1_z z0_z z1_z hc_z) (mf_209 q1_z o1_z.1 o1_z.2 (by rw [← e77_z]; exact z0_z) (by rw [← e77_z]; exact z1_z) hm_z)
theorem pm_2 {n n' : Nat} {r r' : Option Value} {h h' g g' : am_H} {m : Int32} (D : h 0 2 = .ref 2) (S : St 1 h g) (K : rK 2 h g) (V : pv 2 h) (hc_z : rn n am_m84 0 (lv_args 0 [.ref 0, .int m]) [] h r h') (hm_z : rn n' am_m210 0 (lv_args 0 [.ref 164, .int m]) [] g r' g') (cf_z : ∀ o k, (56 ≤ o ∧ o ≤ 59) ∨ (o = 0 ∧ k = 8) → rg_v h' o k = rg_v h o k) (mf : ∀ q, rg_v g' 201 q = rg_v g 201 q) (m79_z : rg_v g' 164 79 = rg_v g 164 79) : St 1 h' g' := by
  have SS := S
  obtain ⟨⟨sv, o1_z, o3_z, o5_z⟩, ⟨⟨n0_z, n1_z⟩, ⟨z0_z, z1_z⟩, e77_z, -⟩, -⟩ := S
  have q1_z : rg_v g 189 0 = rg_v h 48 1 := (sv 1 (by decide) (by decide)).symm
  have q3_z : rg_v g 194 0 = rg_v h 48 3 := (sv 3 (by decide) (by decide)).symm
  have y0_z : (0 : Int32).toInt = 0 := by decide
  have xy : ¬ (rg_v h 2 8).toInt = 0 ↔ ¬ (rg_v g 168 2).toInt = 0 := by
    rw [← K.1.2.2.1]
    rcases V.2.2.2.1 with ⟨a, b⟩ | ⟨a, b⟩
    · rw [a, b]
    · omega
  exact pm_pair SS rfl rfl xy cf_z mf m79_z (se_84_2 D rfl o1_z.1 o1_z.2 n0_z n1_z z0_z z1_z rfl o3_z.1 o3_z.2 hc_z) (mf_210 q1_z o1_z.1 o1_z.2 (by rw [← e77_z]; exact z0_z) (by rw [← e77_z]; exact z1_z) q3_z o3_z.1 o3_z.2 hm_z)
theorem pt_2 {n n' : Nat} {r r' : Option Value} {h h' g g' : am_H} {m : Int32} (D : h 0 2 = .ref 2) (S : St 1 h g) (K : rK 2 h g) (L : rg_v h 2 18 = rg_v g 164 58) (hc_z : rn n am_m85 0 (lv_args 0 [.ref 0, .int m]) [] h r h') (hm_z : rn n' am_m211 0 (lv_args 0 [.ref 164, .int m]) [] g r' g') (cf_z : ∀ o k, (56 ≤ o ∧ o ≤ 59) ∨ (o = 0 ∧ k = 8) → rg_v h' o k = rg_v h o k) (mf : ∀ q, rg_v g' 201 q = rg_v g 201 q) (m79_z : rg_v g' 164 79 = rg_v g 164 79) : r = r' ∧ St 1 h' g' := by
  have SS := S
  obtain ⟨-, ⟨⟨n0_z, n1_z⟩, ⟨z0_z, z1_z⟩, e77_z, -⟩, -⟩ := S
  exact pt_pair SS K.2.2.2.1.1 L cf_z mf m79_z (se_85_2 D n0_z n1_z z0_z z1_z hc_z) (mf_211 (by rw [← e77_z]; exact z0_z) (by rw [← e77_z]; exact z1_z) hm_z)
theorem bl_23 {n n' : Nat} {r r' : Option Value} {h h' g g' : am_H} {b m : Int32} (D : h 0 2 = .ref 23) (S : St 1 h g) (K : rK 23 h g) (V : pv 23 h) (B : bt 23 h) (T : ∀ b, b < 4 → (rg_v h (23 + 17 + b) 3).toInt ≤ 20) (hc_z : rn n am_m69 0 (lv_args 0 [.ref 0, .int b, .int m]) [] h r h') (hm_z : rn n' am_m196 0 (lv_args 0 [.ref 164, .int b, .int m]) [] g r' g') (cf_z : ∀ o k, (56 ≤ o ∧ o ≤ 59) ∨ (o = 0 ∧ k = 8) → rg_v h' o k = rg_v h o k) (mf : ∀ q, rg_v g' 201 q = rg_v g 201 q) (m79_z : rg_v g' 164 79 = rg_v g 164 79) : St 1 h' g' := by
  obtain ⟨-, ⟨k2_z, k20_z, k24_z⟩, -, -, -, ⟨C0, C1, C2, C3⟩, -, -, -⟩ := K
  have v2_z := V.2.1
  have SS := S
  obtain ⟨⟨sv, o1_z, o3_z, o5_z⟩, ⟨⟨n0_z, n1_z⟩, ⟨z0_z, z1_z⟩, e77_z, -⟩, -⟩ := S
  have u0_z : 0 ≤ (rg_v g 164 77).toInt := by rw [← e77_z]; exact z0_z
  have u20_z : (rg_v g 164 77).toInt ≤ 20 := by rw [← e77_z]; exact z1_z
  have g4_z : (rg_v g 164 12).toInt ≤ 4 := by rw [← k2_z]; exact k24_z
  have q1_z : rg_v g 189 0 = rg_v h 48 1 := (sv 1 (by decide) (by decide)).symm
  have q2_z : rg_v g 190 0 = rg_v h 48 2 := (sv 2 (by decide) (by decide)).symm
  by_cases hb_z : 0 ≤ b.toInt ∧ b.toInt < (rg_v h 23 2).toInt
  · have cb := rt_cl hb_z.1
    have b4_z : b.toNatClampNeg < 4 := by omega
    have KB : ∀ k, k < 8 → rg_v h (40 + b.toNatClampNeg) k = rK_bm g b.toNatClampNeg k := by
      intro k hk_z
      have h4_z : b.toNatClampNeg = 0 ∨ b.toNatClampNeg = 1 ∨ b.toNatClampNeg = 2 ∨ b.toNatClampNeg = 3 := by omega
      rcases h4_z with e | e | e | e
      · rw [e]; exact C0 (by omega) k hk_z
      · rw [e]; exact C1 (by omega) k hk_z
      · rw [e]; exact C2 (by omega) k hk_z
      · rw [e]; exact C3 (by omega) k hk_z
    have kb : ∀ f, f < 7 → rg_v g 170 (7 * b.toNatClampNeg + f) = rg_v h (40 + b.toNatClampNeg) (f + 1) := by
      intro f f7_z
      have q := KB (f + 1) (by omega)
      unfold rK_bm at q
      rw [if_neg (by omega), Nat.add_sub_cancel] at q
      exact q.symm
    have bb : ∀ f, 1 ≤ f → f < 8 → 0 ≤ (rg_v h (40 + b.toNatClampNeg) f).toInt ∧ (rg_v h (40 + b.toNatClampNeg) f).toInt ≤ 99 := fun f f1_z f8_z => B b.toNatClampNeg f b4_z f1_z f8_z
    have vt : 1 ≤ (rg_v h (40 + b.toNatClampNeg) 3).toInt := (v2_z b.toNatClampNeg (by omega)).2.1
    have v20_z : (rg_v h (40 + b.toNatClampNeg) 3).toInt ≤ 20 := T b.toNatClampNeg b4_z
    have z4_z : 4 * 0 + b.toNatClampNeg = b.toNatClampNeg := by omega
    have m5_z : rg_v g 191 b.toNatClampNeg = rg_v h 49 b.toNatClampNeg := by
      have q := sv (5 + b.toNatClampNeg) (by omega) (by omega)
      rw [cS_s b4_z, mS_s b4_z, z4_z] at q
      exact q.symm
    have m9_z : rg_v g 192 b.toNatClampNeg = rg_v h 50 b.toNatClampNeg := by
      have q := sv (9 + b.toNatClampNeg) (by omega) (by omega)
      rw [cS_a b4_z, mS_a b4_z, z4_z] at q
      exact q.symm
    have m13_z : rg_v g 193 b.toNatClampNeg = rg_v h 51 b.toNatClampNeg := by
      have q := sv (13 + b.toNatClampNeg) (by omega) (by omega)
      rw [cS_n b4_z, mS_n b4_z, z4_z] at q
      exact q.symm
    have c := se_69_23 D k24_z rfl rfl rfl rfl rfl rfl rfl rfl rfl o1_z.1 o1_z.2 (fun _ _ => ⟨bb 6 (by decide) (by decide), bb 4 (by decide) (by decide)⟩) n0_z n1_z z0_z z1_z hc_z
    have d := mf_196 g4_z q1_z q2_z m5_z m9_z m13_z (kb 2 (by decide)) (kb 3 (by decide)) (kb 4 (by decide)) (kb 5 (by decide)) o1_z.1 o1_z.2 (fun _ _ => ⟨bb 6 (by decide) (by decide), bb 4 (by decide) (by decide)⟩) u0_z u20_z hm_z
    rw [← k2_z] at d
    exact bl_pair SS rfl rfl rfl k24_z (fun _ _ => ⟨bb 5 (by decide) (by decide), ⟨vt, v20_z⟩, bb 6 (by decide) (by decide), bb 4 (by decide) (by decide)⟩) cf_z mf m79_z c d
  · have c := se_69_23 D k24_z rfl rfl rfl rfl rfl rfl rfl rfl rfl o1_z.1 o1_z.2 (fun x y => absurd ⟨x, y⟩ hb_z) n0_z n1_z z0_z z1_z hc_z
    have d := mf_196 g4_z q1_z q2_z rfl rfl rfl rfl rfl rfl rfl o1_z.1 o1_z.2 (fun x y => absurd ⟨x, by rw [k2_z]; exact y⟩ hb_z) u0_z u20_z hm_z
    rw [← k2_z] at d
    have nv : ¬ (0 ≤ b.toInt ∧ b.toInt < (rg_v h 23 2).toInt ∧ 1 ≤ m.toInt ∧ m.toInt ≤ 20) := fun q => hb_z ⟨q.1, q.2.1⟩
    rcases c with ⟨-, -, kp⟩ | ⟨v, -⟩ | ⟨v, -⟩ | ⟨v, -⟩
    · rcases d with ⟨-, -, km⟩ | ⟨v, -⟩ | ⟨v, -⟩ | ⟨v, -⟩
      · exact St_kk (by decide) kp km SS
      · exact absurd v nv
      · exact absurd v nv
      · exact absurd v nv
    · exact absurd v nv
    · exact absurd v nv
    · exact absurd v nv
theorem wt_23 {n n' : Nat} {r r' : Option Value} {h h' g g' : am_H} {m o : Int32} (D : h 0 2 = .ref 23) (S : St 1 h g) (hc_z : rn n am_m83 0 (lv_args 0 [.ref 0, .int m, .int o]) [] h r h') (hm_z : rn n' am_m209 0 (lv_args 0 [.ref 164, .int m, .int o]) [] g r' g') (cf_z : ∀ o k, (56 ≤ o ∧ o ≤ 59) ∨ (o = 0 ∧ k = 8) → rg_v h' o k = rg_v h o k) (mf : ∀ q, rg_v g' 201 q = rg_v g 201 q) (m79_z : rg_v g' 164 79 = rg_v g 164 79) : St 1 h' g' := by
  have SS := S
  obtain ⟨⟨sv, o1_z, o3_z, o5_z⟩, ⟨⟨n0_z, n1_z⟩, ⟨z0_z, z1_z⟩, e77_z, -⟩, -⟩ := S
  have q1_z : rg_v g 189 0 = rg_v h 48 1 := (sv 1 (by decide) (by decide)).symm
  exact wt_pair SS rfl cf_z mf m79_z (se_83_23 D rfl o1_z.1 o1_z.2 n0_z n1_z z0_z z1_z hc_z) (mf_209 q1_z o1_z.1 o1_z.2 (by rw [← e77_z]; exact z0_z) (by rw [← e77_z]; exact z1_z) hm_z)
theorem pm_23 {n n' : Nat} {r r' : Option Value} {h h' g g' : am_H} {m : Int32} (D : h 0 2 = .ref 23) (S : St 1 h g) (K : rK 23 h g) (V : pv 23 h) (hc_z : rn n am_m84 0 (lv_args 0 [.ref 0, .int m]) [] h r h') (hm_z : rn n' am_m210 0 (lv_args 0 [.ref 164, .int m]) [] g r' g') (cf_z : ∀ o k, (56 ≤ o ∧ o ≤ 59) ∨ (o = 0 ∧ k = 8) → rg_v h' o k = rg_v h o k) (mf : ∀ q, rg_v g' 201 q = rg_v g 201 q) (m79_z : rg_v g' 164 79 = rg_v g 164 79) : St 1 h' g' := by
  have SS := S
  obtain ⟨⟨sv, o1_z, o3_z, o5_z⟩, ⟨⟨n0_z, n1_z⟩, ⟨z0_z, z1_z⟩, e77_z, -⟩, -⟩ := S
  have q1_z : rg_v g 189 0 = rg_v h 48 1 := (sv 1 (by decide) (by decide)).symm
  have q3_z : rg_v g 194 0 = rg_v h 48 3 := (sv 3 (by decide) (by decide)).symm
  have y0_z : (0 : Int32).toInt = 0 := by decide
  have xy : ¬ (rg_v h 23 8).toInt = 0 ↔ ¬ (rg_v g 168 2).toInt = 0 := by
    rw [← K.1.2.2.1]
    rcases V.2.2.2.1 with ⟨a, b⟩ | ⟨a, b⟩
    · rw [a, b]
    · omega
  exact pm_pair SS rfl rfl xy cf_z mf m79_z (se_84_23 D rfl o1_z.1 o1_z.2 n0_z n1_z z0_z z1_z rfl o3_z.1 o3_z.2 hc_z) (mf_210 q1_z o1_z.1 o1_z.2 (by rw [← e77_z]; exact z0_z) (by rw [← e77_z]; exact z1_z) q3_z o3_z.1 o3_z.2 hm_z)
theorem pt_23 {n n' : Nat} {r r' : Option Value} {h h' g g' : am_H} {m : Int32} (D : h 0 2 = .ref 23) (S : St 1 h g) (K : rK 23 h g) (L : rg_v h 23 18 = rg_v g 164 58) (hc_z : rn n am_m85 0 (lv_args 0 [.ref 0, .int m]) [] h r h') (hm_z : rn n' am_m211 0 (lv_args 0 [.ref 164, .int m]) [] g r' g') (cf_z : ∀ o k, (56 ≤ o ∧ o ≤ 59) ∨ (o = 0 ∧ k = 8) → rg_v h' o k = rg_v h o k) (mf : ∀ q, rg_v g' 201 q = rg_v g 201 q) (m79_z : rg_v g' 164 79 = rg_v g 164 79) : r = r' ∧ St 1 h' g' := by
  have SS := S
  obtain ⟨-, ⟨⟨n0_z, n1_z⟩, ⟨z0_z, z1_z⟩, e77_z, -⟩, -⟩ := S
  exact pt_pair SS K.2.2.2.1.1 L cf_z mf m79_z (se_85_23 D n0_z n1_z z0_z z1_z hc_z) (mf_211 (by rw [← e77_z]; exact z0_z) (by rw [← e77_z]; exact z1_z) hm_z)
theorem un_ {n n' : Nat} {r r' : Option Value} {h h' g g' : am_H} (S : St 1 h g) (hc_z : rn n am_m137 0 (lv_args 0 [.ref 0]) [] h r h') (hm_z : rn n' am_m249 0 (lv_args 0 [.ref 164]) [] g r' g') (cf_z : ∀ o k, (56 ≤ o ∧ o ≤ 59) ∨ (o = 0 ∧ k = 8) → rg_v h' o k = rg_v h o k) (mf : ∀ q, rg_v g' 201 q = rg_v g 201 q) (m79_z : rg_v g' 164 79 = rg_v g 164 79) : r = r' ∧ St 1 h' g' := by
  have SS := S
  obtain ⟨-, ⟨⟨n0_z, n1_z⟩, ⟨z0_z, z1_z⟩, e77_z, -⟩, -⟩ := S
  exact un_pair SS cf_z mf m79_z (se_137 n0_z n1_z z0_z z1_z hc_z) (mf_249 (by rw [← e77_z]; exact z0_z) (by rw [← e77_z]; exact z1_z) hm_z)
def i4B (q : Nat × Nat) : Bool := !(Nat.ble 56 q.1 && Nat.ble q.1 59)
theorem i4_in {md : List (Nat × Nat)} {o k : Nat} (hb_z : md.all i4B = true) (h : 56 ≤ o ∧ o ≤ 59) : ab_in md o k = false := by
  refine in_of hb_z ?_ ?_
  · unfold i4B
    dsimp only
    rw [ble_t h.1, ble_t h.2]
    rfl
  · unfold i4B
    dsimp only
    rw [ble_t h.1, ble_t h.2]
    rfl
theorem i_fr {md : List (Nat × Nat)} {h h' : am_H} (hb_z : md.all i4B = true) (h8_z : ab_in md 0 8 = false) (f : ab_Fr md h h') : ∀ o k, (56 ≤ o ∧ o ≤ 59) ∨ (o = 0 ∧ k = 8) → rg_v h' o k = rg_v h o k := by
  intro o k q
  rcases q with q | ⟨rfl, rfl⟩
  · exact rg_v_fr f (i4_in hb_z q)
  · exact rg_v_fr f h8_z
theorem r_fr {md : List (Nat × Nat)} {h h' : am_H} {o : Nat} (hb_z : md.all (fun q => !(Nat.beq q.1 o)) = true) (f : ab_Fr md h h') : ∀ q, rg_v h' o q = rg_v h o q := fun q => rg_v_fr f (rg_v_in hb_z q)
/-- behind the model's run the class's places stay -/
theorem St_2 {md : List (Nat × Nat)} {h1_z h2_z : am_H} (hb_z : md.all cqB = true) (f2_z : ab_Fr md h1_z h2_z) (S : St 1 h1_z h2_z) : St 1 h2_z h2_z := St_e (by decide) (fun o k q => rg_v_fr f2_z (cq_in hb_z q)) (fun _ _ _ => rfl) S
theorem R8_feed : ax_feed R8 := fun a b c d e f g h h1_z h2_z r1_z r2_z n1_z n2_z hR hG hG2 f1_z f2_z x y => ⟨R7_feed a b c d e f g h h1_z h2_z r1_z r2_z n1_z n2_z hR.1 hG hG2 f1_z f2_z x y, PV_c (by decide +kernel) f2_z (R3_fD (by decide +kernel) f1_z hR.1.1.1.1.1.1) (PV_c (by decide +kernel) f1_z hR.1.1.1.1.1.1 hR.2.1), St_c (by decide +kernel) f2_z (St_c (by decide +kernel) f1_z hR.2.2)⟩
theorem R8_fault : ax_fault R8 := fun x0_z x1_z x2_z x3_z x4_z x5_z x6_z x7_z x8_z hR g0_z g1_z g2_z f1_z f2_z y0_z y1_z => ⟨R7_fault x0_z x1_z x2_z x3_z x4_z x5_z x6_z x7_z x8_z hR.1 g0_z g1_z g2_z f1_z f2_z y0_z y1_z, PV_c (by decide +kernel) f2_z (R3_fD (by decide +kernel) f1_z hR.1.1.1.1.1.1) (PV_c (by decide +kernel) f1_z hR.1.1.1.1.1.1 hR.2.1), St_c (by decide +kernel) f2_z (St_c (by decide +kernel) f1_z hR.2.2)⟩
theorem R8_named : ax_named R8 := fun x0_z x1_z x2_z x3_z x4_z x5_z x6_z x7_z x8_z x9_z hR g0_z g1_z g2_z f1_z f2_z y0_z y1_z => ⟨R7_named x0_z x1_z x2_z x3_z x4_z x5_z x6_z x7_z x8_z x9_z hR.1 g0_z g1_z g2_z f1_z f2_z y0_z y1_z, PV_c (by decide +kernel) f2_z (R3_fD (by decide +kernel) f1_z hR.1.1.1.1.1.1) (PV_c (by decide +kernel) f1_z hR.1.1.1.1.1.1 hR.2.1), St_c (by decide +kernel) f2_z (St_c (by decide +kernel) f1_z hR.2.2)⟩
theorem R8_look : ax_look R8 := fun x0_z x1_z x2_z x3_z x4_z x5_z x6_z x7_z hR g0_z g1_z g2_z f1_z f2_z y0_z => ⟨R7_look x0_z x1_z x2_z x3_z x4_z x5_z x6_z x7_z hR.1 g0_z g1_z g2_z f1_z f2_z y0_z, PV_c (by decide +kernel) f2_z (R3_fD (by decide +kernel) f1_z hR.1.1.1.1.1.1) (PV_c (by decide +kernel) f1_z hR.1.1.1.1.1.1 hR.2.1), St_c (by decide +kernel) f2_z (St_c (by decide +kernel) f1_z hR.2.2)⟩
theorem R8_law : ax_law R8 := fun x0_z x1_z x2_z x3_z x4_z x5_z x6_z x7_z x8_z x9_z hR g0_z g1_z g2_z f1_z f2_z y0_z y1_z => ⟨R7_law x0_z x1_z x2_z x3_z x4_z x5_z x6_z x7_z x8_z x9_z hR.1 g0_z g1_z g2_z f1_z f2_z y0_z y1_z, PV_c (by decide +kernel) f2_z (R3_fD (by decide +kernel) f1_z hR.1.1.1.1.1.1) (PV_c (by decide +kernel) f1_z hR.1.1.1.1.1.1 hR.2.1), St_c (by decide +kernel) f2_z (St_c (by decide +kernel) f1_z hR.2.2)⟩

theorem R8_blow : ax_blow R8 := by
  intro x0_z x1_z x2_z x3_z x4_z x5_z x6_z x7_z x8_z x9_z hR g0_z g1_z g2_z f1_z f2_z y0_z y1_z
  refine ⟨R7_blow x0_z x1_z x2_z x3_z x4_z x5_z x6_z x7_z x8_z x9_z hR.1 g0_z g1_z g2_z f1_z f2_z y0_z y1_z, PV_c (by decide +kernel) f2_z (R3_fD (by decide +kernel) f1_z hR.1.1.1.1.1.1) (PV_c (by decide +kernel) f1_z hR.1.1.1.1.1.1 hR.2.1), St_2 (by decide +kernel) f2_z ?_⟩
  obtain ⟨p, hp_z, D, K, V, B, S, T⟩ := R8_in hR g0_z (by decide +kernel) f1_z
  rcases hp_z with rfl | rfl
  · exact bl_2 D S K V B T y0_z y1_z (i_fr (by decide +kernel) (by decide +kernel) f1_z) (r_fr (by decide +kernel) f2_z) (rg_v_fr f2_z (by decide +kernel))
  · exact bl_23 D S K V B T y0_z y1_z (i_fr (by decide +kernel) (by decide +kernel) f1_z) (r_fr (by decide +kernel) f2_z) (rg_v_fr f2_z (by decide +kernel))

theorem R8_waits : ax_waits R8 := by
  intro x0_z x1_z x2_z x3_z x4_z x5_z x6_z x7_z x8_z x9_z hR g0_z g1_z g2_z u0_z u1_z f1_z f2_z y0_z y1_z
  refine ⟨R7_waits x0_z x1_z x2_z x3_z x4_z x5_z x6_z x7_z x8_z x9_z hR.1 g0_z g1_z g2_z u0_z u1_z f1_z f2_z y0_z y1_z, PV_c (by decide +kernel) f2_z (R3_fD (by decide +kernel) f1_z hR.1.1.1.1.1.1) (PV_c (by decide +kernel) f1_z hR.1.1.1.1.1.1 hR.2.1), St_2 (by decide +kernel) f2_z ?_⟩
  obtain ⟨p, hp_z, D, K, V, B, S, T⟩ := R8_in hR g0_z (by decide +kernel) f1_z
  rcases hp_z with rfl | rfl
  · exact wt_2 D S y0_z y1_z (i_fr (by decide +kernel) (by decide +kernel) f1_z) (r_fr (by decide +kernel) f2_z) (rg_v_fr f2_z (by decide +kernel))
  · exact wt_23 D S y0_z y1_z (i_fr (by decide +kernel) (by decide +kernel) f1_z) (r_fr (by decide +kernel) f2_z) (rg_v_fr f2_z (by decide +kernel))

theorem R8_pump : ax_pump R8 := by
  intro x0_z x1_z x2_z x3_z x4_z x5_z x6_z x7_z x8_z hR g0_z g1_z g2_z f1_z f2_z y0_z y1_z
  refine ⟨R7_pump x0_z x1_z x2_z x3_z x4_z x5_z x6_z x7_z x8_z hR.1 g0_z g1_z g2_z f1_z f2_z y0_z y1_z, PV_c (by decide +kernel) f2_z (R3_fD (by decide +kernel) f1_z hR.1.1.1.1.1.1) (PV_c (by decide +kernel) f1_z hR.1.1.1.1.1.1 hR.2.1), St_2 (by decide +kernel) f2_z ?_⟩
  obtain ⟨p, hp_z, D, K, V, B, S, T⟩ := R8_in hR g0_z (by decide +kernel) f1_z
  rcases hp_z with rfl | rfl
  · exact pm_2 D S K V y0_z y1_z (i_fr (by decide +kernel) (by decide +kernel) f1_z) (r_fr (by decide +kernel) f2_z) (rg_v_fr f2_z (by decide +kernel))
  · exact pm_23 D S K V y0_z y1_z (i_fr (by decide +kernel) (by decide +kernel) f1_z) (r_fr (by decide +kernel) f2_z) (rg_v_fr f2_z (by decide +kernel))

theorem R8_patch : ax_patch R8 := by
  intro x0_z x1_z x2_z x3_z x4_z x5_z x6_z x7_z x8_z hR g0_z g1_z g2_z f1_z f2_z y0_z y1_z
  refine ⟨R7_patch x0_z x1_z x2_z x3_z x4_z x5_z x6_z x7_z x8_z hR.1 g0_z g1_z g2_z f1_z f2_z y0_z y1_z, PV_c (by decide +kernel) f2_z (R3_fD (by decide +kernel) f1_z hR.1.1.1.1.1.1) (PV_c (by decide +kernel) f1_z hR.1.1.1.1.1.1 hR.2.1), St_2 (by decide +kernel) f2_z ?_⟩
  obtain ⟨p, hp_z, D, K, V, B, S, T⟩ := R8_in hR g0_z (by decide +kernel) f1_z
  have L : rg_v x2_z p 18 = rg_v x3_z 164 58 := (hR.1.2 p D).trans (rg_v_fr f1_z (by decide +kernel)).symm
  rcases hp_z with rfl | rfl
  · exact (pt_2 D S K L y0_z y1_z (i_fr (by decide +kernel) (by decide +kernel) f1_z) (r_fr (by decide +kernel) f2_z) (rg_v_fr f2_z (by decide +kernel))).2
  · exact (pt_23 D S K L y0_z y1_z (i_fr (by decide +kernel) (by decide +kernel) f1_z) (r_fr (by decide +kernel) f2_z) (rg_v_fr f2_z (by decide +kernel))).2
theorem R8_leak : ax_leak R8 := fun x0_z x1_z x2_z x3_z x4_z x5_z x6_z x7_z hR g0_z g1_z g2_z f1_z f2_z y0_z y1_z => ⟨R7_leak x0_z x1_z x2_z x3_z x4_z x5_z x6_z x7_z hR.1 g0_z g1_z g2_z f1_z f2_z y0_z y1_z, PV_c (by decide +kernel) f2_z (R3_fD (by decide +kernel) f1_z hR.1.1.1.1.1.1) (PV_c (by decide +kernel) f1_z hR.1.1.1.1.1.1 hR.2.1), St_c (by decide +kernel) f2_z (St_c (by decide +kernel) f1_z hR.2.2)⟩
theorem R8_ever : ax_ever R8 := fun x0_z x1_z x2_z x3_z x4_z x5_z x6_z x7_z x8_z hR g0_z g1_z g2_z f1_z f2_z y0_z y1_z => ⟨R7_ever x0_z x1_z x2_z x3_z x4_z x5_z x6_z x7_z x8_z hR.1 g0_z g1_z g2_z f1_z f2_z y0_z y1_z, PV_c (by decide +kernel) f2_z (R3_fD (by decide +kernel) f1_z hR.1.1.1.1.1.1) (PV_c (by decide +kernel) f1_z hR.1.1.1.1.1.1 hR.2.1), St_m (by decide +kernel) f2_z (fk_213 (tk_G g1_z) y1_z) (rg_v_fr f2_z (by decide +kernel)) (St_c (by decide +kernel) f1_z hR.2.2)⟩
theorem R8_best : ax_best R8 := fun x0_z x1_z x2_z x3_z x4_z x5_z x6_z x7_z x8_z x9_z hR g0_z g1_z g2_z f1_z f2_z y0_z y1_z => ⟨R7_best x0_z x1_z x2_z x3_z x4_z x5_z x6_z x7_z x8_z x9_z hR.1 g0_z g1_z g2_z f1_z f2_z y0_z y1_z, PV_c (by decide +kernel) f2_z (R3_fD (by decide +kernel) f1_z hR.1.1.1.1.1.1) (PV_c (by decide +kernel) f1_z hR.1.1.1.1.1.1 hR.2.1), St_m (by decide +kernel) f2_z (fk_217 y1_z) (rg_v_fr f2_z (by decide +kernel)) (St_c (by decide +kernel) f1_z hR.2.2)⟩
theorem R8_lasts : ax_lasts R8 := fun x0_z x1_z x2_z x3_z x4_z x5_z x6_z x7_z x8_z x9_z hR g0_z g1_z g2_z f1_z f2_z y0_z y1_z => ⟨R7_lasts x0_z x1_z x2_z x3_z x4_z x5_z x6_z x7_z x8_z x9_z hR.1 g0_z g1_z g2_z f1_z f2_z y0_z y1_z, PV_c (by decide +kernel) f2_z (R3_fD (by decide +kernel) f1_z hR.1.1.1.1.1.1) (PV_c (by decide +kernel) f1_z hR.1.1.1.1.1.1 hR.2.1), St_m (by decide +kernel) f2_z (fk_223 y1_z) (rg_v_fr f2_z (by decide +kernel)) (St_c (by decide +kernel) f1_z hR.2.2)⟩
theorem R8_firm : ax_firm R8 := fun x0_z x1_z x2_z x3_z x4_z x5_z x6_z x7_z x8_z x9_z hR g0_z g1_z g2_z f1_z f2_z y0_z y1_z => ⟨R7_firm x0_z x1_z x2_z x3_z x4_z x5_z x6_z x7_z x8_z x9_z hR.1 g0_z g1_z g2_z f1_z f2_z y0_z y1_z, PV_c (by decide +kernel) f2_z (R3_fD (by decide +kernel) f1_z hR.1.1.1.1.1.1) (PV_c (by decide +kernel) f1_z hR.1.1.1.1.1.1 hR.2.1), St_m (by decide +kernel) f2_z (fk_225 y1_z) (rg_v_fr f2_z (by decide +kernel)) (St_c (by decide +kernel) f1_z hR.2.2)⟩
theorem R8_up : ax_up R8 := fun x0_z x1_z x2_z x3_z x4_z x5_z x6_z x7_z x8_z x9_z x10_z hR g0_z g1_z g2_z f1_z f2_z y0_z y1_z => ⟨R7_up x0_z x1_z x2_z x3_z x4_z x5_z x6_z x7_z x8_z x9_z x10_z hR.1 g0_z g1_z g2_z f1_z f2_z y0_z y1_z, PV_c (by decide +kernel) f2_z (R3_fD (by decide +kernel) f1_z hR.1.1.1.1.1.1) (PV_c (by decide +kernel) f1_z hR.1.1.1.1.1.1 hR.2.1), St_m (by decide +kernel) f2_z (fk_226 y1_z) (rg_v_fr f2_z (by decide +kernel)) (St_c (by decide +kernel) f1_z hR.2.2)⟩
theorem R8_upAt : ax_upAt R8 := fun x0_z x1_z x2_z x3_z x4_z x5_z x6_z x7_z x8_z x9_z x10_z x11_z hR g0_z g1_z g2_z f1_z f2_z y0_z y1_z => ⟨R7_upAt x0_z x1_z x2_z x3_z x4_z x5_z x6_z x7_z x8_z x9_z x10_z x11_z hR.1 g0_z g1_z g2_z f1_z f2_z y0_z y1_z, PV_c (by decide +kernel) f2_z (R3_fD (by decide +kernel) f1_z hR.1.1.1.1.1.1) (PV_c (by decide +kernel) f1_z hR.1.1.1.1.1.1 hR.2.1), St_m (by decide +kernel) f2_z (fk_230 y1_z) (rg_v_fr f2_z (by decide +kernel)) (St_c (by decide +kernel) f1_z hR.2.2)⟩
theorem R8_cheapest : ax_cheapest R8 := fun x0_z x1_z x2_z x3_z x4_z x5_z x6_z x7_z x8_z x9_z x10_z hR g0_z g1_z g2_z f1_z f2_z y0_z y1_z => ⟨R7_cheapest x0_z x1_z x2_z x3_z x4_z x5_z x6_z x7_z x8_z x9_z x10_z hR.1 g0_z g1_z g2_z f1_z f2_z y0_z y1_z, PV_c (by decide +kernel) f2_z (R3_fD (by decide +kernel) f1_z hR.1.1.1.1.1.1) (PV_c (by decide +kernel) f1_z hR.1.1.1.1.1.1 hR.2.1), St_m (by decide +kernel) f2_z (fk_231 y1_z) (rg_v_fr f2_z (by decide +kernel)) (St_c (by decide +kernel) f1_z hR.2.2)⟩
theorem R8_lend : ax_lend R8 := fun x0_z x1_z x2_z x3_z x4_z x5_z x6_z x7_z x8_z x9_z hR g0_z g1_z g2_z f1_z f2_z y0_z y1_z => ⟨R7_lend x0_z x1_z x2_z x3_z x4_z x5_z x6_z x7_z x8_z x9_z hR.1 g0_z g1_z g2_z f1_z f2_z y0_z y1_z, PV_c (by decide +kernel) f2_z (R3_fD (by decide +kernel) f1_z hR.1.1.1.1.1.1) (PV_c (by decide +kernel) f1_z hR.1.1.1.1.1.1 hR.2.1), St_m (by decide +kernel) f2_z (fk_232 y1_z) (rg_v_fr f2_z (by decide +kernel)) (St_c (by decide +kernel) f1_z hR.2.2)⟩
theorem R8_seek : ax_seek R8 := fun x0_z x1_z x2_z x3_z x4_z x5_z x6_z x7_z x8_z x9_z hR g0_z g1_z g2_z f1_z f2_z y0_z y1_z => ⟨R7_seek x0_z x1_z x2_z x3_z x4_z x5_z x6_z x7_z x8_z x9_z hR.1 g0_z g1_z g2_z f1_z f2_z y0_z y1_z, PV_c (by decide +kernel) f2_z (R3_fD (by decide +kernel) f1_z hR.1.1.1.1.1.1) (PV_c (by decide +kernel) f1_z hR.1.1.1.1.1.1 hR.2.1), St_c (by decide +kernel) f2_z (St_c (by decide +kernel) f1_z hR.2.2)⟩
theorem R8_mean : ax_mean R8 := fun x0_z x1_z x2_z x3_z x4_z x5_z x6_z x7_z x8_z hR g0_z g1_z g2_z f1_z f2_z y0_z y1_z => ⟨R7_mean x0_z x1_z x2_z x3_z x4_z x5_z x6_z x7_z x8_z hR.1 g0_z g1_z g2_z f1_z f2_z y0_z y1_z, PV_c (by decide +kernel) f2_z (R3_fD (by decide +kernel) f1_z hR.1.1.1.1.1.1) (PV_c (by decide +kernel) f1_z hR.1.1.1.1.1.1 hR.2.1), St_c (by decide +kernel) f2_z (St_c (by decide +kernel) f1_z hR.2.2)⟩
theorem R8_rule : ax_rule R8 := fun x0_z x1_z x2_z x3_z x4_z x5_z x6_z x7_z x8_z hR g0_z g1_z g2_z f1_z f2_z y0_z y1_z => ⟨R7_rule x0_z x1_z x2_z x3_z x4_z x5_z x6_z x7_z x8_z hR.1 g0_z g1_z g2_z f1_z f2_z y0_z y1_z, PV_c (by decide +kernel) f2_z (R3_fD (by decide +kernel) f1_z hR.1.1.1.1.1.1) (PV_c (by decide +kernel) f1_z hR.1.1.1.1.1.1 hR.2.1), St_m (by decide +kernel) f2_z (fk_236 (tk_G g1_z) y1_z) (rg_v_fr f2_z (by decide +kernel)) (St_c (by decide +kernel) f1_z hR.2.2)⟩
theorem R8_fairest : ax_fairest R8 := fun x0_z x1_z x2_z x3_z x4_z x5_z x6_z x7_z hR g0_z g1_z g2_z f1_z f2_z y0_z y1_z => ⟨R7_fairest x0_z x1_z x2_z x3_z x4_z x5_z x6_z x7_z hR.1 g0_z g1_z g2_z f1_z f2_z y0_z y1_z, PV_c (by decide +kernel) f2_z (R3_fD (by decide +kernel) f1_z hR.1.1.1.1.1.1) (PV_c (by decide +kernel) f1_z hR.1.1.1.1.1.1 hR.2.1), St_m (by decide +kernel) f2_z (fk_239 (tk_G g1_z) y1_z) (rg_v_fr f2_z (by decide +kernel)) (St_c (by decide +kernel) f1_z hR.2.2)⟩
theorem R8_cheek : ax_cheek R8 := fun x0_z x1_z x2_z x3_z x4_z x5_z x6_z x7_z x8_z x9_z x10_z x11_z hR g0_z g1_z g2_z u0_z u1_z f1_z f2_z y0_z y1_z => ⟨R7_cheek x0_z x1_z x2_z x3_z x4_z x5_z x6_z x7_z x8_z x9_z x10_z x11_z hR.1 g0_z g1_z g2_z u0_z u1_z f1_z f2_z y0_z y1_z, PV_c (by decide +kernel) f2_z (R3_fD (by decide +kernel) f1_z hR.1.1.1.1.1.1) (PV_c (by decide +kernel) f1_z hR.1.1.1.1.1.1 hR.2.1), St_c (by decide +kernel) f2_z (St_c (by decide +kernel) f1_z hR.2.2)⟩
theorem R8_strike : ax_strike R8 := fun x0_z x1_z x2_z x3_z x4_z x5_z x6_z x7_z x8_z hR g0_z g1_z g2_z f1_z f2_z y0_z y1_z => ⟨R7_strike x0_z x1_z x2_z x3_z x4_z x5_z x6_z x7_z x8_z hR.1 g0_z g1_z g2_z f1_z f2_z y0_z y1_z, PV_c (by decide +kernel) f2_z (R3_fD (by decide +kernel) f1_z hR.1.1.1.1.1.1) (PV_c (by decide +kernel) f1_z hR.1.1.1.1.1.1 hR.2.1), St_c (by decide +kernel) f2_z (St_c (by decide +kernel) f1_z hR.2.2)⟩
theorem R8_known : ax_known R8 := fun x0_z x1_z x2_z x3_z x4_z x5_z x6_z x7_z x8_z hR g0_z g1_z g2_z f1_z f2_z y0_z y1_z => ⟨R7_known x0_z x1_z x2_z x3_z x4_z x5_z x6_z x7_z x8_z hR.1 g0_z g1_z g2_z f1_z f2_z y0_z y1_z, PV_c (by decide +kernel) f2_z (R3_fD (by decide +kernel) f1_z hR.1.1.1.1.1.1) (PV_c (by decide +kernel) f1_z hR.1.1.1.1.1.1 hR.2.1), St_c (by decide +kernel) f2_z (St_c (by decide +kernel) f1_z hR.2.2)⟩
theorem R8_fits : ax_fits R8 := fun x0_z x1_z x2_z x3_z x4_z x5_z x6_z x7_z hR g0_z g1_z g2_z f1_z f2_z y0_z y1_z => ⟨R7_fits x0_z x1_z x2_z x3_z x4_z x5_z x6_z x7_z hR.1 g0_z g1_z g2_z f1_z f2_z y0_z y1_z, PV_c (by decide +kernel) f2_z (R3_fD (by decide +kernel) f1_z hR.1.1.1.1.1.1) (PV_c (by decide +kernel) f1_z hR.1.1.1.1.1.1 hR.2.1), St_m (by decide +kernel) f2_z (fk_244 y1_z) (ft_244 y1_z) (St_c (by decide +kernel) f1_z hR.2.2)⟩
theorem R8_chance : ax_chance R8 := fun x0_z x1_z x2_z x3_z x4_z x5_z x6_z x7_z x8_z x9_z x10_z hR g0_z g1_z g2_z f1_z f2_z y0_z y1_z => ⟨R7_chance x0_z x1_z x2_z x3_z x4_z x5_z x6_z x7_z x8_z x9_z x10_z hR.1 g0_z g1_z g2_z f1_z f2_z y0_z y1_z, PV_c (by decide +kernel) f2_z (R3_fD (by decide +kernel) f1_z hR.1.1.1.1.1.1) (PV_c (by decide +kernel) f1_z hR.1.1.1.1.1.1 hR.2.1), St_m (by decide +kernel) f2_z (fk_247 y1_z) (rg_v_fr f2_z (by decide +kernel)) (St_c (by decide +kernel) f1_z hR.2.2)⟩
theorem R8_tried : ax_tried R8 := fun x0_z x1_z x2_z x3_z x4_z x5_z x6_z x7_z x8_z x9_z x10_z hR g0_z g1_z g2_z f1_z f2_z y0_z y1_z => ⟨R7_tried x0_z x1_z x2_z x3_z x4_z x5_z x6_z x7_z x8_z x9_z x10_z hR.1 g0_z g1_z g2_z f1_z f2_z y0_z y1_z, PV_c (by decide +kernel) f2_z (R3_fD (by decide +kernel) f1_z hR.1.1.1.1.1.1) (PV_c (by decide +kernel) f1_z hR.1.1.1.1.1.1 hR.2.1), St_m (by decide +kernel) f2_z (fk_248 y1_z) (rg_v_fr f2_z (by decide +kernel)) (St_c (by decide +kernel) f1_z hR.2.2)⟩

theorem R8_undo : ax_undo R8 := by
  intro x0_z x1_z x2_z x3_z x4_z x5_z x6_z x7_z hR g0_z g1_z g2_z f1_z f2_z y0_z y1_z
  refine ⟨R7_undo x0_z x1_z x2_z x3_z x4_z x5_z x6_z x7_z hR.1 g0_z g1_z g2_z f1_z f2_z y0_z y1_z, PV_c (by decide +kernel) f2_z (R3_fD (by decide +kernel) f1_z hR.1.1.1.1.1.1) (PV_c (by decide +kernel) f1_z hR.1.1.1.1.1.1 hR.2.1), St_2 (by decide +kernel) f2_z ?_⟩
  obtain ⟨p, hp_z, D, K, V, B, S, T⟩ := R8_in hR g0_z (by decide +kernel) f1_z
  exact (un_ S y0_z y1_z (i_fr (by decide +kernel) (by decide +kernel) f1_z) (r_fr (by decide +kernel) f2_z) (rg_v_fr f2_z (by decide +kernel))).2

theorem R8_keep : ax_keep R8 := by
  intro x0_z x1_z x2_z x3_z x4_z x5_z x6_z x7_z hR g0_z g1_z g2_z f1_z f2_z y0_z y1_z
  refine ⟨R7_keep x0_z x1_z x2_z x3_z x4_z x5_z x6_z x7_z hR.1 g0_z g1_z g2_z f1_z f2_z y0_z y1_z, PV_c (by decide +kernel) f2_z (R3_fD (by decide +kernel) f1_z hR.1.1.1.1.1.1) (PV_c (by decide +kernel) f1_z hR.1.1.1.1.1.1 hR.2.1), St_2 (by decide +kernel) f2_z ?_⟩
  obtain ⟨p, hp_z, D, K, V, B, S, T⟩ := R8_in hR g0_z (by decide +kernel) f1_z
  exact (kp_pair S (se_139 y0_z) (mf_251 y1_z) (rg_v_fr f2_z (by decide +kernel)) (r_fr (by decide +kernel) f2_z)).2

theorem R8_back : ax_back R8 := by
  intro x0_z x1_z x2_z x3_z x4_z x5_z x6_z x7_z hR g0_z g1_z g2_z f1_z f2_z y0_z y1_z
  refine ⟨R7_back x0_z x1_z x2_z x3_z x4_z x5_z x6_z x7_z hR.1 g0_z g1_z g2_z f1_z f2_z y0_z y1_z, PV_c (by decide +kernel) f2_z (R3_fD (by decide +kernel) f1_z hR.1.1.1.1.1.1) (PV_c (by decide +kernel) f1_z hR.1.1.1.1.1.1 hR.2.1), St_2 (by decide +kernel) f2_z ?_⟩
  obtain ⟨p, hp_z, D, K, V, B, S, T⟩ := R8_in hR g0_z (by decide +kernel) f1_z
  exact (bc_pair S (i_fr (by decide +kernel) (by decide +kernel) f1_z) (r_fr (by decide +kernel) f2_z) (rg_v_fr f2_z (by decide +kernel)) (se_140 y0_z) (mf_252 y1_z)).2
theorem R8_count : ax_count R8 := fun x0_z x1_z x2_z x3_z x4_z x5_z x6_z x7_z x8_z hR g0_z g1_z g2_z f1_z f2_z y0_z y1_z => ⟨R7_count x0_z x1_z x2_z x3_z x4_z x5_z x6_z x7_z x8_z hR.1 g0_z g1_z g2_z f1_z f2_z y0_z y1_z, PV_c (by decide +kernel) f2_z (R3_fD (by decide +kernel) f1_z hR.1.1.1.1.1.1) (PV_c (by decide +kernel) f1_z hR.1.1.1.1.1.1 hR.2.1), St_c (by decide +kernel) f2_z (St_c (by decide +kernel) f1_z hR.2.2)⟩
theorem lent_G {t : Int32} {h : am_H} {d : Nat} (hd_z : d = 2 ∨ d = 23) (hG : ag_G t h) : 0 ≤ (rg_v h d 8).toInt ∧ (rg_v h d 8).toInt ≤ 99 := by
  rcases hd_z with rfl | rfl
  · have z := hG.1 2 8 (.inl 1) (by decide +kernel) (by decide)
    rw [show ab_hi ab_tab 2 8 = ab_i 0 99 by decide +kernel] at z
    obtain ⟨x, e, x0_z, x1_z⟩ := z
    unfold rg_v
    rw [e]
    exact ⟨x0_z, x1_z⟩
  · have z := hG.1 23 8 (.inl 1) (by decide +kernel) (by decide)
    rw [show ab_hi ab_tab 23 8 = ab_i 0 99 by decide +kernel] at z
    obtain ⟨x, e, x0_z, x1_z⟩ := z
    unfold rg_v
    rw [e]
    exact ⟨x0_z, x1_z⟩
theorem R8_text : ax_text R8 := by
  intro t t1_z a h h1_z h2_z r1_z r2_z n1_z n2_z hR hG hG2 hT F1 F2 rn1_z rn2_z
  refine ⟨R7_text t t1_z a h h1_z h2_z r1_z r2_z n1_z n2_z hR.1 hG hG2 hT F1 F2 rn1_z rn2_z, ?_⟩
  have K2 := (R5_text t t1_z a h h1_z h2_z r1_z r2_z n1_z n2_z hR.1.1.1 hG hG2 hT F1 F2 rn1_z rn2_z).2
  obtain ⟨-, D2, d, hd_z, D, E, O⟩ := tx_all hR.1.1.1.1.1 hG F1 rn1_z rn2_z
  have e02_z : h2_z 0 2 = h1_z 0 2 := F2 0 2 (by decide +kernel)
  have cv_z : ∀ o k, cQ o k → rg_v h2_z o k = rg_v h1_z o k := fun o k q => rg_v_fr F2 (cq_in (by decide +kernel) q)
  have mv : ∀ o q, mQ o q → rg_v h1_z o q = rg_v h o q := fun o q e => rg_v_fr F1 (mq_in (by decide +kernel) (by decide +kernel) e)
  have zp : ∀ p, (p = 2 ∨ p = 23) → zC p h1_z h2_z := by
    intro p hp_z
    rcases hp_z with rfl | rfl
    · exact zC_fr (by decide +kernel) F2
    · exact zC_fr (by decide +kernel) F2
  have tx : (h1_z 0 2 = .ref d → pv d h1_z ∧ (∀ j, 1 ≤ j → j < 17 → cS_z h1_z 48 j = if j = 2 then -1 else if j = 3 then rg_v h1_z d 8 else 0) ∧ rg_v h1_z 60 2 = 0 ∧ rg_v h1_z 60 1 = rg_v h 60 1 ∧ rg_v h1_z 0 8 = 0) ∧ (h1_z 0 2 = .ref (25 - d) → ∀ k, ¬ k = 1 → h1_z 0 k = h 0 k) := by
    rcases hd_z with rfl | rfl
    · exact sd_17_2 D E rn1_z
    · exact sd_17_23 D E rn1_z
  rcases O with ⟨q1_z, q2_z⟩ | ⟨-, zc, zm, ep, kc, km⟩ | X
  · subst q1_z
    refine ⟨fun p hp_z => ?_, St_e (by decide) cv_z (fun o q e => ?_) hR.2.2⟩
    · rw [e02_z] at hp_z
      have hp2_z := pk_p hd_z E hp_z
      exact pv_z (zp p (hp2_z.elim (fun q => Or.inl q.1) (fun q => Or.inr q.1))) (hR.2.1 p hp_z)
    · rw [q2_z]
      exact rg_v_other (by unfold mQ at e; omega)
  · have k0_z := tx.2 ep
    refine ⟨fun p hp_z => ?_, St_e (by decide) (fun o k q => (cv_z o k q).trans ?_) (fun o q e => ?_) hR.2.2⟩
    · rw [e02_z] at hp_z
      have hp2_z := pk_p hd_z ep hp_z
      have e25_z : 25 - d = p := by rcases hp2_z with ⟨rfl, rfl⟩ | ⟨rfl, rfl⟩ <;> rfl
      have v := hR.2.1 p (by rw [E, e25_z])
      rw [e25_z] at zc
      exact pv_z (zC_t zc (zp p (hp2_z.elim (fun q => Or.inl q.1) (fun q => Or.inr q.1)))) v
    · unfold rg_v
      by_cases o0_z : o = 0
      · subst o0_z
        rw [k0_z k (by unfold cQ at q; omega)]
      · rw [kc o k (by unfold cQ at q; unfold dk_o; omega) o0_z]
    · refine Eq.trans ?_ (mv o q e)
      unfold rg_v
      have m := e
      unfold mQ at m
      rcases m with ⟨rfl, rfl | rfl | rfl⟩ | m | m | m | m | m
      · rw [km.1 57 (by decide)]
      · rw [km.1 77 (by decide)]
      · rw [km.1 79 (by decide)]
      · rw [km.2 o q (by omega)]
      · rw [km.2 o q (by omega)]
      · rw [km.2 o q (by omega)]
      · rw [km.2 o q (by omega)]
      · rw [km.2 o q (by omega)]
  · have hd1_z : h1_z 0 2 = .ref d := by
      obtain ⟨hq_z, gq, x1_z, x2_z, x3_z, x4_z, m1_z, m2_z, m3_z, m4_z, m5_z, A, w1_z, r54_z, r144_z, r14_z, r57_z, r58_z, w2_z, w3_z⟩ := X
      exact w3_z
    obtain ⟨V, cs, c2_z, c1_z, c8_z⟩ := tx.1 hd1_z
    have ms : rg_v h2_z 164 77 = 0 ∧ rg_v h2_z 164 79 = 0 ∧ rg_v h2_z 164 60 = 0 ∧ rg_v h2_z 164 61 = 0 ∧ rg_v h2_z 164 62 = -1 ∧ bF (mS h2_z 0) (rg_v h2_z 168 3) := by
      obtain ⟨hq_z, gq, x1_z, x2_z, x3_z, x4_z, m1_z, m2_z, m3_z, m4_z, m5_z, A, w1_z, r54_z, r144_z, r14_z, r57_z, r58_z, w2_z, w3_z⟩ := X
      exact sm_144 r144_z
    obtain ⟨m77_z, m79_z, -, -, -, mb⟩ := ms
    have k := K2 d (e02_z.trans hd1_z)
    have e8_z : rg_v h1_z d 8 = rg_v h2_z 168 3 := (zp d hd_z d 8 (zcB_i (i := 0) (Or.inl (by decide))) (by omega)).symm.trans k.1.2.2.2.1
    have p8_z : 0 ≤ (rg_v h1_z d 8).toInt ∧ (rg_v h1_z d 8).toInt ≤ 99 := by
      rw [← zp d hd_z d 8 (zcB_i (i := 0) (Or.inl (by decide))) (by omega)]
      exact lent_G hd_z hG2
    have z0_z : (0 : Int32).toInt = 0 := by decide
    refine ⟨fun p hp_z => ?_, sRec_e (lo := 1) (f := cS_z h1_z 48) (m := cS_z h1_z 48) (by decide) (fun j _ _ => cS_v (fun o k a b => cv_z o k (by unfold cQ; omega)) j) (fun j j1_z j17_z => ?_) ⟨fun _ _ _ => rfl, ?_⟩, ⟨?_, ?_, ?_, fun j hj_z => ?_⟩, ?_, fun hb_z => ?_⟩
    · rw [e02_z, hd1_z] at hp_z
      cases hp_z
      exact pv_z (zp d hd_z) V
    · rw [cs j j1_z j17_z, mb j j1_z j17_z, e8_z]
    · have cz : ∀ j, 4 ≤ j → j < 17 → cS_z h1_z 48 j = 0 := fun j j4_z j17_z => by
        rw [cs j (by omega) j17_z, if_neg (by omega), if_neg (by omega)]
      have o1_z : cS_z h1_z 48 1 = 0 := by rw [cs 1 (by decide) (by decide)]; rfl
      have o3_z : cS_z h1_z 48 3 = rg_v h1_z d 8 := by rw [cs 3 (by decide) (by decide)]; rfl
      unfold okF
      rw [o1_z, o3_z]
      refine ⟨by decide, p8_z, fun k hk_z => ?_⟩
      rw [cz (13 + k) (by omega) (by omega), cz (5 + k) (by omega) (by omega)]
      decide
    · rw [cv_z 60 1 (by unfold cQ; omega), c1_z]
      exact hR.2.2.2.1.1
    · rw [cv_z 60 2 (by unfold cQ; omega), c2_z]
      decide
    · rw [cv_z 60 2 (by unfold cQ; omega), c2_z, m77_z]
    · rw [cv_z 60 2 (by unfold cQ; omega), c2_z, z0_z] at hj_z
      omega
    · rw [cv_z 0 8 (by unfold cQ; omega), c8_z, m79_z]
    · rw [cv_z 0 8 (by unfold cQ; omega), c8_z] at hb_z
      exact absurd rfl hb_z
theorem R8_All : ax_All R8 := ⟨R8_feed, R8_text, R8_fault, R8_named, R8_look, R8_law, R8_blow, R8_waits, R8_pump, R8_patch, R8_leak, R8_ever, R8_best, R8_lasts, R8_firm, R8_up, R8_upAt, R8_cheapest, R8_lend, R8_seek, R8_mean, R8_rule, R8_fairest, R8_cheek, R8_strike, R8_known, R8_fits, R8_chance, R8_tried, R8_undo, R8_keep, R8_back, R8_count⟩
theorem R8_0 : R8 am_h0 := by
  refine ⟨R7_0, fun p hp_z => ?_, ⟨fun j j1_z j17_z => ?_, ?_⟩, ⟨?_, ?_, ?_, fun j hj_z => ?_⟩, ?_, fun hb_z => ?_⟩
  · have e : am_h0 0 2 = .ref 2 := rg_r0 (x := 2) (by decide +kernel) (rg_any gd_h0 (kd := .inl 0) (by decide +kernel) (by decide) (by decide +kernel))
    rw [e] at hp_z
    cases hp_z
    have ev_z : rg_v am_h0 2 0 = 500 ∧ rg_v am_h0 2 1 = 0 ∧ rg_v am_h0 2 2 = 0 ∧ rg_v am_h0 2 4 = 0 ∧ rg_v am_h0 2 7 = 0 ∧ rg_v am_h0 2 8 = 0 ∧ rg_v am_h0 2 9 = 0 ∧ rg_v am_h0 2 12 = 0 := by decide +kernel
    have q0_z : (500 : Int32).toInt = 500 := by decide
    have z0_z : (0 : Int32).toInt = 0 := by decide
    obtain ⟨f0_z, f1_z, f2_z, f4_z, f7_z, f8_z, f9_z, f12_z⟩ := ev_z
    refine ⟨?_, fun b hb_z => ?_, fun b hb_z => ?_, Or.inl ⟨f7_z, f8_z⟩, fun b hb_z => ?_, fun b hb_z => ?_, ?_⟩
    · unfold pv1_z
      rw [f0_z, f1_z]
      omega
    · rw [f2_z] at hb_z; omega
    · rw [f4_z] at hb_z; omega
    · rw [f9_z] at hb_z; omega
    · rw [f12_z] at hb_z; omega
    · unfold pv7_z
      rw [f2_z, f4_z, f9_z, f12_z]
      omega
  · have key : ∀ j, j < 17 → cS_z am_h0 48 j = mS am_h0 0 j := by decide +kernel
    exact key j j17_z
  · have key : ((cS_z am_h0 48 1).toInt = 0 ∧ (cS_z am_h0 48 3).toInt = 0) ∧ ∀ k, k < 4 → (cS_z am_h0 48 (13 + k)).toInt = 0 ∧ (cS_z am_h0 48 (5 + k)).toInt = 0 := by decide +kernel
    obtain ⟨⟨a, b⟩, c⟩ := key
    refine ⟨by omega, by omega, fun k hk_z => ?_⟩
    have q := c k hk_z
    omega
  · decide +kernel
  · decide +kernel
  · decide +kernel
  · have z : rg_v am_h0 60 2 = 0 := by decide +kernel
    rw [z, show (0 : Int32).toInt = 0 by decide] at hj_z
    omega
  · decide +kernel
  · have z : rg_v am_h0 0 8 = 0 := by decide +kernel
    exact absurd z hb_z
theorem R8_y_patch : ay_patch R8 := by
  intro x0_z x1_z x2_z x3_z x4_z x5_z x6_z x7_z x8_z hR g0_z g1_z g2_z f1_z f2_z y0_z y1_z
  obtain ⟨p, hp_z, D, K, V, B, S, T⟩ := R8_in hR g0_z (by decide +kernel) f1_z
  have L : rg_v x2_z p 18 = rg_v x3_z 164 58 := (hR.1.2 p D).trans (rg_v_fr f1_z (by decide +kernel)).symm
  rcases hp_z with rfl | rfl
  · exact (pt_2 D S K L y0_z y1_z (i_fr (by decide +kernel) (by decide +kernel) f1_z) (r_fr (by decide +kernel) f2_z) (rg_v_fr f2_z (by decide +kernel))).1
  · exact (pt_23 D S K L y0_z y1_z (i_fr (by decide +kernel) (by decide +kernel) f1_z) (r_fr (by decide +kernel) f2_z) (rg_v_fr f2_z (by decide +kernel))).1
theorem R8_y_undo : ay_undo R8 := by
  intro x0_z x1_z x2_z x3_z x4_z x5_z x6_z x7_z hR g0_z g1_z g2_z f1_z f2_z y0_z y1_z
  obtain ⟨p, hp_z, D, K, V, B, S, T⟩ := R8_in hR g0_z (by decide +kernel) f1_z
  exact (un_ S y0_z y1_z (i_fr (by decide +kernel) (by decide +kernel) f1_z) (r_fr (by decide +kernel) f2_z) (rg_v_fr f2_z (by decide +kernel))).1
theorem R8_y_keep : ay_keep R8 := by
  intro x0_z x1_z x2_z x3_z x4_z x5_z x6_z x7_z hR g0_z g1_z g2_z f1_z f2_z y0_z y1_z
  obtain ⟨p, hp_z, D, K, V, B, S, T⟩ := R8_in hR g0_z (by decide +kernel) f1_z
  exact (kp_pair S (se_139 y0_z) (mf_251 y1_z) (rg_v_fr f2_z (by decide +kernel)) (r_fr (by decide +kernel) f2_z)).1
theorem R8_y_back : ay_back R8 := by
  intro x0_z x1_z x2_z x3_z x4_z x5_z x6_z x7_z hR g0_z g1_z g2_z f1_z f2_z y0_z y1_z
  obtain ⟨p, hp_z, D, K, V, B, S, T⟩ := R8_in hR g0_z (by decide +kernel) f1_z
  exact (bc_pair S (i_fr (by decide +kernel) (by decide +kernel) f1_z) (r_fr (by decide +kernel) f2_z) (rg_v_fr f2_z (by decide +kernel)) (se_140 y0_z) (mf_252 y1_z)).1
