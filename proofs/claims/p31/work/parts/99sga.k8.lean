/-! ===== THE STATE ALIKE IN BOTH, all but full (wip/r/gen99sg.py) ===== -/
/-- a bed as it begins -/
def bF (m : Nat → Int32) (left : Int32) : Prop := ∀ j, 1 ≤ j → j < 17 → m j = if j = 2 then -1 else if j = 3 then left else 0
def zB (g g' : am_H) : Prop := ∀ o q, ((188 ≤ o ∧ o ≤ 194) ∨ (o = 164 ∧ (q = 57 ∨ q = 60 ∨ q = 61 ∨ q = 62))) → g' o q = g o q
theorem sg_v {g g' : am_H} {o q : Nat} (e : g' o q = g o q) : rg_v g' o q = rg_v g o q := by
  unfold rg_v
  rw [e]
theorem zB_r {g : am_H} : zB g g := fun _ _ _ => rfl
theorem zB_t {g g' g'' : am_H} (a : zB g g') (b : zB g' g'') : zB g g'' := fun o q e => (b o q e).trans (a o q e)
theorem sm_e {n : Nat} {ls : am_L} {r : Option Value} {g g' : am_H} (g0_z : am_get ls 0 = some (.ref 164)) (hm_z : rn n am_m146 74 ls [] g r g') : rg_v g' 164 77 = 0 ∧ rg_v g' 164 79 = 0 ∧ zB g g' := by
  replace hm_z := rn_aload_n (am_cur_of (i := (124, 1, .aload_n 0, (0, 0, 0), 0)) (by decide +kernel)) g0_z hm_z
  replace hm_z := rn_iconst (w := 0) (am_cur_of (i := (125, 1, .iconst 0, (0, 0, 0), 0)) (by decide +kernel)) (by decide) hm_z
  replace hm_z := rn_put (am_cur_of (i := (126, 3, .putfield 368, (12, 73, 1457), 0)) (by decide +kernel)) (by decide +kernel) hm_z
  replace hm_z := rn_aload_n (am_cur_of (i := (129, 1, .aload_n 0, (0, 0, 0), 0)) (by decide +kernel)) g0_z hm_z
  replace hm_z := rn_iconst (w := (-1)) (am_cur_of (i := (130, 1, .iconst (-1), (0, 0, 0), 0)) (by decide +kernel)) (by decide) hm_z
  replace hm_z := rn_put (am_cur_of (i := (131, 3, .putfield 118, (12, 74, 1458), 0)) (by decide +kernel)) (by decide +kernel) hm_z
  replace hm_z := rn_aload_n (am_cur_of (i := (134, 1, .aload_n 0, (0, 0, 0), 0)) (by decide +kernel)) g0_z hm_z
  replace hm_z := rn_iconst (w := 0) (am_cur_of (i := (135, 1, .iconst 0, (0, 0, 0), 0)) (by decide +kernel)) (by decide) hm_z
  replace hm_z := rn_put (am_cur_of (i := (136, 3, .putfield 371, (12, 77, 1461), 0)) (by decide +kernel)) (by decide +kernel) hm_z
  replace hm_z := rn_aload_n (am_cur_of (i := (139, 1, .aload_n 0, (0, 0, 0), 0)) (by decide +kernel)) g0_z hm_z
  replace hm_z := rn_iconst (w := 0) (am_cur_of (i := (140, 1, .iconst 0, (0, 0, 0), 0)) (by decide +kernel)) (by decide) hm_z
  replace hm_z := rn_put (am_cur_of (i := (141, 3, .putfield 374, (12, 79, 1463), 0)) (by decide +kernel)) (by decide +kernel) hm_z
  replace hm_z := rn_vret (am_cur_of (i := (144, 1, .return_, (0, 0, 0), 0)) (by decide +kernel)) hm_z
  obtain ⟨e1_z, e2_z⟩ := hm_z
  rw [e2_z]
  exact ⟨((rg_v_other (by omega)).trans (rg_v_self)), rg_v_self, (fun o q e => (up_ne (by omega)).trans ((up_ne (by omega)).trans ((up_ne (by omega)).trans ((up_ne (by omega)).trans ((zB_r o q e))))))⟩
theorem sm_w {r : Option Value} {g' : am_H} : ∀ (f : Nat) (x : Int32) (ls : am_L) (g : am_H), am_get ls 0 = some (.ref 164) → am_get ls 2 = some (.int x) → rn f am_m146 52 ls [] g r g' → rg_v g' 164 77 = 0 ∧ rg_v g' 164 79 = 0 ∧ zB g g' := by
  intro f
  induction f with
  | zero => intro x ls g g0_z g2_z hm_z; exact absurd hm_z rn_0
  | succ f ih_z =>
    intro x ls g g0_z g2_z hm_z
    replace hm_z := rn_iload_n (am_cur_of (i := (86, 1, .iload_n 2, (0, 0, 0), 0)) (by decide +kernel)) g2_z hm_z
    replace hm_z := rn_aload_n (am_cur_of (i := (87, 1, .aload_n 0, (0, 0, 0), 0)) (by decide +kernel)) g0_z hm_z
    replace hm_z := rn_getR (x := 173) (am_cur_of (i := (88, 3, .getfield 39, (12, 28, 1412), 0)) (by decide +kernel)) (by decide +kernel) hm_z
    replace hm_z := rn_aload_n (am_cur_of (i := (91, 1, .aload_n 0, (0, 0, 0), 0)) (by decide +kernel)) g0_z hm_z
    replace hm_z := rn_getI (v := rg_v g 164 58) (am_cur_of (i := (92, 3, .getfield 362, (12, 58, 1442), 0)) (by decide +kernel)) (by decide +kernel) rfl hm_z
    replace hm_z := rn_iaload (N := 12) (q := (rg_v g 164 58).toNatClampNeg) (v := rg_v g 173 ((rg_v g 164 58).toNatClampNeg)) (am_cur_of (i := (95, 1, .iaload, (0, 0, 0), 0)) (by decide +kernel)) (by decide +kernel) rfl rfl hm_z
    obtain ⟨p3_z, hm_z⟩ := hm_z
    replace hm_z := rn_cmp (am_cur_of (i := (96, 3, .if_icmp .lt 28, (74, 0, 0), 0)) (by decide +kernel)) hm_z
    rcases hm_z with ⟨b4_z, hm_z⟩ | ⟨b4_z, hm_z⟩
    · replace b4_z : x.toInt < (rg_v g 173 ((rg_v g 164 58).toNatClampNeg)).toInt := b4_z
      obtain ⟨e1_z, e2_z, e3_z⟩ := sm_e g0_z hm_z
      exact ⟨e1_z, e2_z, zB_t zB_r e3_z⟩
    · replace b4_z : (rg_v g 173 ((rg_v g 164 58).toNatClampNeg)).toInt ≤ x.toInt := b4_z
      replace hm_z := rn_iload_n (am_cur_of (i := (99, 1, .iload_n 2, (0, 0, 0), 0)) (by decide +kernel)) g2_z hm_z
      replace hm_z := rn_aload_n (am_cur_of (i := (100, 1, .aload_n 0, (0, 0, 0), 0)) (by decide +kernel)) g0_z hm_z
      replace hm_z := rn_getR (x := 173) (am_cur_of (i := (101, 3, .getfield 39, (12, 28, 1412), 0)) (by decide +kernel)) (by decide +kernel) hm_z
      replace hm_z := rn_aload_n (am_cur_of (i := (104, 1, .aload_n 0, (0, 0, 0), 0)) (by decide +kernel)) g0_z hm_z
      replace hm_z := rn_getI (v := rg_v g 164 58) (am_cur_of (i := (105, 3, .getfield 362, (12, 58, 1442), 0)) (by decide +kernel)) (by decide +kernel) rfl hm_z
      replace hm_z := rn_iaload (N := 12) (q := (rg_v g 164 58).toNatClampNeg) (v := rg_v g 173 ((rg_v g 164 58).toNatClampNeg)) (am_cur_of (i := (108, 1, .iaload, (0, 0, 0), 0)) (by decide +kernel)) (by decide +kernel) rfl rfl hm_z
      obtain ⟨p5_z, hm_z⟩ := hm_z
      replace hm_z := rn_isub (w := x - (rg_v g 173 ((rg_v g 164 58).toNatClampNeg))) (am_cur_of (i := (109, 1, .isub, (0, 0, 0), 0)) (by decide +kernel)) rfl hm_z
      replace hm_z := rn_istore_n (am_cur_of (i := (110, 1, .istore_n 2, (0, 0, 0), 0)) (by decide +kernel)) hm_z
      obtain ⟨_, s6_z, s7_z, g2_z, hm_z⟩ := hm_z
      replace g0_z := s6_z 0 _ (by decide) rfl g0_z
      clear s6_z s7_z
      replace hm_z := rn_aload_n (am_cur_of (i := (111, 1, .aload_n 0, (0, 0, 0), 0)) (by decide +kernel)) g0_z hm_z
      replace hm_z := rn_dup (am_cur_of (i := (112, 1, .dup, (0, 0, 0), 0)) (by decide +kernel)) hm_z
      replace hm_z := rn_getI (v := rg_v g 164 58) (am_cur_of (i := (113, 3, .getfield 362, (12, 58, 1442), 0)) (by decide +kernel)) (by decide +kernel) rfl hm_z
      replace hm_z := rn_iconst (w := 1) (am_cur_of (i := (116, 1, .iconst 1, (0, 0, 0), 0)) (by decide +kernel)) (by decide) hm_z
      replace hm_z := rn_iadd (w := (rg_v g 164 58) + 1) (am_cur_of (i := (117, 1, .iadd, (0, 0, 0), 0)) (by decide +kernel)) rfl hm_z
      replace hm_z := rn_put (am_cur_of (i := (118, 3, .putfield 362, (12, 58, 1442), 0)) (by decide +kernel)) (by decide +kernel) hm_z
      replace hm_z := rn_gotoL (am_cur_of (i := (121, 3, .goto (-35), (52, 0, 0), 0)) (by decide +kernel)) hm_z
      obtain ⟨e1_z, e2_z, e3_z⟩ := ih_z _ _ _ g0_z g2_z hm_z
      exact ⟨e1_z, e2_z, zB_t (fun o q e => (up_ne (by omega)).trans ((zB_r o q e))) e3_z⟩
theorem sm_s {r : Option Value} {g' : am_H} : ∀ (f : Nat) (s i : Int32) (ls : am_L) (g : am_H), am_get ls 0 = some (.ref 164) → am_get ls 1 = some (.int s) → am_get ls 2 = some (.int i) → rn f am_m146 32 ls [] g r g' → rg_v g' 164 77 = 0 ∧ rg_v g' 164 79 = 0 ∧ zB g g' := by
  intro f
  induction f with
  | zero => intro s i ls g g0_z g1_z g2_z hm_z; exact absurd hm_z rn_0
  | succ f ih_z =>
    intro s i ls g g0_z g1_z g2_z hm_z
    replace hm_z := rn_iload_n (am_cur_of (i := (52, 1, .iload_n 2, (0, 0, 0), 0)) (by decide +kernel)) g2_z hm_z
    replace hm_z := rn_aload_n (am_cur_of (i := (53, 1, .aload_n 0, (0, 0, 0), 0)) (by decide +kernel)) g0_z hm_z
    replace hm_z := rn_getI (v := rg_v g 164 14) (am_cur_of (i := (54, 3, .getfield 225, (12, 14, 1398), 0)) (by decide +kernel)) (by decide +kernel) rfl hm_z
    replace hm_z := rn_cmp (am_cur_of (i := (57, 3, .if_icmp .ge 18, (45, 0, 0), 0)) (by decide +kernel)) hm_z
    rcases hm_z with ⟨b8_z, hm_z⟩ | ⟨b8_z, hm_z⟩
    · replace b8_z : (rg_v g 164 14).toInt ≤ i.toInt := b8_z
      replace hm_z := rn_aload_n (am_cur_of (i := (75, 1, .aload_n 0, (0, 0, 0), 0)) (by decide +kernel)) g0_z hm_z
      replace hm_z := rn_iload_n (am_cur_of (i := (76, 1, .iload_n 1, (0, 0, 0), 0)) (by decide +kernel)) g1_z hm_z
      replace hm_z := rn_callV (M' := am_m148) (o := 164) (ar := [.int s]) (rest := []) (L := lv_args 0 [.ref 164, .int s]) (am_cur_of (i := (77, 3, .invokevirtual 365, (148, 1376, 3), 0)) (by decide +kernel)) rfl rfl rfl rfl hm_z
      obtain ⟨r9_z, h10_z, q11_z, hm_z⟩ := hm_z
      obtain ⟨-, rr, hh⟩ := lk_148 q11_z
      subst rr
      have zn : zB g h10_z := by
        rw [hh]
        exact fun o q e => up_ne (by omega)
      replace hm_z : rn _ _ _ _ [.int (((((rg_l g 164 59 * 1103515245) + 12345) &&& 2147483647) / 65536 - (((rg_l g 164 59 * 1103515245) + 12345) &&& 2147483647) / 65536 / s.toInt64 * s.toInt64).toInt32)] _ _ _ := hm_z
      replace hm_z := rn_istore_n (am_cur_of (i := (80, 1, .istore_n 2, (0, 0, 0), 0)) (by decide +kernel)) hm_z
      obtain ⟨_, s12_z, s13_z, g2_z, hm_z⟩ := hm_z
      replace g0_z := s12_z 0 _ (by decide) rfl g0_z
      replace g1_z := s12_z 1 _ (by decide) rfl g1_z
      clear s12_z s13_z
      replace hm_z := rn_aload_n (am_cur_of (i := (81, 1, .aload_n 0, (0, 0, 0), 0)) (by decide +kernel)) g0_z hm_z
      replace hm_z := rn_iconst (w := 0) (am_cur_of (i := (82, 1, .iconst 0, (0, 0, 0), 0)) (by decide +kernel)) (by decide) hm_z
      replace hm_z := rn_put (am_cur_of (i := (83, 3, .putfield 362, (12, 58, 1442), 0)) (by decide +kernel)) (by decide +kernel) hm_z
      obtain ⟨e1_z, e2_z, e3_z⟩ := sm_w _ _ _ _ g0_z g2_z hm_z
      exact ⟨e1_z, e2_z, zB_t (fun o q e => (up_ne (by omega)).trans ((zn o q e))) e3_z⟩
    · replace b8_z : i.toInt < (rg_v g 164 14).toInt := b8_z
      replace hm_z := rn_iload_n (am_cur_of (i := (60, 1, .iload_n 1, (0, 0, 0), 0)) (by decide +kernel)) g1_z hm_z
      replace hm_z := rn_aload_n (am_cur_of (i := (61, 1, .aload_n 0, (0, 0, 0), 0)) (by decide +kernel)) g0_z hm_z
      replace hm_z := rn_getR (x := 173) (am_cur_of (i := (62, 3, .getfield 39, (12, 28, 1412), 0)) (by decide +kernel)) (by decide +kernel) hm_z
      replace hm_z := rn_iload_n (am_cur_of (i := (65, 1, .iload_n 2, (0, 0, 0), 0)) (by decide +kernel)) g2_z hm_z
      replace hm_z := rn_iaload (N := 12) (q := i.toNatClampNeg) (v := rg_v g 173 i.toNatClampNeg) (am_cur_of (i := (66, 1, .iaload, (0, 0, 0), 0)) (by decide +kernel)) (by decide +kernel) rfl rfl hm_z
      obtain ⟨p14_z, hm_z⟩ := hm_z
      replace hm_z := rn_iadd (w := s + (rg_v g 173 i.toNatClampNeg)) (am_cur_of (i := (67, 1, .iadd, (0, 0, 0), 0)) (by decide +kernel)) rfl hm_z
      replace hm_z := rn_istore_n (am_cur_of (i := (68, 1, .istore_n 1, (0, 0, 0), 0)) (by decide +kernel)) hm_z
      obtain ⟨_, s15_z, s16_z, g1_z, hm_z⟩ := hm_z
      replace g0_z := s15_z 0 _ (by decide) rfl g0_z
      replace g2_z := s15_z 2 _ (by decide) rfl g2_z
      clear s15_z s16_z
      replace hm_z := rn_iinc (w := i + 1) (am_cur_of (i := (69, 3, .iinc 2 1, (0, 0, 0), 0)) (by decide +kernel)) g2_z rfl hm_z
      obtain ⟨_, s17_z, s18_z, g2_z, hm_z⟩ := hm_z
      replace g0_z := s17_z 0 _ (by decide) rfl g0_z
      replace g1_z := s17_z 1 _ (by decide) rfl g1_z
      clear s17_z s18_z
      replace hm_z := rn_gotoL (am_cur_of (i := (72, 3, .goto (-20), (32, 0, 0), 0)) (by decide +kernel)) hm_z
      obtain ⟨e1_z, e2_z, e3_z⟩ := ih_z _ _ _ _ g0_z g1_z g2_z hm_z
      exact ⟨e1_z, e2_z, zB_t zB_r e3_z⟩
theorem sm_147 {n : Nat} {r : Option Value} {g g' : am_H} (hm_z : rn n am_m147 0 (lv_args 0 [.ref 164, .int 0]) [] g r g') : (∀ j, 1 ≤ j → j < 17 → mS g' 0 j = if j = 2 then -1 else if j = 3 then rg_v g 168 3 else if j = 4 then rg_v g 164 57 else 0) ∧ ∀ o q, ¬ (188 ≤ o ∧ o ≤ 194) → g' o q = g o q := by
  have g0_z : am_get (lv_args 0 [.ref 164, .int 0]) 0 = some (.ref 164) := rfl
  have g1_z : am_get (lv_args 0 [.ref 164, .int 0]) 1 = some (.int 0) := rfl
  replace hm_z := rn_aload_n (am_cur_of (i := (0, 1, .aload_n 0, (0, 0, 0), 0)) (by decide +kernel)) g0_z hm_z
  replace hm_z := rn_getR (x := 188) (am_cur_of (i := (1, 3, .getfield 85, (12, 50, 1434), 0)) (by decide +kernel)) (by decide +kernel) hm_z
  replace hm_z := rn_iload_n (am_cur_of (i := (4, 1, .iload_n 1, (0, 0, 0), 0)) (by decide +kernel)) g1_z hm_z
  replace hm_z := rn_aload_n (am_cur_of (i := (5, 1, .aload_n 0, (0, 0, 0), 0)) (by decide +kernel)) g0_z hm_z
  replace hm_z := rn_getR (x := 168) (am_cur_of (i := (6, 3, .getfield 24, (12, 23, 1407), 0)) (by decide +kernel)) (by decide +kernel) hm_z
  replace hm_z := rn_iconst (w := 1) (am_cur_of (i := (9, 1, .iconst 1, (0, 0, 0), 0)) (by decide +kernel)) (by decide) hm_z
  replace hm_z := rn_iaload (N := 12) (q := 1) (v := rg_v g 168 1) (am_cur_of (i := (10, 1, .iaload, (0, 0, 0), 0)) (by decide +kernel)) (by decide +kernel) rfl rfl hm_z
  obtain ⟨p19_z, hm_z⟩ := hm_z
  replace hm_z := rn_iastore (N := 4) (q := 0) (am_cur_of (i := (11, 1, .iastore, (0, 0, 0), 0)) (by decide +kernel)) (by decide +kernel) rfl hm_z
  obtain ⟨p20_z, hm_z⟩ := hm_z
  replace hm_z := rn_aload_n (am_cur_of (i := (12, 1, .aload_n 0, (0, 0, 0), 0)) (by decide +kernel)) g0_z hm_z
  replace hm_z := rn_getR (x := 189) (am_cur_of (i := (13, 3, .getfield 88, (12, 51, 1435), 0)) (by decide +kernel)) (by decide +kernel) hm_z
  replace hm_z := rn_iload_n (am_cur_of (i := (16, 1, .iload_n 1, (0, 0, 0), 0)) (by decide +kernel)) g1_z hm_z
  replace hm_z := rn_iconst (w := 0) (am_cur_of (i := (17, 1, .iconst 0, (0, 0, 0), 0)) (by decide +kernel)) (by decide) hm_z
  replace hm_z := rn_iastore (N := 4) (q := 0) (am_cur_of (i := (18, 1, .iastore, (0, 0, 0), 0)) (by decide +kernel)) (by decide +kernel) rfl hm_z
  obtain ⟨p21_z, hm_z⟩ := hm_z
  replace hm_z := rn_aload_n (am_cur_of (i := (19, 1, .aload_n 0, (0, 0, 0), 0)) (by decide +kernel)) g0_z hm_z
  replace hm_z := rn_getR (x := 190) (am_cur_of (i := (20, 3, .getfield 91, (12, 52, 1436), 0)) (by decide +kernel)) (by decide +kernel) hm_z
  replace hm_z := rn_iload_n (am_cur_of (i := (23, 1, .iload_n 1, (0, 0, 0), 0)) (by decide +kernel)) g1_z hm_z
  replace hm_z := rn_iconst (w := (-1)) (am_cur_of (i := (24, 1, .iconst (-1), (0, 0, 0), 0)) (by decide +kernel)) (by decide) hm_z
  replace hm_z := rn_iastore (N := 4) (q := 0) (am_cur_of (i := (25, 1, .iastore, (0, 0, 0), 0)) (by decide +kernel)) (by decide +kernel) rfl hm_z
  obtain ⟨p22_z, hm_z⟩ := hm_z
  replace hm_z := rn_aload_n (am_cur_of (i := (26, 1, .aload_n 0, (0, 0, 0), 0)) (by decide +kernel)) g0_z hm_z
  replace hm_z := rn_getR (x := 194) (am_cur_of (i := (27, 3, .getfield 103, (12, 56, 1440), 0)) (by decide +kernel)) (by decide +kernel) hm_z
  replace hm_z := rn_iload_n (am_cur_of (i := (30, 1, .iload_n 1, (0, 0, 0), 0)) (by decide +kernel)) g1_z hm_z
  replace hm_z := rn_aload_n (am_cur_of (i := (31, 1, .aload_n 0, (0, 0, 0), 0)) (by decide +kernel)) g0_z hm_z
  replace hm_z := rn_getR (x := 168) (am_cur_of (i := (32, 3, .getfield 24, (12, 23, 1407), 0)) (by decide +kernel)) (by decide +kernel) hm_z
  replace hm_z := rn_iconst (w := 3) (am_cur_of (i := (35, 1, .iconst 3, (0, 0, 0), 0)) (by decide +kernel)) (by decide) hm_z
  replace hm_z := rn_iaload (N := 12) (q := 3) (v := rg_v g 168 3) (am_cur_of (i := (36, 1, .iaload, (0, 0, 0), 0)) (by decide +kernel)) (by decide +kernel) rfl ((rg_v_other (by omega)).trans ((rg_v_other (by omega)).trans ((rg_v_other (by omega)).trans (rfl)))) hm_z
  obtain ⟨p23_z, hm_z⟩ := hm_z
  replace hm_z := rn_iastore (N := 4) (q := 0) (am_cur_of (i := (37, 1, .iastore, (0, 0, 0), 0)) (by decide +kernel)) (by decide +kernel) rfl hm_z
  obtain ⟨p24_z, hm_z⟩ := hm_z
  replace hm_z := rn_iconst (w := 0) (am_cur_of (i := (38, 1, .iconst 0, (0, 0, 0), 0)) (by decide +kernel)) (by decide) hm_z
  replace hm_z := rn_istore_n (am_cur_of (i := (39, 1, .istore_n 2, (0, 0, 0), 0)) (by decide +kernel)) hm_z
  obtain ⟨_, s25_z, s26_z, g2_z, hm_z⟩ := hm_z
  replace g0_z := s25_z 0 _ (by decide) rfl g0_z
  replace g1_z := s25_z 1 _ (by decide) rfl g1_z
  clear s25_z s26_z
  replace hm_z := rn_iload_n (am_cur_of (i := (40, 1, .iload_n 2, (0, 0, 0), 0)) (by decide +kernel)) g2_z hm_z
  replace hm_z := rn_iconst (w := 4) (am_cur_of (i := (41, 1, .iconst 4, (0, 0, 0), 0)) (by decide +kernel)) (by decide) hm_z
  replace hm_z := rn_cmpF (am_cur_of (i := (42, 3, .if_icmp .ge 42, (60, 0, 0), 0)) (by decide +kernel)) (by decide) hm_z
  replace hm_z := rn_aload_n (am_cur_of (i := (45, 1, .aload_n 0, (0, 0, 0), 0)) (by decide +kernel)) g0_z hm_z
  replace hm_z := rn_getR (x := 191) (am_cur_of (i := (46, 3, .getfield 94, (12, 53, 1437), 0)) (by decide +kernel)) (by decide +kernel) hm_z
  replace hm_z := rn_iconst (w := 4) (am_cur_of (i := (49, 1, .iconst 4, (0, 0, 0), 0)) (by decide +kernel)) (by decide) hm_z
  replace hm_z := rn_iload_n (am_cur_of (i := (50, 1, .iload_n 1, (0, 0, 0), 0)) (by decide +kernel)) g1_z hm_z
  replace hm_z := rn_imul (w := 0) (am_cur_of (i := (51, 1, .imul, (0, 0, 0), 0)) (by decide +kernel)) (by decide) hm_z
  replace hm_z := rn_iload_n (am_cur_of (i := (52, 1, .iload_n 2, (0, 0, 0), 0)) (by decide +kernel)) g2_z hm_z
  replace hm_z := rn_iadd (w := 0) (am_cur_of (i := (53, 1, .iadd, (0, 0, 0), 0)) (by decide +kernel)) (by decide) hm_z
  replace hm_z := rn_iconst (w := 0) (am_cur_of (i := (54, 1, .iconst 0, (0, 0, 0), 0)) (by decide +kernel)) (by decide) hm_z
  replace hm_z := rn_iastore (N := 16) (q := 0) (am_cur_of (i := (55, 1, .iastore, (0, 0, 0), 0)) (by decide +kernel)) (by decide +kernel) rfl hm_z
  obtain ⟨p27_z, hm_z⟩ := hm_z
  replace hm_z := rn_aload_n (am_cur_of (i := (56, 1, .aload_n 0, (0, 0, 0), 0)) (by decide +kernel)) g0_z hm_z
  replace hm_z := rn_getR (x := 192) (am_cur_of (i := (57, 3, .getfield 97, (12, 54, 1438), 0)) (by decide +kernel)) (by decide +kernel) hm_z
  replace hm_z := rn_iconst (w := 4) (am_cur_of (i := (60, 1, .iconst 4, (0, 0, 0), 0)) (by decide +kernel)) (by decide) hm_z
  replace hm_z := rn_iload_n (am_cur_of (i := (61, 1, .iload_n 1, (0, 0, 0), 0)) (by decide +kernel)) g1_z hm_z
  replace hm_z := rn_imul (w := 0) (am_cur_of (i := (62, 1, .imul, (0, 0, 0), 0)) (by decide +kernel)) (by decide) hm_z
  replace hm_z := rn_iload_n (am_cur_of (i := (63, 1, .iload_n 2, (0, 0, 0), 0)) (by decide +kernel)) g2_z hm_z
  replace hm_z := rn_iadd (w := 0) (am_cur_of (i := (64, 1, .iadd, (0, 0, 0), 0)) (by decide +kernel)) (by decide) hm_z
  replace hm_z := rn_iconst (w := 0) (am_cur_of (i := (65, 1, .iconst 0, (0, 0, 0), 0)) (by decide +kernel)) (by decide) hm_z
  replace hm_z := rn_iastore (N := 16) (q := 0) (am_cur_of (i := (66, 1, .iastore, (0, 0, 0), 0)) (by decide +kernel)) (by decide +kernel) rfl hm_z
  obtain ⟨p28_z, hm_z⟩ := hm_z
  replace hm_z := rn_aload_n (am_cur_of (i := (67, 1, .aload_n 0, (0, 0, 0), 0)) (by decide +kernel)) g0_z hm_z
  replace hm_z := rn_getR (x := 193) (am_cur_of (i := (68, 3, .getfield 100, (12, 55, 1439), 0)) (by decide +kernel)) (by decide +kernel) hm_z
  replace hm_z := rn_iconst (w := 4) (am_cur_of (i := (71, 1, .iconst 4, (0, 0, 0), 0)) (by decide +kernel)) (by decide) hm_z
  replace hm_z := rn_iload_n (am_cur_of (i := (72, 1, .iload_n 1, (0, 0, 0), 0)) (by decide +kernel)) g1_z hm_z
  replace hm_z := rn_imul (w := 0) (am_cur_of (i := (73, 1, .imul, (0, 0, 0), 0)) (by decide +kernel)) (by decide) hm_z
  replace hm_z := rn_iload_n (am_cur_of (i := (74, 1, .iload_n 2, (0, 0, 0), 0)) (by decide +kernel)) g2_z hm_z
  replace hm_z := rn_iadd (w := 0) (am_cur_of (i := (75, 1, .iadd, (0, 0, 0), 0)) (by decide +kernel)) (by decide) hm_z
  replace hm_z := rn_iconst (w := 0) (am_cur_of (i := (76, 1, .iconst 0, (0, 0, 0), 0)) (by decide +kernel)) (by decide) hm_z
  replace hm_z := rn_iastore (N := 16) (q := 0) (am_cur_of (i := (77, 1, .iastore, (0, 0, 0), 0)) (by decide +kernel)) (by decide +kernel) rfl hm_z
  obtain ⟨p29_z, hm_z⟩ := hm_z
  replace hm_z := rn_iinc (w := 1) (am_cur_of (i := (78, 3, .iinc 2 1, (0, 0, 0), 0)) (by decide +kernel)) g2_z (by decide) hm_z
  obtain ⟨_, s30_z, s31_z, g2_z, hm_z⟩ := hm_z
  replace g0_z := s30_z 0 _ (by decide) rfl g0_z
  replace g1_z := s30_z 1 _ (by decide) rfl g1_z
  clear s30_z s31_z
  replace hm_z := rn_goto (am_cur_of (i := (81, 3, .goto (-41), (28, 0, 0), 0)) (by decide +kernel)) hm_z
  replace hm_z := rn_iload_n (am_cur_of (i := (40, 1, .iload_n 2, (0, 0, 0), 0)) (by decide +kernel)) g2_z hm_z
  replace hm_z := rn_iconst (w := 4) (am_cur_of (i := (41, 1, .iconst 4, (0, 0, 0), 0)) (by decide +kernel)) (by decide) hm_z
  replace hm_z := rn_cmpF (am_cur_of (i := (42, 3, .if_icmp .ge 42, (60, 0, 0), 0)) (by decide +kernel)) (by decide) hm_z
  replace hm_z := rn_aload_n (am_cur_of (i := (45, 1, .aload_n 0, (0, 0, 0), 0)) (by decide +kernel)) g0_z hm_z
  replace hm_z := rn_getR (x := 191) (am_cur_of (i := (46, 3, .getfield 94, (12, 53, 1437), 0)) (by decide +kernel)) (by decide +kernel) hm_z
  replace hm_z := rn_iconst (w := 4) (am_cur_of (i := (49, 1, .iconst 4, (0, 0, 0), 0)) (by decide +kernel)) (by decide) hm_z
  replace hm_z := rn_iload_n (am_cur_of (i := (50, 1, .iload_n 1, (0, 0, 0), 0)) (by decide +kernel)) g1_z hm_z
  replace hm_z := rn_imul (w := 0) (am_cur_of (i := (51, 1, .imul, (0, 0, 0), 0)) (by decide +kernel)) (by decide) hm_z
  replace hm_z := rn_iload_n (am_cur_of (i := (52, 1, .iload_n 2, (0, 0, 0), 0)) (by decide +kernel)) g2_z hm_z
  replace hm_z := rn_iadd (w := 1) (am_cur_of (i := (53, 1, .iadd, (0, 0, 0), 0)) (by decide +kernel)) (by decide) hm_z
  replace hm_z := rn_iconst (w := 0) (am_cur_of (i := (54, 1, .iconst 0, (0, 0, 0), 0)) (by decide +kernel)) (by decide) hm_z
  replace hm_z := rn_iastore (N := 16) (q := 1) (am_cur_of (i := (55, 1, .iastore, (0, 0, 0), 0)) (by decide +kernel)) (by decide +kernel) rfl hm_z
  obtain ⟨p32_z, hm_z⟩ := hm_z
  replace hm_z := rn_aload_n (am_cur_of (i := (56, 1, .aload_n 0, (0, 0, 0), 0)) (by decide +kernel)) g0_z hm_z
  replace hm_z := rn_getR (x := 192) (am_cur_of (i := (57, 3, .getfield 97, (12, 54, 1438), 0)) (by decide +kernel)) (by decide +kernel) hm_z
  replace hm_z := rn_iconst (w := 4) (am_cur_of (i := (60, 1, .iconst 4, (0, 0, 0), 0)) (by decide +kernel)) (by decide) hm_z
  replace hm_z := rn_iload_n (am_cur_of (i := (61, 1, .iload_n 1, (0, 0, 0), 0)) (by decide +kernel)) g1_z hm_z
  replace hm_z := rn_imul (w := 0) (am_cur_of (i := (62, 1, .imul, (0, 0, 0), 0)) (by decide +kernel)) (by decide) hm_z
  replace hm_z := rn_iload_n (am_cur_of (i := (63, 1, .iload_n 2, (0, 0, 0), 0)) (by decide +kernel)) g2_z hm_z
  replace hm_z := rn_iadd (w := 1) (am_cur_of (i := (64, 1, .iadd, (0, 0, 0), 0)) (by decide +kernel)) (by decide) hm_z
  replace hm_z := rn_iconst (w := 0) (am_cur_of (i := (65, 1, .iconst 0, (0, 0, 0), 0)) (by decide +kernel)) (by decide) hm_z
  replace hm_z := rn_iastore (N := 16) (q := 1) (am_cur_of (i := (66, 1, .iastore, (0, 0, 0), 0)) (by decide +kernel)) (by decide +kernel) rfl hm_z
  obtain ⟨p33_z, hm_z⟩ := hm_z
  replace hm_z := rn_aload_n (am_cur_of (i := (67, 1, .aload_n 0, (0, 0, 0), 0)) (by decide +kernel)) g0_z hm_z
  replace hm_z := rn_getR (x := 193) (am_cur_of (i := (68, 3, .getfield 100, (12, 55, 1439), 0)) (by decide +kernel)) (by decide +kernel) hm_z
  replace hm_z := rn_iconst (w := 4) (am_cur_of (i := (71, 1, .iconst 4, (0, 0, 0), 0)) (by decide +kernel)) (by decide) hm_z
  replace hm_z := rn_iload_n (am_cur_of (i := (72, 1, .iload_n 1, (0, 0, 0), 0)) (by decide +kernel)) g1_z hm_z
  replace hm_z := rn_imul (w := 0) (am_cur_of (i := (73, 1, .imul, (0, 0, 0), 0)) (by decide +kernel)) (by decide) hm_z
  replace hm_z := rn_iload_n (am_cur_of (i := (74, 1, .iload_n 2, (0, 0, 0), 0)) (by decide +kernel)) g2_z hm_z
  replace hm_z := rn_iadd (w := 1) (am_cur_of (i := (75, 1, .iadd, (0, 0, 0), 0)) (by decide +kernel)) (by decide) hm_z
  replace hm_z := rn_iconst (w := 0) (am_cur_of (i := (76, 1, .iconst 0, (0, 0, 0), 0)) (by decide +kernel)) (by decide) hm_z
  replace hm_z := rn_iastore (N := 16) (q := 1) (am_cur_of (i := (77, 1, .iastore, (0, 0, 0), 0)) (by decide +kernel)) (by decide +kernel) rfl hm_z
  obtain ⟨p34_z, hm_z⟩ := hm_z
  replace hm_z := rn_iinc (w := 2) (am_cur_of (i := (78, 3, .iinc 2 1, (0, 0, 0), 0)) (by decide +kernel)) g2_z (by decide) hm_z
  obtain ⟨_, s35_z, s36_z, g2_z, hm_z⟩ := hm_z
  replace g0_z := s35_z 0 _ (by decide) rfl g0_z
  replace g1_z := s35_z 1 _ (by decide) rfl g1_z
  clear s35_z s36_z
  replace hm_z := rn_goto (am_cur_of (i := (81, 3, .goto (-41), (28, 0, 0), 0)) (by decide +kernel)) hm_z
  replace hm_z := rn_iload_n (am_cur_of (i := (40, 1, .iload_n 2, (0, 0, 0), 0)) (by decide +kernel)) g2_z hm_z
  replace hm_z := rn_iconst (w := 4) (am_cur_of (i := (41, 1, .iconst 4, (0, 0, 0), 0)) (by decide +kernel)) (by decide) hm_z
  replace hm_z := rn_cmpF (am_cur_of (i := (42, 3, .if_icmp .ge 42, (60, 0, 0), 0)) (by decide +kernel)) (by decide) hm_z
  replace hm_z := rn_aload_n (am_cur_of (i := (45, 1, .aload_n 0, (0, 0, 0), 0)) (by decide +kernel)) g0_z hm_z
  replace hm_z := rn_getR (x := 191) (am_cur_of (i := (46, 3, .getfield 94, (12, 53, 1437), 0)) (by decide +kernel)) (by decide +kernel) hm_z
  replace hm_z := rn_iconst (w := 4) (am_cur_of (i := (49, 1, .iconst 4, (0, 0, 0), 0)) (by decide +kernel)) (by decide) hm_z
  replace hm_z := rn_iload_n (am_cur_of (i := (50, 1, .iload_n 1, (0, 0, 0), 0)) (by decide +kernel)) g1_z hm_z
  replace hm_z := rn_imul (w := 0) (am_cur_of (i := (51, 1, .imul, (0, 0, 0), 0)) (by decide +kernel)) (by decide) hm_z
  replace hm_z := rn_iload_n (am_cur_of (i := (52, 1, .iload_n 2, (0, 0, 0), 0)) (by decide +kernel)) g2_z hm_z
  replace hm_z := rn_iadd (w := 2) (am_cur_of (i := (53, 1, .iadd, (0, 0, 0), 0)) (by decide +kernel)) (by decide) hm_z
  replace hm_z := rn_iconst (w := 0) (am_cur_of (i := (54, 1, .iconst 0, (0, 0, 0), 0)) (by decide +kernel)) (by decide) hm_z
  replace hm_z := rn_iastore (N := 16) (q := 2) (am_cur_of (i := (55, 1, .iastore, (0, 0, 0), 0)) (by decide +kernel)) (by decide +kernel) rfl hm_z
  obtain ⟨p37_z, hm_z⟩ := hm_z
  replace hm_z := rn_aload_n (am_cur_of (i := (56, 1, .aload_n 0, (0, 0, 0), 0)) (by decide +kernel)) g0_z hm_z
  replace hm_z := rn_getR (x := 192) (am_cur_of (i := (57, 3, .getfield 97, (12, 54, 1438), 0)) (by decide +kernel)) (by decide +kernel) hm_z
  replace hm_z := rn_iconst (w := 4) (am_cur_of (i := (60, 1, .iconst 4, (0, 0, 0), 0)) (by decide +kernel)) (by decide) hm_z
  replace hm_z := rn_iload_n (am_cur_of (i := (61, 1, .iload_n 1, (0, 0, 0), 0)) (by decide +kernel)) g1_z hm_z
  replace hm_z := rn_imul (w := 0) (am_cur_of (i := (62, 1, .imul, (0, 0, 0), 0)) (by decide +kernel)) (by decide) hm_z
  replace hm_z := rn_iload_n (am_cur_of (i := (63, 1, .iload_n 2, (0, 0, 0), 0)) (by decide +kernel)) g2_z hm_z
  replace hm_z := rn_iadd (w := 2) (am_cur_of (i := (64, 1, .iadd, (0, 0, 0), 0)) (by decide +kernel)) (by decide) hm_z
  replace hm_z := rn_iconst (w := 0) (am_cur_of (i := (65, 1, .iconst 0, (0, 0, 0), 0)) (by decide +kernel)) (by decide) hm_z
  replace hm_z := rn_iastore (N := 16) (q := 2) (am_cur_of (i := (66, 1, .iastore, (0, 0, 0), 0)) (by decide +kernel)) (by decide +kernel) rfl hm_z
  obtain ⟨p38_z, hm_z⟩ := hm_z
  replace hm_z := rn_aload_n (am_cur_of (i := (67, 1, .aload_n 0, (0, 0, 0), 0)) (by decide +kernel)) g0_z hm_z
  replace hm_z := rn_getR (x := 193) (am_cur_of (i := (68, 3, .getfield 100, (12, 55, 1439), 0)) (by decide +kernel)) (by decide +kernel) hm_z
  replace hm_z := rn_iconst (w := 4) (am_cur_of (i := (71, 1, .iconst 4, (0, 0, 0), 0)) (by decide +kernel)) (by decide) hm_z
  replace hm_z := rn_iload_n (am_cur_of (i := (72, 1, .iload_n 1, (0, 0, 0), 0)) (by decide +kernel)) g1_z hm_z
  replace hm_z := rn_imul (w := 0) (am_cur_of (i := (73, 1, .imul, (0, 0, 0), 0)) (by decide +kernel)) (by decide) hm_z
  replace hm_z := rn_iload_n (am_cur_of (i := (74, 1, .iload_n 2, (0, 0, 0), 0)) (by decide +kernel)) g2_z hm_z
  replace hm_z := rn_iadd (w := 2) (am_cur_of (i := (75, 1, .iadd, (0, 0, 0), 0)) (by decide +kernel)) (by decide) hm_z
  replace hm_z := rn_iconst (w := 0) (am_cur_of (i := (76, 1, .iconst 0, (0, 0, 0), 0)) (by decide +kernel)) (by decide) hm_z
  replace hm_z := rn_iastore (N := 16) (q := 2) (am_cur_of (i := (77, 1, .iastore, (0, 0, 0), 0)) (by decide +kernel)) (by decide +kernel) rfl hm_z
  obtain ⟨p39_z, hm_z⟩ := hm_z
  replace hm_z := rn_iinc (w := 3) (am_cur_of (i := (78, 3, .iinc 2 1, (0, 0, 0), 0)) (by decide +kernel)) g2_z (by decide) hm_z
  obtain ⟨_, s40_z, s41_z, g2_z, hm_z⟩ := hm_z
  replace g0_z := s40_z 0 _ (by decide) rfl g0_z
  replace g1_z := s40_z 1 _ (by decide) rfl g1_z
  clear s40_z s41_z
  replace hm_z := rn_goto (am_cur_of (i := (81, 3, .goto (-41), (28, 0, 0), 0)) (by decide +kernel)) hm_z
  replace hm_z := rn_iload_n (am_cur_of (i := (40, 1, .iload_n 2, (0, 0, 0), 0)) (by decide +kernel)) g2_z hm_z
  replace hm_z := rn_iconst (w := 4) (am_cur_of (i := (41, 1, .iconst 4, (0, 0, 0), 0)) (by decide +kernel)) (by decide) hm_z
  replace hm_z := rn_cmpF (am_cur_of (i := (42, 3, .if_icmp .ge 42, (60, 0, 0), 0)) (by decide +kernel)) (by decide) hm_z
  replace hm_z := rn_aload_n (am_cur_of (i := (45, 1, .aload_n 0, (0, 0, 0), 0)) (by decide +kernel)) g0_z hm_z
  replace hm_z := rn_getR (x := 191) (am_cur_of (i := (46, 3, .getfield 94, (12, 53, 1437), 0)) (by decide +kernel)) (by decide +kernel) hm_z
  replace hm_z := rn_iconst (w := 4) (am_cur_of (i := (49, 1, .iconst 4, (0, 0, 0), 0)) (by decide +kernel)) (by decide) hm_z
  replace hm_z := rn_iload_n (am_cur_of (i := (50, 1, .iload_n 1, (0, 0, 0), 0)) (by decide +kernel)) g1_z hm_z
  replace hm_z := rn_imul (w := 0) (am_cur_of (i := (51, 1, .imul, (0, 0, 0), 0)) (by decide +kernel)) (by decide) hm_z
  replace hm_z := rn_iload_n (am_cur_of (i := (52, 1, .iload_n 2, (0, 0, 0), 0)) (by decide +kernel)) g2_z hm_z
  replace hm_z := rn_iadd (w := 3) (am_cur_of (i := (53, 1, .iadd, (0, 0, 0), 0)) (by decide +kernel)) (by decide) hm_z
  replace hm_z := rn_iconst (w := 0) (am_cur_of (i := (54, 1, .iconst 0, (0, 0, 0), 0)) (by decide +kernel)) (by decide) hm_z
  replace hm_z := rn_iastore (N := 16) (q := 3) (am_cur_of (i := (55, 1, .iastore, (0, 0, 0), 0)) (by decide +kernel)) (by decide +kernel) rfl hm_z
  obtain ⟨p42_z, hm_z⟩ := hm_z
  replace hm_z := rn_aload_n (am_cur_of (i := (56, 1, .aload_n 0, (0, 0, 0), 0)) (by decide +kernel)) g0_z hm_z
  replace hm_z := rn_getR (x := 192) (am_cur_of (i := (57, 3, .getfield 97, (12, 54, 1438), 0)) (by decide +kernel)) (by decide +kernel) hm_z
  replace hm_z := rn_iconst (w := 4) (am_cur_of (i := (60, 1, .iconst 4, (0, 0, 0), 0)) (by decide +kernel)) (by decide) hm_z
  replace hm_z := rn_iload_n (am_cur_of (i := (61, 1, .iload_n 1, (0, 0, 0), 0)) (by decide +kernel)) g1_z hm_z
  replace hm_z := rn_imul (w := 0) (am_cur_of (i := (62, 1, .imul, (0, 0, 0), 0)) (by decide +kernel)) (by decide) hm_z
  replace hm_z := rn_iload_n (am_cur_of (i := (63, 1, .iload_n 2, (0, 0, 0), 0)) (by decide +kernel)) g2_z hm_z
  replace hm_z := rn_iadd (w := 3) (am_cur_of (i := (64, 1, .iadd, (0, 0, 0), 0)) (by decide +kernel)) (by decide) hm_z
  replace hm_z := rn_iconst (w := 0) (am_cur_of (i := (65, 1, .iconst 0, (0, 0, 0), 0)) (by decide +kernel)) (by decide) hm_z
  replace hm_z := rn_iastore (N := 16) (q := 3) (am_cur_of (i := (66, 1, .iastore, (0, 0, 0), 0)) (by decide +kernel)) (by decide +kernel) rfl hm_z
  obtain ⟨p43_z, hm_z⟩ := hm_z
  replace hm_z := rn_aload_n (am_cur_of (i := (67, 1, .aload_n 0, (0, 0, 0), 0)) (by decide +kernel)) g0_z hm_z
  replace hm_z := rn_getR (x := 193) (am_cur_of (i := (68, 3, .getfield 100, (12, 55, 1439), 0)) (by decide +kernel)) (by decide +kernel) hm_z
  replace hm_z := rn_iconst (w := 4) (am_cur_of (i := (71, 1, .iconst 4, (0, 0, 0), 0)) (by decide +kernel)) (by decide) hm_z
  replace hm_z := rn_iload_n (am_cur_of (i := (72, 1, .iload_n 1, (0, 0, 0), 0)) (by decide +kernel)) g1_z hm_z
  replace hm_z := rn_imul (w := 0) (am_cur_of (i := (73, 1, .imul, (0, 0, 0), 0)) (by decide +kernel)) (by decide) hm_z
  replace hm_z := rn_iload_n (am_cur_of (i := (74, 1, .iload_n 2, (0, 0, 0), 0)) (by decide +kernel)) g2_z hm_z
  replace hm_z := rn_iadd (w := 3) (am_cur_of (i := (75, 1, .iadd, (0, 0, 0), 0)) (by decide +kernel)) (by decide) hm_z
  replace hm_z := rn_iconst (w := 0) (am_cur_of (i := (76, 1, .iconst 0, (0, 0, 0), 0)) (by decide +kernel)) (by decide) hm_z
  replace hm_z := rn_iastore (N := 16) (q := 3) (am_cur_of (i := (77, 1, .iastore, (0, 0, 0), 0)) (by decide +kernel)) (by decide +kernel) rfl hm_z
  obtain ⟨p44_z, hm_z⟩ := hm_z
  replace hm_z := rn_iinc (w := 4) (am_cur_of (i := (78, 3, .iinc 2 1, (0, 0, 0), 0)) (by decide +kernel)) g2_z (by decide) hm_z
  obtain ⟨_, s45_z, s46_z, g2_z, hm_z⟩ := hm_z
  replace g0_z := s45_z 0 _ (by decide) rfl g0_z
  replace g1_z := s45_z 1 _ (by decide) rfl g1_z
  clear s45_z s46_z
  replace hm_z := rn_goto (am_cur_of (i := (81, 3, .goto (-41), (28, 0, 0), 0)) (by decide +kernel)) hm_z
  replace hm_z := rn_iload_n (am_cur_of (i := (40, 1, .iload_n 2, (0, 0, 0), 0)) (by decide +kernel)) g2_z hm_z
  replace hm_z := rn_iconst (w := 4) (am_cur_of (i := (41, 1, .iconst 4, (0, 0, 0), 0)) (by decide +kernel)) (by decide) hm_z
  replace hm_z := rn_cmpT (am_cur_of (i := (42, 3, .if_icmp .ge 42, (60, 0, 0), 0)) (by decide +kernel)) (by decide) hm_z
  replace hm_z := rn_vret (am_cur_of (i := (84, 1, .return_, (0, 0, 0), 0)) (by decide +kernel)) hm_z
  obtain ⟨e47_z, e48_z⟩ := hm_z
  rw [e48_z]
  refine ⟨fun j j1_z j17_z => ?_, fun o q e => (up_ne (by omega)).trans ((up_ne (by omega)).trans ((up_ne (by omega)).trans ((up_ne (by omega)).trans ((up_ne (by omega)).trans ((up_ne (by omega)).trans ((up_ne (by omega)).trans ((up_ne (by omega)).trans ((up_ne (by omega)).trans ((up_ne (by omega)).trans ((up_ne (by omega)).trans ((up_ne (by omega)).trans ((up_ne (by omega)).trans ((up_ne (by omega)).trans ((up_ne (by omega)).trans ((up_ne (by omega)).trans (rfl))))))))))))))))⟩
  match j, j1_z, j17_z with
  | 1, _, _ => rfl
  | 2, _, _ => rfl
  | 3, _, _ => rfl
  | 4, _, _ => rfl
  | 5, _, _ => rfl
  | 6, _, _ => rfl
  | 7, _, _ => rfl
  | 8, _, _ => rfl
  | 9, _, _ => rfl
  | 10, _, _ => rfl
  | 11, _, _ => rfl
  | 12, _, _ => rfl
  | 13, _, _ => rfl
  | 14, _, _ => rfl
  | 15, _, _ => rfl
  | 16, _, _ => rfl
  | j + 17, _, h => omega
theorem sm_146 {n : Nat} {r : Option Value} {g g' : am_H} (hm_z : rn n am_m146 0 (lv_args 0 [.ref 164]) [] g r g') : rg_v g' 164 77 = 0 ∧ rg_v g' 164 79 = 0 ∧ rg_v g' 164 60 = 0 ∧ rg_v g' 164 61 = 0 ∧ rg_v g' 164 62 = -1 ∧ bF (mS g' 0) (rg_v g 168 3) := by
  have z0_z : (0 : Int32).toInt = 0 := by decide
  have g0_z : am_get (lv_args 0 [.ref 164]) 0 = some (.ref 164) := rfl
  replace hm_z := rn_aload_n (am_cur_of (i := (0, 1, .aload_n 0, (0, 0, 0), 0)) (by decide +kernel)) g0_z hm_z
  replace hm_z := rn_iconst (w := 0) (am_cur_of (i := (1, 1, .iconst 0, (0, 0, 0), 0)) (by decide +kernel)) (by decide) hm_z
  replace hm_z := rn_callV (M' := am_m147) (o := 164) (ar := [.int 0]) (rest := []) (L := lv_args 0 [.ref 164, .int 0]) (am_cur_of (i := (2, 3, .invokevirtual 346, (147, 1372, 3), 0)) (by decide +kernel)) rfl rfl rfl rfl hm_z
  obtain ⟨r49_z, h50_z, q51_z, hm_z⟩ := hm_z
  have vo := rn_void rfl q51_z
  subst vo
  obtain ⟨a1_z, a2_z⟩ := sm_147 q51_z
  have za := kt_147 q51_z
  have e3_z : rg_v h50_z 168 3 = rg_v g 168 3 := za 168 3 (by decide)
  replace hm_z : rn _ _ _ _ [] _ _ _ := hm_z
  replace hm_z := rn_aload_n (am_cur_of (i := (5, 1, .aload_n 0, (0, 0, 0), 0)) (by decide +kernel)) g0_z hm_z
  replace hm_z := rn_iconst (w := 0) (am_cur_of (i := (6, 1, .iconst 0, (0, 0, 0), 0)) (by decide +kernel)) (by decide) hm_z
  replace hm_z := rn_put (am_cur_of (i := (7, 3, .putfield 349, (12, 57, 1441), 0)) (by decide +kernel)) (by decide +kernel) hm_z
  replace hm_z := rn_aload_n (am_cur_of (i := (10, 1, .aload_n 0, (0, 0, 0), 0)) (by decide +kernel)) g0_z hm_z
  replace hm_z := rn_iconst (w := 0) (am_cur_of (i := (11, 1, .iconst 0, (0, 0, 0), 0)) (by decide +kernel)) (by decide) hm_z
  replace hm_z := rn_put (am_cur_of (i := (12, 3, .putfield 352, (12, 60, 1444), 0)) (by decide +kernel)) (by decide +kernel) hm_z
  replace hm_z := rn_aload_n (am_cur_of (i := (15, 1, .aload_n 0, (0, 0, 0), 0)) (by decide +kernel)) g0_z hm_z
  replace hm_z := rn_iconst (w := 0) (am_cur_of (i := (16, 1, .iconst 0, (0, 0, 0), 0)) (by decide +kernel)) (by decide) hm_z
  replace hm_z := rn_put (am_cur_of (i := (17, 3, .putfield 355, (12, 61, 1445), 0)) (by decide +kernel)) (by decide +kernel) hm_z
  replace hm_z := rn_aload_n (am_cur_of (i := (20, 1, .aload_n 0, (0, 0, 0), 0)) (by decide +kernel)) g0_z hm_z
  replace hm_z := rn_iconst (w := (-1)) (am_cur_of (i := (21, 1, .iconst (-1), (0, 0, 0), 0)) (by decide +kernel)) (by decide) hm_z
  replace hm_z := rn_put (am_cur_of (i := (22, 3, .putfield 106, (12, 62, 1446), 0)) (by decide +kernel)) (by decide +kernel) hm_z
  replace hm_z := rn_aload_n (am_cur_of (i := (25, 1, .aload_n 0, (0, 0, 0), 0)) (by decide +kernel)) g0_z hm_z
  replace hm_z := rn_aload_n (am_cur_of (i := (26, 1, .aload_n 0, (0, 0, 0), 0)) (by decide +kernel)) g0_z hm_z
  replace hm_z := rn_getR (x := 168) (am_cur_of (i := (27, 3, .getfield 24, (12, 23, 1407), 0)) (by decide +kernel)) (by decide +kernel) hm_z
  replace hm_z := rn_iconst (w := 5) (am_cur_of (i := (30, 1, .iconst 5, (0, 0, 0), 0)) (by decide +kernel)) (by decide) hm_z
  replace hm_z := rn_iaload (N := 12) (q := 5) (v := rg_v h50_z 168 5) (am_cur_of (i := (31, 1, .iaload, (0, 0, 0), 0)) (by decide +kernel)) (by decide +kernel) rfl ((rg_v_other (by omega)).trans ((rg_v_other (by omega)).trans ((rg_v_other (by omega)).trans ((rg_v_other (by omega)).trans (rfl))))) hm_z
  obtain ⟨p52_z, hm_z⟩ := hm_z
  replace hm_z := rn_i2l (w := (rg_v h50_z 168 5).toInt64) (am_cur_of (i := (32, 1, .i2l, (0, 0, 0), 0)) (by decide +kernel)) rfl hm_z
  replace hm_z := rn_put (am_cur_of (i := (33, 3, .putfield 358, (12, 59, 1443), 0)) (by decide +kernel)) (by decide +kernel) hm_z
  replace hm_z := rn_aload_n (am_cur_of (i := (36, 1, .aload_n 0, (0, 0, 0), 0)) (by decide +kernel)) g0_z hm_z
  replace hm_z := rn_iconst (w := (-1)) (am_cur_of (i := (37, 1, .iconst (-1), (0, 0, 0), 0)) (by decide +kernel)) (by decide) hm_z
  replace hm_z := rn_put (am_cur_of (i := (38, 3, .putfield 362, (12, 58, 1442), 0)) (by decide +kernel)) (by decide +kernel) hm_z
  replace hm_z := rn_aload_n (am_cur_of (i := (41, 1, .aload_n 0, (0, 0, 0), 0)) (by decide +kernel)) g0_z hm_z
  replace hm_z := rn_getI (v := rg_v h50_z 164 14) (am_cur_of (i := (42, 3, .getfield 225, (12, 14, 1398), 0)) (by decide +kernel)) (by decide +kernel) ((rg_v_other (by omega)).trans ((rg_v_other (by omega)).trans ((rg_v_other (by omega)).trans ((rg_v_other (by omega)).trans ((rg_v_other (by omega)).trans ((rg_v_other (by omega)).trans (rfl))))))) hm_z
  replace hm_z := rn_if (am_cur_of (i := (45, 3, .ifCond .le 79, (74, 0, 0), 0)) (by decide +kernel)) hm_z
  rcases hm_z with ⟨b53_z, hm_z⟩ | ⟨b53_z, hm_z⟩
  · replace b53_z : (rg_v h50_z 164 14).toInt ≤ (0 : Int32).toInt := b53_z
    obtain ⟨e1_z, e2_z, e5_z⟩ := sm_e g0_z hm_z
    have ev_z : ∀ o q, ((188 ≤ o ∧ o ≤ 194) ∨ (o = 164 ∧ (q = 57 ∨ q = 60 ∨ q = 61 ∨ q = 62))) → rg_v g' o q = rg_v (am_up (am_up (am_up (am_up (am_up (am_up h50_z 164 57 (.int 0)) 164 60 (.int 0)) 164 61 (.int 0)) 164 62 (.int (-1))) 164 59 (.long ((rg_v h50_z 168 5).toInt64))) 164 58 (.int (-1))) o q := by
      intro o q e
      exact sg_v (e5_z o q e)
    refine ⟨e1_z, e2_z, (ev_z 164 60 (by omega)).trans (((rg_v_other (by omega)).trans ((rg_v_other (by omega)).trans ((rg_v_other (by omega)).trans ((rg_v_other (by omega)).trans (rg_v_self)))))), (ev_z 164 61 (by omega)).trans (((rg_v_other (by omega)).trans ((rg_v_other (by omega)).trans ((rg_v_other (by omega)).trans (rg_v_self))))), (ev_z 164 62 (by omega)).trans (((rg_v_other (by omega)).trans ((rg_v_other (by omega)).trans (rg_v_self)))), fun j j1_z j17_z => ?_⟩
    by_cases j4_z : j = 4
    · rw [j4_z]
      exact (ev_z 164 57 (by omega)).trans (((rg_v_other (by omega)).trans ((rg_v_other (by omega)).trans ((rg_v_other (by omega)).trans ((rg_v_other (by omega)).trans ((rg_v_other (by omega)).trans (rg_v_self)))))))
    · refine Eq.trans (mS_57 (fun o q e => (e5_z o q (by omega)).trans ((up_ne (by omega)).trans ((up_ne (by omega)).trans ((up_ne (by omega)).trans ((up_ne (by omega)).trans ((up_ne (by omega)).trans ((up_ne (by omega)).trans (rfl)))))))) j4_z) ((a1_z j j1_z j17_z).trans ?_)
      by_cases c2_z : j = 2
      · rw [if_pos c2_z, if_pos c2_z]
      · rw [if_neg c2_z, if_neg c2_z]
        by_cases c3_z : j = 3
        · rw [if_pos c3_z, if_pos c3_z]
        · rw [if_neg c3_z, if_neg c3_z, if_neg j4_z]
  · replace b53_z : (0 : Int32).toInt < (rg_v h50_z 164 14).toInt := b53_z
    replace hm_z := rn_iconst (w := 0) (am_cur_of (i := (48, 1, .iconst 0, (0, 0, 0), 0)) (by decide +kernel)) (by decide) hm_z
    replace hm_z := rn_istore_n (am_cur_of (i := (49, 1, .istore_n 1, (0, 0, 0), 0)) (by decide +kernel)) hm_z
    obtain ⟨_, s54_z, s55_z, g1_z, hm_z⟩ := hm_z
    replace g0_z := s54_z 0 _ (by decide) rfl g0_z
    clear s54_z s55_z
    replace hm_z := rn_iconst (w := 0) (am_cur_of (i := (50, 1, .iconst 0, (0, 0, 0), 0)) (by decide +kernel)) (by decide) hm_z
    replace hm_z := rn_istore_n (am_cur_of (i := (51, 1, .istore_n 2, (0, 0, 0), 0)) (by decide +kernel)) hm_z
    obtain ⟨_, s56_z, s57_z, g2_z, hm_z⟩ := hm_z
    replace g0_z := s56_z 0 _ (by decide) rfl g0_z
    replace g1_z := s56_z 1 _ (by decide) rfl g1_z
    clear s56_z s57_z
    obtain ⟨e1_z, e2_z, e5_z⟩ := sm_s _ _ _ _ _ g0_z g1_z g2_z hm_z
    have ev_z : ∀ o q, ((188 ≤ o ∧ o ≤ 194) ∨ (o = 164 ∧ (q = 57 ∨ q = 60 ∨ q = 61 ∨ q = 62))) → rg_v g' o q = rg_v (am_up (am_up (am_up (am_up (am_up (am_up h50_z 164 57 (.int 0)) 164 60 (.int 0)) 164 61 (.int 0)) 164 62 (.int (-1))) 164 59 (.long ((rg_v h50_z 168 5).toInt64))) 164 58 (.int (-1))) o q := by
      intro o q e
      exact sg_v (e5_z o q e)
    refine ⟨e1_z, e2_z, (ev_z 164 60 (by omega)).trans (((rg_v_other (by omega)).trans ((rg_v_other (by omega)).trans ((rg_v_other (by omega)).trans ((rg_v_other (by omega)).trans (rg_v_self)))))), (ev_z 164 61 (by omega)).trans (((rg_v_other (by omega)).trans ((rg_v_other (by omega)).trans ((rg_v_other (by omega)).trans (rg_v_self))))), (ev_z 164 62 (by omega)).trans (((rg_v_other (by omega)).trans ((rg_v_other (by omega)).trans (rg_v_self)))), fun j j1_z j17_z => ?_⟩
    by_cases j4_z : j = 4
    · rw [j4_z]
      exact (ev_z 164 57 (by omega)).trans (((rg_v_other (by omega)).trans ((rg_v_other (by omega)).trans ((rg_v_other (by omega)).trans ((rg_v_other (by omega)).trans ((rg_v_other (by omega)).trans (rg_v_self)))))))
    · refine Eq.trans (mS_57 (fun o q e => (e5_z o q (by omega)).trans ((up_ne (by omega)).trans ((up_ne (by omega)).trans ((up_ne (by omega)).trans ((up_ne (by omega)).trans ((up_ne (by omega)).trans ((up_ne (by omega)).trans (rfl)))))))) j4_z) ((a1_z j j1_z j17_z).trans ?_)
      by_cases c2_z : j = 2
      · rw [if_pos c2_z, if_pos c2_z]
      · rw [if_neg c2_z, if_neg c2_z]
        by_cases c3_z : j = 3
        · rw [if_pos c3_z, if_pos c3_z]
        · rw [if_neg c3_z, if_neg c3_z, if_neg j4_z]
theorem sm_144 {n : Nat} {r : Option Value} {g g' : am_H} (hm_z : rn n am_m144 0 (lv_args 0 [.ref 164]) [] g r g') : rg_v g' 164 77 = 0 ∧ rg_v g' 164 79 = 0 ∧ rg_v g' 164 60 = 0 ∧ rg_v g' 164 61 = 0 ∧ rg_v g' 164 62 = -1 ∧ bF (mS g' 0) (rg_v g' 168 3) := by
  have g0_z : am_get (lv_args 0 [.ref 164]) 0 = some (.ref 164) := rfl
  replace hm_z := rn_aload_n (am_cur_of (i := (0, 1, .aload_n 0, (0, 0, 0), 0)) (by decide +kernel)) g0_z hm_z
  replace hm_z := rn_aload_n (am_cur_of (i := (1, 1, .aload_n 0, (0, 0, 0), 0)) (by decide +kernel)) g0_z hm_z
  replace hm_z := rn_getI (v := rg_v g 164 17) (am_cur_of (i := (2, 3, .getfield 201, (12, 17, 1401), 0)) (by decide +kernel)) (by decide +kernel) rfl hm_z
  replace hm_z := rn_put (am_cur_of (i := (5, 3, .putfield 219, (12, 12, 1396), 0)) (by decide +kernel)) (by decide +kernel) hm_z
  replace hm_z := rn_aload_n (am_cur_of (i := (8, 1, .aload_n 0, (0, 0, 0), 0)) (by decide +kernel)) g0_z hm_z
  replace hm_z := rn_aload_n (am_cur_of (i := (9, 1, .aload_n 0, (0, 0, 0), 0)) (by decide +kernel)) g0_z hm_z
  replace hm_z := rn_getI (v := rg_v g 164 18) (am_cur_of (i := (10, 3, .getfield 204, (12, 18, 1402), 0)) (by decide +kernel)) (by decide +kernel) (show rg_v (am_up g 164 12 (.int (rg_v g 164 17))) 164 18 = rg_v g 164 18 from rfl) hm_z
  replace hm_z := rn_put (am_cur_of (i := (13, 3, .putfield 222, (12, 13, 1397), 0)) (by decide +kernel)) (by decide +kernel) hm_z
  replace hm_z := rn_aload_n (am_cur_of (i := (16, 1, .aload_n 0, (0, 0, 0), 0)) (by decide +kernel)) g0_z hm_z
  replace hm_z := rn_aload_n (am_cur_of (i := (17, 1, .aload_n 0, (0, 0, 0), 0)) (by decide +kernel)) g0_z hm_z
  replace hm_z := rn_getI (v := rg_v g 164 19) (am_cur_of (i := (18, 3, .getfield 207, (12, 19, 1403), 0)) (by decide +kernel)) (by decide +kernel) (show rg_v (am_up (am_up g 164 12 (.int (rg_v g 164 17))) 164 13 (.int (rg_v g 164 18))) 164 19 = rg_v g 164 19 from rfl) hm_z
  replace hm_z := rn_put (am_cur_of (i := (21, 3, .putfield 225, (12, 14, 1398), 0)) (by decide +kernel)) (by decide +kernel) hm_z
  replace hm_z := rn_aload_n (am_cur_of (i := (24, 1, .aload_n 0, (0, 0, 0), 0)) (by decide +kernel)) g0_z hm_z
  replace hm_z := rn_aload_n (am_cur_of (i := (25, 1, .aload_n 0, (0, 0, 0), 0)) (by decide +kernel)) g0_z hm_z
  replace hm_z := rn_getI (v := rg_v g 164 20) (am_cur_of (i := (26, 3, .getfield 210, (12, 20, 1404), 0)) (by decide +kernel)) (by decide +kernel) (show rg_v (am_up (am_up (am_up g 164 12 (.int (rg_v g 164 17))) 164 13 (.int (rg_v g 164 18))) 164 14 (.int (rg_v g 164 19))) 164 20 = rg_v g 164 20 from rfl) hm_z
  replace hm_z := rn_put (am_cur_of (i := (29, 3, .putfield 228, (12, 15, 1399), 0)) (by decide +kernel)) (by decide +kernel) hm_z
  replace hm_z := rn_aload_n (am_cur_of (i := (32, 1, .aload_n 0, (0, 0, 0), 0)) (by decide +kernel)) g0_z hm_z
  replace hm_z := rn_aload_n (am_cur_of (i := (33, 1, .aload_n 0, (0, 0, 0), 0)) (by decide +kernel)) g0_z hm_z
  replace hm_z := rn_getI (v := rg_v g 164 21) (am_cur_of (i := (34, 3, .getfield 213, (12, 21, 1405), 0)) (by decide +kernel)) (by decide +kernel) (show rg_v (am_up (am_up (am_up (am_up g 164 12 (.int (rg_v g 164 17))) 164 13 (.int (rg_v g 164 18))) 164 14 (.int (rg_v g 164 19))) 164 15 (.int (rg_v g 164 20))) 164 21 = rg_v g 164 21 from rfl) hm_z
  replace hm_z := rn_put (am_cur_of (i := (37, 3, .putfield 231, (12, 16, 1400), 0)) (by decide +kernel)) (by decide +kernel) hm_z
  replace hm_z := rn_aload_n (am_cur_of (i := (40, 1, .aload_n 0, (0, 0, 0), 0)) (by decide +kernel)) g0_z hm_z
  replace hm_z := rn_getR (x := 168) (am_cur_of (i := (41, 3, .getfield 24, (12, 23, 1407), 0)) (by decide +kernel)) (by decide +kernel) hm_z
  replace hm_z := rn_bipush (w := 6) (am_cur_of (i := (44, 2, .bipush 6, (0, 0, 0), 0)) (by decide +kernel)) (by decide) hm_z
  replace hm_z := rn_callS (M' := am_m145) (ar := [.int 6, .ref 168]) (rest := []) (L := lv_args 0 [.ref 168, .int 6]) (am_cur_of (i := (46, 3, .invokestatic 234, (145, 1365, 3), 0)) (by decide +kernel)) rfl rfl rfl rfl hm_z
  obtain ⟨r58_z, h59_z, q60_z, hm_z⟩ := hm_z
  have vo := rn_void rfl q60_z
  subst vo
  clear q60_z
  replace hm_z : rn _ _ _ _ [] _ _ _ := hm_z
  replace hm_z := rn_aload_n (am_cur_of (i := (49, 1, .aload_n 0, (0, 0, 0), 0)) (by decide +kernel)) g0_z hm_z
  replace hm_z := rn_getR (x := 169) (am_cur_of (i := (50, 3, .getfield 27, (12, 24, 1408), 0)) (by decide +kernel)) (by decide +kernel) hm_z
  replace hm_z := rn_iconst (w := 4) (am_cur_of (i := (53, 1, .iconst 4, (0, 0, 0), 0)) (by decide +kernel)) (by decide) hm_z
  replace hm_z := rn_callS (M' := am_m145) (ar := [.int 4, .ref 169]) (rest := []) (L := lv_args 0 [.ref 169, .int 4]) (am_cur_of (i := (54, 3, .invokestatic 234, (145, 1365, 3), 0)) (by decide +kernel)) rfl rfl rfl rfl hm_z
  obtain ⟨r61_z, h62_z, q63_z, hm_z⟩ := hm_z
  have vo := rn_void rfl q63_z
  subst vo
  clear q63_z
  replace hm_z : rn _ _ _ _ [] _ _ _ := hm_z
  replace hm_z := rn_aload_n (am_cur_of (i := (57, 1, .aload_n 0, (0, 0, 0), 0)) (by decide +kernel)) g0_z hm_z
  replace hm_z := rn_getR (x := 170) (am_cur_of (i := (58, 3, .getfield 30, (12, 25, 1409), 0)) (by decide +kernel)) (by decide +kernel) hm_z
  replace hm_z := rn_bipush (w := 28) (am_cur_of (i := (61, 2, .bipush 28, (0, 0, 0), 0)) (by decide +kernel)) (by decide) hm_z
  replace hm_z := rn_callS (M' := am_m145) (ar := [.int 28, .ref 170]) (rest := []) (L := lv_args 0 [.ref 170, .int 28]) (am_cur_of (i := (63, 3, .invokestatic 234, (145, 1365, 3), 0)) (by decide +kernel)) rfl rfl rfl rfl hm_z
  obtain ⟨r64_z, h65_z, q66_z, hm_z⟩ := hm_z
  have vo := rn_void rfl q66_z
  subst vo
  clear q66_z
  replace hm_z : rn _ _ _ _ [] _ _ _ := hm_z
  replace hm_z := rn_aload_n (am_cur_of (i := (66, 1, .aload_n 0, (0, 0, 0), 0)) (by decide +kernel)) g0_z hm_z
  replace hm_z := rn_getR (x := 171) (am_cur_of (i := (67, 3, .getfield 33, (12, 26, 1410), 0)) (by decide +kernel)) (by decide +kernel) hm_z
  replace hm_z := rn_bipush (w := 8) (am_cur_of (i := (70, 2, .bipush 8, (0, 0, 0), 0)) (by decide +kernel)) (by decide) hm_z
  replace hm_z := rn_callS (M' := am_m145) (ar := [.int 8, .ref 171]) (rest := []) (L := lv_args 0 [.ref 171, .int 8]) (am_cur_of (i := (72, 3, .invokestatic 234, (145, 1365, 3), 0)) (by decide +kernel)) rfl rfl rfl rfl hm_z
  obtain ⟨r67_z, h68_z, q69_z, hm_z⟩ := hm_z
  have vo := rn_void rfl q69_z
  subst vo
  clear q69_z
  replace hm_z : rn _ _ _ _ [] _ _ _ := hm_z
  replace hm_z := rn_aload_n (am_cur_of (i := (75, 1, .aload_n 0, (0, 0, 0), 0)) (by decide +kernel)) g0_z hm_z
  replace hm_z := rn_getR (x := 172) (am_cur_of (i := (76, 3, .getfield 36, (12, 27, 1411), 0)) (by decide +kernel)) (by decide +kernel) hm_z
  replace hm_z := rn_bipush (w := 8) (am_cur_of (i := (79, 2, .bipush 8, (0, 0, 0), 0)) (by decide +kernel)) (by decide) hm_z
  replace hm_z := rn_callS (M' := am_m145) (ar := [.int 8, .ref 172]) (rest := []) (L := lv_args 0 [.ref 172, .int 8]) (am_cur_of (i := (81, 3, .invokestatic 234, (145, 1365, 3), 0)) (by decide +kernel)) rfl rfl rfl rfl hm_z
  obtain ⟨r70_z, h71_z, q72_z, hm_z⟩ := hm_z
  have vo := rn_void rfl q72_z
  subst vo
  clear q72_z
  replace hm_z : rn _ _ _ _ [] _ _ _ := hm_z
  replace hm_z := rn_aload_n (am_cur_of (i := (84, 1, .aload_n 0, (0, 0, 0), 0)) (by decide +kernel)) g0_z hm_z
  replace hm_z := rn_getR (x := 173) (am_cur_of (i := (85, 3, .getfield 39, (12, 28, 1412), 0)) (by decide +kernel)) (by decide +kernel) hm_z
  replace hm_z := rn_bipush (w := 6) (am_cur_of (i := (88, 2, .bipush 6, (0, 0, 0), 0)) (by decide +kernel)) (by decide) hm_z
  replace hm_z := rn_callS (M' := am_m145) (ar := [.int 6, .ref 173]) (rest := []) (L := lv_args 0 [.ref 173, .int 6]) (am_cur_of (i := (90, 3, .invokestatic 234, (145, 1365, 3), 0)) (by decide +kernel)) rfl rfl rfl rfl hm_z
  obtain ⟨r73_z, h74_z, q75_z, hm_z⟩ := hm_z
  have vo := rn_void rfl q75_z
  subst vo
  clear q75_z
  replace hm_z : rn _ _ _ _ [] _ _ _ := hm_z
  replace hm_z := rn_aload_n (am_cur_of (i := (93, 1, .aload_n 0, (0, 0, 0), 0)) (by decide +kernel)) g0_z hm_z
  replace hm_z := rn_getR (x := 174) (am_cur_of (i := (94, 3, .getfield 42, (12, 29, 1413), 0)) (by decide +kernel)) (by decide +kernel) hm_z
  replace hm_z := rn_bipush (w := 6) (am_cur_of (i := (97, 2, .bipush 6, (0, 0, 0), 0)) (by decide +kernel)) (by decide) hm_z
  replace hm_z := rn_callS (M' := am_m145) (ar := [.int 6, .ref 174]) (rest := []) (L := lv_args 0 [.ref 174, .int 6]) (am_cur_of (i := (99, 3, .invokestatic 234, (145, 1365, 3), 0)) (by decide +kernel)) rfl rfl rfl rfl hm_z
  obtain ⟨r76_z, h77_z, q78_z, hm_z⟩ := hm_z
  have vo := rn_void rfl q78_z
  subst vo
  clear q78_z
  replace hm_z : rn _ _ _ _ [] _ _ _ := hm_z
  replace hm_z := rn_aload_n (am_cur_of (i := (102, 1, .aload_n 0, (0, 0, 0), 0)) (by decide +kernel)) g0_z hm_z
  replace hm_z := rn_getR (x := 175) (am_cur_of (i := (103, 3, .getfield 45, (12, 30, 1414), 0)) (by decide +kernel)) (by decide +kernel) hm_z
  replace hm_z := rn_iconst (w := 3) (am_cur_of (i := (106, 1, .iconst 3, (0, 0, 0), 0)) (by decide +kernel)) (by decide) hm_z
  replace hm_z := rn_callS (M' := am_m145) (ar := [.int 3, .ref 175]) (rest := []) (L := lv_args 0 [.ref 175, .int 3]) (am_cur_of (i := (107, 3, .invokestatic 234, (145, 1365, 3), 0)) (by decide +kernel)) rfl rfl rfl rfl hm_z
  obtain ⟨r79_z, h80_z, q81_z, hm_z⟩ := hm_z
  have vo := rn_void rfl q81_z
  subst vo
  clear q81_z
  replace hm_z : rn _ _ _ _ [] _ _ _ := hm_z
  replace hm_z := rn_aload_n (am_cur_of (i := (110, 1, .aload_n 0, (0, 0, 0), 0)) (by decide +kernel)) g0_z hm_z
  replace hm_z := rn_getR (x := 176) (am_cur_of (i := (111, 3, .getfield 48, (12, 31, 1415), 0)) (by decide +kernel)) (by decide +kernel) hm_z
  replace hm_z := rn_iconst (w := 3) (am_cur_of (i := (114, 1, .iconst 3, (0, 0, 0), 0)) (by decide +kernel)) (by decide) hm_z
  replace hm_z := rn_callS (M' := am_m145) (ar := [.int 3, .ref 176]) (rest := []) (L := lv_args 0 [.ref 176, .int 3]) (am_cur_of (i := (115, 3, .invokestatic 234, (145, 1365, 3), 0)) (by decide +kernel)) rfl rfl rfl rfl hm_z
  obtain ⟨r82_z, h83_z, q84_z, hm_z⟩ := hm_z
  have vo := rn_void rfl q84_z
  subst vo
  clear q84_z
  replace hm_z : rn _ _ _ _ [] _ _ _ := hm_z
  replace hm_z := rn_aload_n (am_cur_of (i := (118, 1, .aload_n 0, (0, 0, 0), 0)) (by decide +kernel)) g0_z hm_z
  replace hm_z := rn_getR (x := 177) (am_cur_of (i := (119, 3, .getfield 51, (12, 32, 1416), 0)) (by decide +kernel)) (by decide +kernel) hm_z
  replace hm_z := rn_iconst (w := 3) (am_cur_of (i := (122, 1, .iconst 3, (0, 0, 0), 0)) (by decide +kernel)) (by decide) hm_z
  replace hm_z := rn_callS (M' := am_m145) (ar := [.int 3, .ref 177]) (rest := []) (L := lv_args 0 [.ref 177, .int 3]) (am_cur_of (i := (123, 3, .invokestatic 234, (145, 1365, 3), 0)) (by decide +kernel)) rfl rfl rfl rfl hm_z
  obtain ⟨r85_z, h86_z, q87_z, hm_z⟩ := hm_z
  have vo := rn_void rfl q87_z
  subst vo
  clear q87_z
  replace hm_z : rn _ _ _ _ [] _ _ _ := hm_z
  replace hm_z := rn_iconst (w := 0) (am_cur_of (i := (126, 1, .iconst 0, (0, 0, 0), 0)) (by decide +kernel)) (by decide) hm_z
  replace hm_z := rn_istore_n (am_cur_of (i := (127, 1, .istore_n 1, (0, 0, 0), 0)) (by decide +kernel)) hm_z
  obtain ⟨_, s88_z, s89_z, g1_z, hm_z⟩ := hm_z
  replace g0_z := s88_z 0 _ (by decide) rfl g0_z
  clear s88_z s89_z
  replace hm_z := rn_iload_n (am_cur_of (i := (128, 1, .iload_n 1, (0, 0, 0), 0)) (by decide +kernel)) g1_z hm_z
  replace hm_z := rn_iconst (w := 3) (am_cur_of (i := (129, 1, .iconst 3, (0, 0, 0), 0)) (by decide +kernel)) (by decide) hm_z
  replace hm_z := rn_cmpF (am_cur_of (i := (130, 3, .if_icmp .ge 23, (77, 0, 0), 0)) (by decide +kernel)) (by decide) hm_z
  replace hm_z := rn_aload_n (am_cur_of (i := (133, 1, .aload_n 0, (0, 0, 0), 0)) (by decide +kernel)) g0_z hm_z
  replace hm_z := rn_getR (x := 178) (am_cur_of (i := (134, 3, .getfield 54, (12, 33, 1417), 0)) (by decide +kernel)) (by decide +kernel) hm_z
  replace hm_z := rn_iload_n (am_cur_of (i := (137, 1, .iload_n 1, (0, 0, 0), 0)) (by decide +kernel)) g1_z hm_z
  replace hm_z := rn_aload_n (am_cur_of (i := (138, 1, .aload_n 0, (0, 0, 0), 0)) (by decide +kernel)) g0_z hm_z
  replace hm_z := rn_getR (x := 178) (am_cur_of (i := (139, 3, .getfield 54, (12, 33, 1417), 0)) (by decide +kernel)) (by decide +kernel) hm_z
  replace hm_z := rn_iconst (w := 3) (am_cur_of (i := (142, 1, .iconst 3, (0, 0, 0), 0)) (by decide +kernel)) (by decide) hm_z
  replace hm_z := rn_iload_n (am_cur_of (i := (143, 1, .iload_n 1, (0, 0, 0), 0)) (by decide +kernel)) g1_z hm_z
  replace hm_z := rn_iadd (w := 3) (am_cur_of (i := (144, 1, .iadd, (0, 0, 0), 0)) (by decide +kernel)) (by decide) hm_z
  replace hm_z := rn_baload (N := 6) (q := 3) (v := rg_v h86_z 178 3) (am_cur_of (i := (145, 1, .baload, (0, 0, 0), 0)) (by decide +kernel)) (by decide +kernel) rfl rfl hm_z
  obtain ⟨p90_z, hm_z⟩ := hm_z
  replace hm_z := rn_bastore (N := 6) (q := 0) (am_cur_of (i := (146, 1, .bastore, (0, 0, 0), 0)) (by decide +kernel)) (by decide +kernel) rfl hm_z
  obtain ⟨p91_z, hm_z⟩ := hm_z
  replace hm_z := rn_iinc (w := 1) (am_cur_of (i := (147, 3, .iinc 1 1, (0, 0, 0), 0)) (by decide +kernel)) g1_z (by decide) hm_z
  obtain ⟨_, s92_z, s93_z, g1_z, hm_z⟩ := hm_z
  replace g0_z := s92_z 0 _ (by decide) rfl g0_z
  clear s92_z s93_z
  replace hm_z := rn_goto (am_cur_of (i := (150, 3, .goto (-22), (62, 0, 0), 0)) (by decide +kernel)) hm_z
  replace hm_z := rn_iload_n (am_cur_of (i := (128, 1, .iload_n 1, (0, 0, 0), 0)) (by decide +kernel)) g1_z hm_z
  replace hm_z := rn_iconst (w := 3) (am_cur_of (i := (129, 1, .iconst 3, (0, 0, 0), 0)) (by decide +kernel)) (by decide) hm_z
  replace hm_z := rn_cmpF (am_cur_of (i := (130, 3, .if_icmp .ge 23, (77, 0, 0), 0)) (by decide +kernel)) (by decide) hm_z
  replace hm_z := rn_aload_n (am_cur_of (i := (133, 1, .aload_n 0, (0, 0, 0), 0)) (by decide +kernel)) g0_z hm_z
  replace hm_z := rn_getR (x := 178) (am_cur_of (i := (134, 3, .getfield 54, (12, 33, 1417), 0)) (by decide +kernel)) (by decide +kernel) hm_z
  replace hm_z := rn_iload_n (am_cur_of (i := (137, 1, .iload_n 1, (0, 0, 0), 0)) (by decide +kernel)) g1_z hm_z
  replace hm_z := rn_aload_n (am_cur_of (i := (138, 1, .aload_n 0, (0, 0, 0), 0)) (by decide +kernel)) g0_z hm_z
  replace hm_z := rn_getR (x := 178) (am_cur_of (i := (139, 3, .getfield 54, (12, 33, 1417), 0)) (by decide +kernel)) (by decide +kernel) hm_z
  replace hm_z := rn_iconst (w := 3) (am_cur_of (i := (142, 1, .iconst 3, (0, 0, 0), 0)) (by decide +kernel)) (by decide) hm_z
  replace hm_z := rn_iload_n (am_cur_of (i := (143, 1, .iload_n 1, (0, 0, 0), 0)) (by decide +kernel)) g1_z hm_z
  replace hm_z := rn_iadd (w := 4) (am_cur_of (i := (144, 1, .iadd, (0, 0, 0), 0)) (by decide +kernel)) (by decide) hm_z
  replace hm_z := rn_baload (N := 6) (q := 4) (v := rg_v h86_z 178 4) (am_cur_of (i := (145, 1, .baload, (0, 0, 0), 0)) (by decide +kernel)) (by decide +kernel) rfl (show rg_v (am_up h86_z 178 0 (.int (rg_v h86_z 178 3))) 178 4 = rg_v h86_z 178 4 from rfl) hm_z
  obtain ⟨p94_z, hm_z⟩ := hm_z
  replace hm_z := rn_bastore (N := 6) (q := 1) (am_cur_of (i := (146, 1, .bastore, (0, 0, 0), 0)) (by decide +kernel)) (by decide +kernel) rfl hm_z
  obtain ⟨p95_z, hm_z⟩ := hm_z
  replace hm_z := rn_iinc (w := 2) (am_cur_of (i := (147, 3, .iinc 1 1, (0, 0, 0), 0)) (by decide +kernel)) g1_z (by decide) hm_z
  obtain ⟨_, s96_z, s97_z, g1_z, hm_z⟩ := hm_z
  replace g0_z := s96_z 0 _ (by decide) rfl g0_z
  clear s96_z s97_z
  replace hm_z := rn_goto (am_cur_of (i := (150, 3, .goto (-22), (62, 0, 0), 0)) (by decide +kernel)) hm_z
  replace hm_z := rn_iload_n (am_cur_of (i := (128, 1, .iload_n 1, (0, 0, 0), 0)) (by decide +kernel)) g1_z hm_z
  replace hm_z := rn_iconst (w := 3) (am_cur_of (i := (129, 1, .iconst 3, (0, 0, 0), 0)) (by decide +kernel)) (by decide) hm_z
  replace hm_z := rn_cmpF (am_cur_of (i := (130, 3, .if_icmp .ge 23, (77, 0, 0), 0)) (by decide +kernel)) (by decide) hm_z
  replace hm_z := rn_aload_n (am_cur_of (i := (133, 1, .aload_n 0, (0, 0, 0), 0)) (by decide +kernel)) g0_z hm_z
  replace hm_z := rn_getR (x := 178) (am_cur_of (i := (134, 3, .getfield 54, (12, 33, 1417), 0)) (by decide +kernel)) (by decide +kernel) hm_z
  replace hm_z := rn_iload_n (am_cur_of (i := (137, 1, .iload_n 1, (0, 0, 0), 0)) (by decide +kernel)) g1_z hm_z
  replace hm_z := rn_aload_n (am_cur_of (i := (138, 1, .aload_n 0, (0, 0, 0), 0)) (by decide +kernel)) g0_z hm_z
  replace hm_z := rn_getR (x := 178) (am_cur_of (i := (139, 3, .getfield 54, (12, 33, 1417), 0)) (by decide +kernel)) (by decide +kernel) hm_z
  replace hm_z := rn_iconst (w := 3) (am_cur_of (i := (142, 1, .iconst 3, (0, 0, 0), 0)) (by decide +kernel)) (by decide) hm_z
  replace hm_z := rn_iload_n (am_cur_of (i := (143, 1, .iload_n 1, (0, 0, 0), 0)) (by decide +kernel)) g1_z hm_z
  replace hm_z := rn_iadd (w := 5) (am_cur_of (i := (144, 1, .iadd, (0, 0, 0), 0)) (by decide +kernel)) (by decide) hm_z
  replace hm_z := rn_baload (N := 6) (q := 5) (v := rg_v h86_z 178 5) (am_cur_of (i := (145, 1, .baload, (0, 0, 0), 0)) (by decide +kernel)) (by decide +kernel) rfl (show rg_v (am_up (am_up h86_z 178 0 (.int (rg_v h86_z 178 3))) 178 1 (.int (rg_v h86_z 178 4))) 178 5 = rg_v h86_z 178 5 from rfl) hm_z
  obtain ⟨p98_z, hm_z⟩ := hm_z
  replace hm_z := rn_bastore (N := 6) (q := 2) (am_cur_of (i := (146, 1, .bastore, (0, 0, 0), 0)) (by decide +kernel)) (by decide +kernel) rfl hm_z
  obtain ⟨p99_z, hm_z⟩ := hm_z
  replace hm_z := rn_iinc (w := 3) (am_cur_of (i := (147, 3, .iinc 1 1, (0, 0, 0), 0)) (by decide +kernel)) g1_z (by decide) hm_z
  obtain ⟨_, s100_z, s101_z, g1_z, hm_z⟩ := hm_z
  replace g0_z := s100_z 0 _ (by decide) rfl g0_z
  clear s100_z s101_z
  replace hm_z := rn_goto (am_cur_of (i := (150, 3, .goto (-22), (62, 0, 0), 0)) (by decide +kernel)) hm_z
  replace hm_z := rn_iload_n (am_cur_of (i := (128, 1, .iload_n 1, (0, 0, 0), 0)) (by decide +kernel)) g1_z hm_z
  replace hm_z := rn_iconst (w := 3) (am_cur_of (i := (129, 1, .iconst 3, (0, 0, 0), 0)) (by decide +kernel)) (by decide) hm_z
  replace hm_z := rn_cmpT (am_cur_of (i := (130, 3, .if_icmp .ge 23, (77, 0, 0), 0)) (by decide +kernel)) (by decide) hm_z
  replace hm_z := rn_aload_n (am_cur_of (i := (153, 1, .aload_n 0, (0, 0, 0), 0)) (by decide +kernel)) g0_z hm_z
  replace hm_z := rn_getR (x := 179) (am_cur_of (i := (154, 3, .getfield 57, (12, 34, 1418), 0)) (by decide +kernel)) (by decide +kernel) hm_z
  replace hm_z := rn_iconst (w := 3) (am_cur_of (i := (157, 1, .iconst 3, (0, 0, 0), 0)) (by decide +kernel)) (by decide) hm_z
  replace hm_z := rn_callS (M' := am_m145) (ar := [.int 3, .ref 179]) (rest := []) (L := lv_args 0 [.ref 179, .int 3]) (am_cur_of (i := (158, 3, .invokestatic 234, (145, 1365, 3), 0)) (by decide +kernel)) rfl rfl rfl rfl hm_z
  obtain ⟨r102_z, h103_z, q104_z, hm_z⟩ := hm_z
  have vo := rn_void rfl q104_z
  subst vo
  clear q104_z
  replace hm_z : rn _ _ _ _ [] _ _ _ := hm_z
  replace hm_z := rn_aload_n (am_cur_of (i := (161, 1, .aload_n 0, (0, 0, 0), 0)) (by decide +kernel)) g0_z hm_z
  replace hm_z := rn_getR (x := 180) (am_cur_of (i := (162, 3, .getfield 60, (12, 35, 1419), 0)) (by decide +kernel)) (by decide +kernel) hm_z
  replace hm_z := rn_iconst (w := 3) (am_cur_of (i := (165, 1, .iconst 3, (0, 0, 0), 0)) (by decide +kernel)) (by decide) hm_z
  replace hm_z := rn_callS (M' := am_m145) (ar := [.int 3, .ref 180]) (rest := []) (L := lv_args 0 [.ref 180, .int 3]) (am_cur_of (i := (166, 3, .invokestatic 234, (145, 1365, 3), 0)) (by decide +kernel)) rfl rfl rfl rfl hm_z
  obtain ⟨r105_z, h106_z, q107_z, hm_z⟩ := hm_z
  have vo := rn_void rfl q107_z
  subst vo
  clear q107_z
  replace hm_z : rn _ _ _ _ [] _ _ _ := hm_z
  replace hm_z := rn_aload_n (am_cur_of (i := (169, 1, .aload_n 0, (0, 0, 0), 0)) (by decide +kernel)) g0_z hm_z
  replace hm_z := rn_getR (x := 181) (am_cur_of (i := (170, 3, .getfield 63, (12, 36, 1420), 0)) (by decide +kernel)) (by decide +kernel) hm_z
  replace hm_z := rn_bipush (w := 64) (am_cur_of (i := (173, 2, .bipush 64, (0, 0, 0), 0)) (by decide +kernel)) (by decide) hm_z
  replace hm_z := rn_callS (M' := am_m145) (ar := [.int 64, .ref 181]) (rest := []) (L := lv_args 0 [.ref 181, .int 64]) (am_cur_of (i := (175, 3, .invokestatic 234, (145, 1365, 3), 0)) (by decide +kernel)) rfl rfl rfl rfl hm_z
  obtain ⟨r108_z, h109_z, q110_z, hm_z⟩ := hm_z
  have vo := rn_void rfl q110_z
  subst vo
  clear q110_z
  replace hm_z : rn _ _ _ _ [] _ _ _ := hm_z
  replace hm_z := rn_aload_n (am_cur_of (i := (178, 1, .aload_n 0, (0, 0, 0), 0)) (by decide +kernel)) g0_z hm_z
  replace hm_z := rn_getR (x := 182) (am_cur_of (i := (179, 3, .getfield 66, (12, 37, 1421), 0)) (by decide +kernel)) (by decide +kernel) hm_z
  replace hm_z := rn_bipush (w := 64) (am_cur_of (i := (182, 2, .bipush 64, (0, 0, 0), 0)) (by decide +kernel)) (by decide) hm_z
  replace hm_z := rn_callS (M' := am_m145) (ar := [.int 64, .ref 182]) (rest := []) (L := lv_args 0 [.ref 182, .int 64]) (am_cur_of (i := (184, 3, .invokestatic 234, (145, 1365, 3), 0)) (by decide +kernel)) rfl rfl rfl rfl hm_z
  obtain ⟨r111_z, h112_z, q113_z, hm_z⟩ := hm_z
  have vo := rn_void rfl q113_z
  subst vo
  clear q113_z
  replace hm_z : rn _ _ _ _ [] _ _ _ := hm_z
  replace hm_z := rn_aload_n (am_cur_of (i := (187, 1, .aload_n 0, (0, 0, 0), 0)) (by decide +kernel)) g0_z hm_z
  replace hm_z := rn_getR (x := 183) (am_cur_of (i := (188, 3, .getfield 69, (12, 38, 1422), 0)) (by decide +kernel)) (by decide +kernel) hm_z
  replace hm_z := rn_bipush (w := 64) (am_cur_of (i := (191, 2, .bipush 64, (0, 0, 0), 0)) (by decide +kernel)) (by decide) hm_z
  replace hm_z := rn_callS (M' := am_m145) (ar := [.int 64, .ref 183]) (rest := []) (L := lv_args 0 [.ref 183, .int 64]) (am_cur_of (i := (193, 3, .invokestatic 234, (145, 1365, 3), 0)) (by decide +kernel)) rfl rfl rfl rfl hm_z
  obtain ⟨r114_z, h115_z, q116_z, hm_z⟩ := hm_z
  have vo := rn_void rfl q116_z
  subst vo
  clear q116_z
  replace hm_z : rn _ _ _ _ [] _ _ _ := hm_z
  replace hm_z := rn_aload_n (am_cur_of (i := (196, 1, .aload_n 0, (0, 0, 0), 0)) (by decide +kernel)) g0_z hm_z
  replace hm_z := rn_callV (M' := am_m146) (o := 164) (ar := []) (rest := []) (L := lv_args 0 [.ref 164]) (am_cur_of (i := (197, 3, .invokevirtual 238, (146, 1368, 3), 0)) (by decide +kernel)) rfl rfl rfl rfl hm_z
  obtain ⟨r117_z, h118_z, q119_z, hm_z⟩ := hm_z
  have vo := rn_void rfl q119_z
  subst vo
  have zb := kt_begin q119_z
  have sb := sm_146 q119_z
  replace hm_z : rn _ _ _ _ [] _ _ _ := hm_z
  replace hm_z := rn_vret (am_cur_of (i := (200, 1, .return_, (0, 0, 0), 0)) (by decide +kernel)) hm_z
  obtain ⟨e120_z, e121_z⟩ := hm_z
  rw [e121_z, zb 168 3 (by decide)]
  exact sb
