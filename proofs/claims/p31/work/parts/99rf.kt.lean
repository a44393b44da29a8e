/-! ===== A TEXT IS KEPT: keepText, begin (wip/r/gen99rf.py) ===== -/
theorem cp_l {o N : Nat} {m : Int32} {r : Option Value} {g' : am_H} (hk_z : am_ks0[o]? = some (.inr (.int, N))) (m0_z : 0 ≤ m.toInt) (m9_z : m.toInt ≤ 99) : ∀ (f : Nat) (i : Int32) (ls : am_L) (g : am_H), 0 ≤ i.toInt → i.toInt ≤ m.toInt → am_get ls 0 = some (.ref o) → am_get ls 1 = some (.int m) → am_get ls 2 = some (.int i) → rn f am_m145 2 ls [] g r g' → (∀ o' k, ¬ o' = o → rg_v g' o' k = rg_v g o' k) ∧ (∀ k : Nat, (k : Int) < i.toInt → rg_v g' o k = rg_v g o k) ∧ (∀ k : Nat, i.toInt ≤ (k : Int) → (k : Int) < m.toInt → rg_v g' o k = rg_v g o (m.toNatClampNeg + k)) := by
  intro f
  induction f with
  | zero => intro i ls g i0_z im g0_z g1_z g2_z hm_z; exact absurd hm_z rn_0
  | succ f ih_z =>
    intro i ls g i0_z im g0_z g1_z g2_z hm_z
    have cm := rt_cl m0_z
    have ci_z := rt_cl i0_z
    replace hm_z := rn_iload_n (am_cur_of (i := (2, 1, .iload_n 2, (0, 0, 0), 0)) (by decide +kernel)) g2_z hm_z
    replace hm_z := rn_iload_n (am_cur_of (i := (3, 1, .iload_n 1, (0, 0, 0), 0)) (by decide +kernel)) g1_z hm_z
    replace hm_z := rn_cmp (am_cur_of (i := (4, 3, .if_icmp .ge 17, (15, 0, 0), 0)) (by decide +kernel)) hm_z
    rcases hm_z with ⟨b1_z, hm_z⟩ | ⟨b1_z, hm_z⟩
    · replace b1_z : m.toInt ≤ i.toInt := b1_z
      replace hm_z := rn_vret (am_cur_of (i := (21, 1, .return_, (0, 0, 0), 0)) (by decide +kernel)) hm_z
      obtain ⟨e2_z, e3_z⟩ := hm_z
      subst e3_z
      exact ⟨fun _ _ _ => rfl, fun _ _ => rfl, fun k h1_z h2_z => by omega⟩
    · replace b1_z : i.toInt < m.toInt := b1_z
      have hmi := ab_iadd (x := m) (y := i) (by omega) (by omega)
      have cmi := rt_cl (x := m + i) (by omega)
      have e1_z := rt_c1 i0_z (by omega)
      replace hm_z := rn_aload_n (am_cur_of (i := (7, 1, .aload_n 0, (0, 0, 0), 0)) (by decide +kernel)) g0_z hm_z
      replace hm_z := rn_iload_n (am_cur_of (i := (8, 1, .iload_n 2, (0, 0, 0), 0)) (by decide +kernel)) g2_z hm_z
      replace hm_z := rn_aload_n (am_cur_of (i := (9, 1, .aload_n 0, (0, 0, 0), 0)) (by decide +kernel)) g0_z hm_z
      replace hm_z := rn_iload_n (am_cur_of (i := (10, 1, .iload_n 1, (0, 0, 0), 0)) (by decide +kernel)) g1_z hm_z
      replace hm_z := rn_iload_n (am_cur_of (i := (11, 1, .iload_n 2, (0, 0, 0), 0)) (by decide +kernel)) g2_z hm_z
      replace hm_z := rn_iadd (w := m + i) (am_cur_of (i := (12, 1, .iadd, (0, 0, 0), 0)) (by decide +kernel)) rfl hm_z
      replace hm_z := rn_iaload (q := (m + i).toNatClampNeg) (v := rg_v g o ((m + i).toNatClampNeg)) (am_cur_of (i := (13, 1, .iaload, (0, 0, 0), 0)) (by decide +kernel)) hk_z rfl rfl hm_z
      obtain ⟨p4_z, hm_z⟩ := hm_z
      replace hm_z := rn_iastore (q := i.toNatClampNeg) (am_cur_of (i := (14, 1, .iastore, (0, 0, 0), 0)) (by decide +kernel)) hk_z rfl hm_z
      obtain ⟨p5_z, hm_z⟩ := hm_z
      replace hm_z := rn_iinc (w := i + 1) (am_cur_of (i := (15, 3, .iinc 2 1, (0, 0, 0), 0)) (by decide +kernel)) g2_z rfl hm_z
      obtain ⟨_, s6_z, s7_z, g2_z, hm_z⟩ := hm_z
      replace g0_z := s6_z 0 _ (by decide) rfl g0_z
      replace g1_z := s6_z 1 _ (by decide) rfl g1_z
      clear s6_z s7_z
      replace hm_z := rn_gotoL (am_cur_of (i := (18, 3, .goto (-16), (2, 0, 0), 0)) (by decide +kernel)) hm_z
      obtain ⟨k1_z, k2_z, k3_z⟩ := ih_z (i + 1) _ _ (by omega) (by omega) g0_z g1_z g2_z hm_z
      refine ⟨fun o' k ho => (k1_z o' k ho).trans (rg_v_other (fun q => ho q.1)), fun k hk2_z => (k2_z k (by omega)).trans (rg_v_other (by omega)), fun k h1_z h2_z => ?_⟩
      by_cases q : (k : Int) = i.toInt
      · refine (k2_z k (by omega)).trans ?_
        rw [show k = i.toNatClampNeg by omega]
        refine rg_v_self.trans ?_
        rw [show (m + i).toNatClampNeg = m.toNatClampNeg + i.toNatClampNeg by omega]
      · exact (k3_z k (by omega) h2_z).trans (rg_v_other (by omega))
theorem cp_z {o N n : Nat} {m : Int32} {r : Option Value} {g g' : am_H} (hk_z : am_ks0[o]? = some (.inr (.int, N))) (m0_z : 0 ≤ m.toInt) (m9_z : m.toInt ≤ 99) (hm_z : rn n am_m145 0 (lv_args 0 [.ref o, .int m]) [] g r g') : (∀ o' k, ¬ o' = o → rg_v g' o' k = rg_v g o' k) ∧ ∀ k : Nat, (k : Int) < m.toInt → rg_v g' o k = rg_v g o (m.toNatClampNeg + k) := by
  have g0_z : am_get (lv_args 0 [.ref o, .int m]) 0 = some (.ref o) := rfl
  have g1_z : am_get (lv_args 0 [.ref o, .int m]) 1 = some (.int m) := rfl
  replace hm_z := rn_iconst (w := 0) (am_cur_of (i := (0, 1, .iconst 0, (0, 0, 0), 0)) (by decide +kernel)) (by decide) hm_z
  replace hm_z := rn_istore_n (am_cur_of (i := (1, 1, .istore_n 2, (0, 0, 0), 0)) (by decide +kernel)) hm_z
  obtain ⟨_, s8_z, s9_z, g2_z, hm_z⟩ := hm_z
  replace g0_z := s8_z 0 _ (by decide) rfl g0_z
  replace g1_z := s8_z 1 _ (by decide) rfl g1_z
  clear s8_z s9_z
  obtain ⟨k1_z, k2_z, k3_z⟩ := cp_l hk_z m0_z m9_z _ 0 _ g (by decide) (by rw [show (0 : Int32).toInt = 0 by decide]; exact m0_z) g0_z g1_z g2_z hm_z
  exact ⟨k1_z, fun k h2_z => k3_z k (by rw [show (0 : Int32).toInt = 0 by decide]; omega) h2_z⟩
theorem kt_147 {n : Nat} {r : Option Value} {g g' : am_H} (hm_z : rn n am_m147 0 (lv_args 0 [.ref 164, .int 0]) [] g r g') : zM g g' := by
  have g0_z : am_get (lv_args 0 [.ref 164, .int 0]) 0 = some (.ref 164) := rfl
  have g1_z : am_get (lv_args 0 [.ref 164, .int 0]) 1 = some (.int 0) := rfl
  replace hm_z := rn_aload_n (am_cur_of (i := (0, 1, .aload_n 0, (0, 0, 0), 0)) (by decide +kernel)) g0_z hm_z
  replace hm_z := rn_getR (x := 188) (am_cur_of (i := (1, 3, .getfield 85, (12, 50, 1434), 0)) (by decide +kernel)) (by decide +kernel) hm_z
  replace hm_z := rn_iload_n (am_cur_of (i := (4, 1, .iload_n 1, (0, 0, 0), 0)) (by decide +kernel)) g1_z hm_z
  replace hm_z := rn_aload_n (am_cur_of (i := (5, 1, .aload_n 0, (0, 0, 0), 0)) (by decide +kernel)) g0_z hm_z
  replace hm_z := rn_getR (x := 168) (am_cur_of (i := (6, 3, .getfield 24, (12, 23, 1407), 0)) (by decide +kernel)) (by decide +kernel) hm_z
  replace hm_z := rn_iconst (w := 1) (am_cur_of (i := (9, 1, .iconst 1, (0, 0, 0), 0)) (by decide +kernel)) (by decide) hm_z
  replace hm_z := rn_iaload (N := 12) (q := 1) (v := rg_v g 168 1) (am_cur_of (i := (10, 1, .iaload, (0, 0, 0), 0)) (by decide +kernel)) (by decide +kernel) rfl rfl hm_z
  obtain ⟨p10_z, hm_z⟩ := hm_z
  replace hm_z := rn_iastore (N := 4) (q := 0) (am_cur_of (i := (11, 1, .iastore, (0, 0, 0), 0)) (by decide +kernel)) (by decide +kernel) rfl hm_z
  obtain ⟨p11_z, hm_z⟩ := hm_z
  replace hm_z := rn_aload_n (am_cur_of (i := (12, 1, .aload_n 0, (0, 0, 0), 0)) (by decide +kernel)) g0_z hm_z
  replace hm_z := rn_getR (x := 189) (am_cur_of (i := (13, 3, .getfield 88, (12, 51, 1435), 0)) (by decide +kernel)) (by decide +kernel) hm_z
  replace hm_z := rn_iload_n (am_cur_of (i := (16, 1, .iload_n 1, (0, 0, 0), 0)) (by decide +kernel)) g1_z hm_z
  replace hm_z := rn_iconst (w := 0) (am_cur_of (i := (17, 1, .iconst 0, (0, 0, 0), 0)) (by decide +kernel)) (by decide) hm_z
  replace hm_z := rn_iastore (N := 4) (q := 0) (am_cur_of (i := (18, 1, .iastore, (0, 0, 0), 0)) (by decide +kernel)) (by decide +kernel) rfl hm_z
  obtain ⟨p12_z, hm_z⟩ := hm_z
  replace hm_z := rn_aload_n (am_cur_of (i := (19, 1, .aload_n 0, (0, 0, 0), 0)) (by decide +kernel)) g0_z hm_z
  replace hm_z := rn_getR (x := 190) (am_cur_of (i := (20, 3, .getfield 91, (12, 52, 1436), 0)) (by decide +kernel)) (by decide +kernel) hm_z
  replace hm_z := rn_iload_n (am_cur_of (i := (23, 1, .iload_n 1, (0, 0, 0), 0)) (by decide +kernel)) g1_z hm_z
  replace hm_z := rn_iconst (w := (-1)) (am_cur_of (i := (24, 1, .iconst (-1), (0, 0, 0), 0)) (by decide +kernel)) (by decide) hm_z
  replace hm_z := rn_iastore (N := 4) (q := 0) (am_cur_of (i := (25, 1, .iastore, (0, 0, 0), 0)) (by decide +kernel)) (by decide +kernel) rfl hm_z
  obtain ⟨p13_z, hm_z⟩ := hm_z
  replace hm_z := rn_aload_n (am_cur_of (i := (26, 1, .aload_n 0, (0, 0, 0), 0)) (by decide +kernel)) g0_z hm_z
  replace hm_z := rn_getR (x := 194) (am_cur_of (i := (27, 3, .getfield 103, (12, 56, 1440), 0)) (by decide +kernel)) (by decide +kernel) hm_z
  replace hm_z := rn_iload_n (am_cur_of (i := (30, 1, .iload_n 1, (0, 0, 0), 0)) (by decide +kernel)) g1_z hm_z
  replace hm_z := rn_aload_n (am_cur_of (i := (31, 1, .aload_n 0, (0, 0, 0), 0)) (by decide +kernel)) g0_z hm_z
  replace hm_z := rn_getR (x := 168) (am_cur_of (i := (32, 3, .getfield 24, (12, 23, 1407), 0)) (by decide +kernel)) (by decide +kernel) hm_z
  replace hm_z := rn_iconst (w := 3) (am_cur_of (i := (35, 1, .iconst 3, (0, 0, 0), 0)) (by decide +kernel)) (by decide) hm_z
  replace hm_z := rn_iaload (N := 12) (q := 3) (v := rg_v g 168 3) (am_cur_of (i := (36, 1, .iaload, (0, 0, 0), 0)) (by decide +kernel)) (by decide +kernel) rfl (show rg_v (am_up (am_up (am_up g 188 0 (.int (rg_v g 168 1))) 189 0 (.int 0)) 190 0 (.int (-1))) 168 3 = rg_v g 168 3 from rfl) hm_z
  obtain ⟨p14_z, hm_z⟩ := hm_z
  replace hm_z := rn_iastore (N := 4) (q := 0) (am_cur_of (i := (37, 1, .iastore, (0, 0, 0), 0)) (by decide +kernel)) (by decide +kernel) rfl hm_z
  obtain ⟨p15_z, hm_z⟩ := hm_z
  replace hm_z := rn_iconst (w := 0) (am_cur_of (i := (38, 1, .iconst 0, (0, 0, 0), 0)) (by decide +kernel)) (by decide) hm_z
  replace hm_z := rn_istore_n (am_cur_of (i := (39, 1, .istore_n 2, (0, 0, 0), 0)) (by decide +kernel)) hm_z
  obtain ⟨_, s16_z, s17_z, g2_z, hm_z⟩ := hm_z
  replace g0_z := s16_z 0 _ (by decide) rfl g0_z
  replace g1_z := s16_z 1 _ (by decide) rfl g1_z
  clear s16_z s17_z
  replace hm_z := rn_iload_n (am_cur_of (i := (40, 1, .iload_n 2, (0, 0, 0), 0)) (by decide +kernel)) g2_z hm_z
  replace hm_z := rn_iconst (w := 4) (am_cur_of (i := (41, 1, .iconst 4, (0, 0, 0), 0)) (by decide +kernel)) (by decide) hm_z
  replace hm_z := rn_cmpF (am_cur_of (i := (42, 3, .if_icmp .ge 42, (60, 0, 0), 0)) (by decide +kernel)) (by decide) hm_z
  replace hm_z := rn_aload_n (am_cur_of (i := (45, 1, .aload_n 0, (0, 0, 0), 0)) (by decide +kernel)) g0_z hm_z
  replace hm_z := rn_getR (x := 191) (am_cur_of (i := (46, 3, .getfield 94, (12, 53, 1437), 0)) (by decide +kernel)) (by decide +kernel) hm_z
  replace hm_z := rn_iconst (w := 4) (am_cur_of (i := (49, 1, .iconst 4, (0, 0, 0), 0)) (by decide +kernel)) (by decide) hm_z
  replace hm_z := rn_iload_n (am_cur_of (i := (50, 1, .iload_n 1, (0, 0, 0), 0)) (by decide +kernel)) g1_z hm_z
  replace hm_z := rn_imul (w := 0) (am_cur_of (i := (51, 1, .imul, (0, 0, 0), 0)) (by decide +kernel)) (by decide) hm_z
  replace hm_z := rn_iload_n (am_cur_of (i := (52, 1, .iload_n 2, (0, 0, 0), 0)) (by decide +kernel)) g2_z hm_z
  replace hm_z := rn_iadd (w := 0) (am_cur_of (i := (53, 1, .iadd, (0, 0, 0), 0)) (by decide +kernel)) (by decide) hm_z
  replace hm_z := rn_iconst (w := 0) (am_cur_of (i := (54, 1, .iconst 0, (0, 0, 0), 0)) (by decide +kernel)) (by decide) hm_z
  replace hm_z := rn_iastore (N := 16) (q := 0) (am_cur_of (i := (55, 1, .iastore, (0, 0, 0), 0)) (by decide +kernel)) (by decide +kernel) rfl hm_z
  obtain ⟨p18_z, hm_z⟩ := hm_z
  replace hm_z := rn_aload_n (am_cur_of (i := (56, 1, .aload_n 0, (0, 0, 0), 0)) (by decide +kernel)) g0_z hm_z
  replace hm_z := rn_getR (x := 192) (am_cur_of (i := (57, 3, .getfield 97, (12, 54, 1438), 0)) (by decide +kernel)) (by decide +kernel) hm_z
  replace hm_z := rn_iconst (w := 4) (am_cur_of (i := (60, 1, .iconst 4, (0, 0, 0), 0)) (by decide +kernel)) (by decide) hm_z
  replace hm_z := rn_iload_n (am_cur_of (i := (61, 1, .iload_n 1, (0, 0, 0), 0)) (by decide +kernel)) g1_z hm_z
  replace hm_z := rn_imul (w := 0) (am_cur_of (i := (62, 1, .imul, (0, 0, 0), 0)) (by decide +kernel)) (by decide) hm_z
  replace hm_z := rn_iload_n (am_cur_of (i := (63, 1, .iload_n 2, (0, 0, 0), 0)) (by decide +kernel)) g2_z hm_z
  replace hm_z := rn_iadd (w := 0) (am_cur_of (i := (64, 1, .iadd, (0, 0, 0), 0)) (by decide +kernel)) (by decide) hm_z
  replace hm_z := rn_iconst (w := 0) (am_cur_of (i := (65, 1, .iconst 0, (0, 0, 0), 0)) (by decide +kernel)) (by decide) hm_z
  replace hm_z := rn_iastore (N := 16) (q := 0) (am_cur_of (i := (66, 1, .iastore, (0, 0, 0), 0)) (by decide +kernel)) (by decide +kernel) rfl hm_z
  obtain ⟨p19_z, hm_z⟩ := hm_z
  replace hm_z := rn_aload_n (am_cur_of (i := (67, 1, .aload_n 0, (0, 0, 0), 0)) (by decide +kernel)) g0_z hm_z
  replace hm_z := rn_getR (x := 193) (am_cur_of (i := (68, 3, .getfield 100, (12, 55, 1439), 0)) (by decide +kernel)) (by decide +kernel) hm_z
  replace hm_z := rn_iconst (w := 4) (am_cur_of (i := (71, 1, .iconst 4, (0, 0, 0), 0)) (by decide +kernel)) (by decide) hm_z
  replace hm_z := rn_iload_n (am_cur_of (i := (72, 1, .iload_n 1, (0, 0, 0), 0)) (by decide +kernel)) g1_z hm_z
  replace hm_z := rn_imul (w := 0) (am_cur_of (i := (73, 1, .imul, (0, 0, 0), 0)) (by decide +kernel)) (by decide) hm_z
  replace hm_z := rn_iload_n (am_cur_of (i := (74, 1, .iload_n 2, (0, 0, 0), 0)) (by decide +kernel)) g2_z hm_z
  replace hm_z := rn_iadd (w := 0) (am_cur_of (i := (75, 1, .iadd, (0, 0, 0), 0)) (by decide +kernel)) (by decide) hm_z
  replace hm_z := rn_iconst (w := 0) (am_cur_of (i := (76, 1, .iconst 0, (0, 0, 0), 0)) (by decide +kernel)) (by decide) hm_z
  replace hm_z := rn_iastore (N := 16) (q := 0) (am_cur_of (i := (77, 1, .iastore, (0, 0, 0), 0)) (by decide +kernel)) (by decide +kernel) rfl hm_z
  obtain ⟨p20_z, hm_z⟩ := hm_z
  replace hm_z := rn_iinc (w := 1) (am_cur_of (i := (78, 3, .iinc 2 1, (0, 0, 0), 0)) (by decide +kernel)) g2_z (by decide) hm_z
  obtain ⟨_, s21_z, s22_z, g2_z, hm_z⟩ := hm_z
  replace g0_z := s21_z 0 _ (by decide) rfl g0_z
  replace g1_z := s21_z 1 _ (by decide) rfl g1_z
  clear s21_z s22_z
  replace hm_z := rn_goto (am_cur_of (i := (81, 3, .goto (-41), (28, 0, 0), 0)) (by decide +kernel)) hm_z
  replace hm_z := rn_iload_n (am_cur_of (i := (40, 1, .iload_n 2, (0, 0, 0), 0)) (by decide +kernel)) g2_z hm_z
  replace hm_z := rn_iconst (w := 4) (am_cur_of (i := (41, 1, .iconst 4, (0, 0, 0), 0)) (by decide +kernel)) (by decide) hm_z
  replace hm_z := rn_cmpF (am_cur_of (i := (42, 3, .if_icmp .ge 42, (60, 0, 0), 0)) (by decide +kernel)) (by decide) hm_z
  replace hm_z := rn_aload_n (am_cur_of (i := (45, 1, .aload_n 0, (0, 0, 0), 0)) (by decide +kernel)) g0_z hm_z
  replace hm_z := rn_getR (x := 191) (am_cur_of (i := (46, 3, .getfield 94, (12, 53, 1437), 0)) (by decide +kernel)) (by decide +kernel) hm_z
  replace hm_z := rn_iconst (w := 4) (am_cur_of (i := (49, 1, .iconst 4, (0, 0, 0), 0)) (by decide +kernel)) (by decide) hm_z
  replace hm_z := rn_iload_n (am_cur_of (i := (50, 1, .iload_n 1, (0, 0, 0), 0)) (by decide +kernel)) g1_z hm_z
  replace hm_z := rn_imul (w := 0) (am_cur_of (i := (51, 1, .imul, (0, 0, 0), 0)) (by decide +kernel)) (by decide) hm_z
  replace hm_z := rn_iload_n (am_cur_of (i := (52, 1, .iload_n 2, (0, 0, 0), 0)) (by decide +kernel)) g2_z hm_z
  replace hm_z := rn_iadd (w := 1) (am_cur_of (i := (53, 1, .iadd, (0, 0, 0), 0)) (by decide +kernel)) (by decide) hm_z
  replace hm_z := rn_iconst (w := 0) (am_cur_of (i := (54, 1, .iconst 0, (0, 0, 0), 0)) (by decide +kernel)) (by decide) hm_z
  replace hm_z := rn_iastore (N := 16) (q := 1) (am_cur_of (i := (55, 1, .iastore, (0, 0, 0), 0)) (by decide +kernel)) (by decide +kernel) rfl hm_z
  obtain ⟨p23_z, hm_z⟩ := hm_z
  replace hm_z := rn_aload_n (am_cur_of (i := (56, 1, .aload_n 0, (0, 0, 0), 0)) (by decide +kernel)) g0_z hm_z
  replace hm_z := rn_getR (x := 192) (am_cur_of (i := (57, 3, .getfield 97, (12, 54, 1438), 0)) (by decide +kernel)) (by decide +kernel) hm_z
  replace hm_z := rn_iconst (w := 4) (am_cur_of (i := (60, 1, .iconst 4, (0, 0, 0), 0)) (by decide +kernel)) (by decide) hm_z
  replace hm_z := rn_iload_n (am_cur_of (i := (61, 1, .iload_n 1, (0, 0, 0), 0)) (by decide +kernel)) g1_z hm_z
  replace hm_z := rn_imul (w := 0) (am_cur_of (i := (62, 1, .imul, (0, 0, 0), 0)) (by decide +kernel)) (by decide) hm_z
  replace hm_z := rn_iload_n (am_cur_of (i := (63, 1, .iload_n 2, (0, 0, 0), 0)) (by decide +kernel)) g2_z hm_z
  replace hm_z := rn_iadd (w := 1) (am_cur_of (i := (64, 1, .iadd, (0, 0, 0), 0)) (by decide +kernel)) (by decide) hm_z
  replace hm_z := rn_iconst (w := 0) (am_cur_of (i := (65, 1, .iconst 0, (0, 0, 0), 0)) (by decide +kernel)) (by decide) hm_z
  replace hm_z := rn_iastore (N := 16) (q := 1) (am_cur_of (i := (66, 1, .iastore, (0, 0, 0), 0)) (by decide +kernel)) (by decide +kernel) rfl hm_z
  obtain ⟨p24_z, hm_z⟩ := hm_z
  replace hm_z := rn_aload_n (am_cur_of (i := (67, 1, .aload_n 0, (0, 0, 0), 0)) (by decide +kernel)) g0_z hm_z
  replace hm_z := rn_getR (x := 193) (am_cur_of (i := (68, 3, .getfield 100, (12, 55, 1439), 0)) (by decide +kernel)) (by decide +kernel) hm_z
  replace hm_z := rn_iconst (w := 4) (am_cur_of (i := (71, 1, .iconst 4, (0, 0, 0), 0)) (by decide +kernel)) (by decide) hm_z
  replace hm_z := rn_iload_n (am_cur_of (i := (72, 1, .iload_n 1, (0, 0, 0), 0)) (by decide +kernel)) g1_z hm_z
  replace hm_z := rn_imul (w := 0) (am_cur_of (i := (73, 1, .imul, (0, 0, 0), 0)) (by decide +kernel)) (by decide) hm_z
  replace hm_z := rn_iload_n (am_cur_of (i := (74, 1, .iload_n 2, (0, 0, 0), 0)) (by decide +kernel)) g2_z hm_z
  replace hm_z := rn_iadd (w := 1) (am_cur_of (i := (75, 1, .iadd, (0, 0, 0), 0)) (by decide +kernel)) (by decide) hm_z
  replace hm_z := rn_iconst (w := 0) (am_cur_of (i := (76, 1, .iconst 0, (0, 0, 0), 0)) (by decide +kernel)) (by decide) hm_z
  replace hm_z := rn_iastore (N := 16) (q := 1) (am_cur_of (i := (77, 1, .iastore, (0, 0, 0), 0)) (by decide +kernel)) (by decide +kernel) rfl hm_z
  obtain ⟨p25_z, hm_z⟩ := hm_z
  replace hm_z := rn_iinc (w := 2) (am_cur_of (i := (78, 3, .iinc 2 1, (0, 0, 0), 0)) (by decide +kernel)) g2_z (by decide) hm_z
  obtain ⟨_, s26_z, s27_z, g2_z, hm_z⟩ := hm_z
  replace g0_z := s26_z 0 _ (by decide) rfl g0_z
  replace g1_z := s26_z 1 _ (by decide) rfl g1_z
  clear s26_z s27_z
  replace hm_z := rn_goto (am_cur_of (i := (81, 3, .goto (-41), (28, 0, 0), 0)) (by decide +kernel)) hm_z
  replace hm_z := rn_iload_n (am_cur_of (i := (40, 1, .iload_n 2, (0, 0, 0), 0)) (by decide +kernel)) g2_z hm_z
  replace hm_z := rn_iconst (w := 4) (am_cur_of (i := (41, 1, .iconst 4, (0, 0, 0), 0)) (by decide +kernel)) (by decide) hm_z
  replace hm_z := rn_cmpF (am_cur_of (i := (42, 3, .if_icmp .ge 42, (60, 0, 0), 0)) (by decide +kernel)) (by decide) hm_z
  replace hm_z := rn_aload_n (am_cur_of (i := (45, 1, .aload_n 0, (0, 0, 0), 0)) (by decide +kernel)) g0_z hm_z
  replace hm_z := rn_getR (x := 191) (am_cur_of (i := (46, 3, .getfield 94, (12, 53, 1437), 0)) (by decide +kernel)) (by decide +kernel) hm_z
  replace hm_z := rn_iconst (w := 4) (am_cur_of (i := (49, 1, .iconst 4, (0, 0, 0), 0)) (by decide +kernel)) (by decide) hm_z
  replace hm_z := rn_iload_n (am_cur_of (i := (50, 1, .iload_n 1, (0, 0, 0), 0)) (by decide +kernel)) g1_z hm_z
  replace hm_z := rn_imul (w := 0) (am_cur_of (i := (51, 1, .imul, (0, 0, 0), 0)) (by decide +kernel)) (by decide) hm_z
  replace hm_z := rn_iload_n (am_cur_of (i := (52, 1, .iload_n 2, (0, 0, 0), 0)) (by decide +kernel)) g2_z hm_z
  replace hm_z := rn_iadd (w := 2) (am_cur_of (i := (53, 1, .iadd, (0, 0, 0), 0)) (by decide +kernel)) (by decide) hm_z
  replace hm_z := rn_iconst (w := 0) (am_cur_of (i := (54, 1, .iconst 0, (0, 0, 0), 0)) (by decide +kernel)) (by decide) hm_z
  replace hm_z := rn_iastore (N := 16) (q := 2) (am_cur_of (i := (55, 1, .iastore, (0, 0, 0), 0)) (by decide +kernel)) (by decide +kernel) rfl hm_z
  obtain ⟨p28_z, hm_z⟩ := hm_z
  replace hm_z := rn_aload_n (am_cur_of (i := (56, 1, .aload_n 0, (0, 0, 0), 0)) (by decide +kernel)) g0_z hm_z
  replace hm_z := rn_getR (x := 192) (am_cur_of (i := (57, 3, .getfield 97, (12, 54, 1438), 0)) (by decide +kernel)) (by decide +kernel) hm_z
  replace hm_z := rn_iconst (w := 4) (am_cur_of (i := (60, 1, .iconst 4, (0, 0, 0), 0)) (by decide +kernel)) (by decide) hm_z
  replace hm_z := rn_iload_n (am_cur_of (i := (61, 1, .iload_n 1, (0, 0, 0), 0)) (by decide +kernel)) g1_z hm_z
  replace hm_z := rn_imul (w := 0) (am_cur_of (i := (62, 1, .imul, (0, 0, 0), 0)) (by decide +kernel)) (by decide) hm_z
  replace hm_z := rn_iload_n (am_cur_of (i := (63, 1, .iload_n 2, (0, 0, 0), 0)) (by decide +kernel)) g2_z hm_z
  replace hm_z := rn_iadd (w := 2) (am_cur_of (i := (64, 1, .iadd, (0, 0, 0), 0)) (by decide +kernel)) (by decide) hm_z
  replace hm_z := rn_iconst (w := 0) (am_cur_of (i := (65, 1, .iconst 0, (0, 0, 0), 0)) (by decide +kernel)) (by decide) hm_z
  replace hm_z := rn_iastore (N := 16) (q := 2) (am_cur_of (i := (66, 1, .iastore, (0, 0, 0), 0)) (by decide +kernel)) (by decide +kernel) rfl hm_z
  obtain ⟨p29_z, hm_z⟩ := hm_z
  replace hm_z := rn_aload_n (am_cur_of (i := (67, 1, .aload_n 0, (0, 0, 0), 0)) (by decide +kernel)) g0_z hm_z
  replace hm_z := rn_getR (x := 193) (am_cur_of (i := (68, 3, .getfield 100, (12, 55, 1439), 0)) (by decide +kernel)) (by decide +kernel) hm_z
  replace hm_z := rn_iconst (w := 4) (am_cur_of (i := (71, 1, .iconst 4, (0, 0, 0), 0)) (by decide +kernel)) (by decide) hm_z
  replace hm_z := rn_iload_n (am_cur_of (i := (72, 1, .iload_n 1, (0, 0, 0), 0)) (by decide +kernel)) g1_z hm_z
  replace hm_z := rn_imul (w := 0) (am_cur_of (i := (73, 1, .imul, (0, 0, 0), 0)) (by decide +kernel)) (by decide) hm_z
  replace hm_z := rn_iload_n (am_cur_of (i := (74, 1, .iload_n 2, (0, 0, 0), 0)) (by decide +kernel)) g2_z hm_z
  replace hm_z := rn_iadd (w := 2) (am_cur_of (i := (75, 1, .iadd, (0, 0, 0), 0)) (by decide +kernel)) (by decide) hm_z
  replace hm_z := rn_iconst (w := 0) (am_cur_of (i := (76, 1, .iconst 0, (0, 0, 0), 0)) (by decide +kernel)) (by decide) hm_z
  replace hm_z := rn_iastore (N := 16) (q := 2) (am_cur_of (i := (77, 1, .iastore, (0, 0, 0), 0)) (by decide +kernel)) (by decide +kernel) rfl hm_z
  obtain ⟨p30_z, hm_z⟩ := hm_z
  replace hm_z := rn_iinc (w := 3) (am_cur_of (i := (78, 3, .iinc 2 1, (0, 0, 0), 0)) (by decide +kernel)) g2_z (by decide) hm_z
  obtain ⟨_, s31_z, s32_z, g2_z, hm_z⟩ := hm_z
  replace g0_z := s31_z 0 _ (by decide) rfl g0_z
  replace g1_z := s31_z 1 _ (by decide) rfl g1_z
  clear s31_z s32_z
  replace hm_z := rn_goto (am_cur_of (i := (81, 3, .goto (-41), (28, 0, 0), 0)) (by decide +kernel)) hm_z
  replace hm_z := rn_iload_n (am_cur_of (i := (40, 1, .iload_n 2, (0, 0, 0), 0)) (by decide +kernel)) g2_z hm_z
  replace hm_z := rn_iconst (w := 4) (am_cur_of (i := (41, 1, .iconst 4, (0, 0, 0), 0)) (by decide +kernel)) (by decide) hm_z
  replace hm_z := rn_cmpF (am_cur_of (i := (42, 3, .if_icmp .ge 42, (60, 0, 0), 0)) (by decide +kernel)) (by decide) hm_z
  replace hm_z := rn_aload_n (am_cur_of (i := (45, 1, .aload_n 0, (0, 0, 0), 0)) (by decide +kernel)) g0_z hm_z
  replace hm_z := rn_getR (x := 191) (am_cur_of (i := (46, 3, .getfield 94, (12, 53, 1437), 0)) (by decide +kernel)) (by decide +kernel) hm_z
  replace hm_z := rn_iconst (w := 4) (am_cur_of (i := (49, 1, .iconst 4, (0, 0, 0), 0)) (by decide +kernel)) (by decide) hm_z
  replace hm_z := rn_iload_n (am_cur_of (i := (50, 1, .iload_n 1, (0, 0, 0), 0)) (by decide +kernel)) g1_z hm_z
  replace hm_z := rn_imul (w := 0) (am_cur_of (i := (51, 1, .imul, (0, 0, 0), 0)) (by decide +kernel)) (by decide) hm_z
  replace hm_z := rn_iload_n (am_cur_of (i := (52, 1, .iload_n 2, (0, 0, 0), 0)) (by decide +kernel)) g2_z hm_z
  replace hm_z := rn_iadd (w := 3) (am_cur_of (i := (53, 1, .iadd, (0, 0, 0), 0)) (by decide +kernel)) (by decide) hm_z
  replace hm_z := rn_iconst (w := 0) (am_cur_of (i := (54, 1, .iconst 0, (0, 0, 0), 0)) (by decide +kernel)) (by decide) hm_z
  replace hm_z := rn_iastore (N := 16) (q := 3) (am_cur_of (i := (55, 1, .iastore, (0, 0, 0), 0)) (by decide +kernel)) (by decide +kernel) rfl hm_z
  obtain ⟨p33_z, hm_z⟩ := hm_z
  replace hm_z := rn_aload_n (am_cur_of (i := (56, 1, .aload_n 0, (0, 0, 0), 0)) (by decide +kernel)) g0_z hm_z
  replace hm_z := rn_getR (x := 192) (am_cur_of (i := (57, 3, .getfield 97, (12, 54, 1438), 0)) (by decide +kernel)) (by decide +kernel) hm_z
  replace hm_z := rn_iconst (w := 4) (am_cur_of (i := (60, 1, .iconst 4, (0, 0, 0), 0)) (by decide +kernel)) (by decide) hm_z
  replace hm_z := rn_iload_n (am_cur_of (i := (61, 1, .iload_n 1, (0, 0, 0), 0)) (by decide +kernel)) g1_z hm_z
  replace hm_z := rn_imul (w := 0) (am_cur_of (i := (62, 1, .imul, (0, 0, 0), 0)) (by decide +kernel)) (by decide) hm_z
  replace hm_z := rn_iload_n (am_cur_of (i := (63, 1, .iload_n 2, (0, 0, 0), 0)) (by decide +kernel)) g2_z hm_z
  replace hm_z := rn_iadd (w := 3) (am_cur_of (i := (64, 1, .iadd, (0, 0, 0), 0)) (by decide +kernel)) (by decide) hm_z
  replace hm_z := rn_iconst (w := 0) (am_cur_of (i := (65, 1, .iconst 0, (0, 0, 0), 0)) (by decide +kernel)) (by decide) hm_z
  replace hm_z := rn_iastore (N := 16) (q := 3) (am_cur_of (i := (66, 1, .iastore, (0, 0, 0), 0)) (by decide +kernel)) (by decide +kernel) rfl hm_z
  obtain ⟨p34_z, hm_z⟩ := hm_z
  replace hm_z := rn_aload_n (am_cur_of (i := (67, 1, .aload_n 0, (0, 0, 0), 0)) (by decide +kernel)) g0_z hm_z
  replace hm_z := rn_getR (x := 193) (am_cur_of (i := (68, 3, .getfield 100, (12, 55, 1439), 0)) (by decide +kernel)) (by decide +kernel) hm_z
  replace hm_z := rn_iconst (w := 4) (am_cur_of (i := (71, 1, .iconst 4, (0, 0, 0), 0)) (by decide +kernel)) (by decide) hm_z
  replace hm_z := rn_iload_n (am_cur_of (i := (72, 1, .iload_n 1, (0, 0, 0), 0)) (by decide +kernel)) g1_z hm_z
  replace hm_z := rn_imul (w := 0) (am_cur_of (i := (73, 1, .imul, (0, 0, 0), 0)) (by decide +kernel)) (by decide) hm_z
  replace hm_z := rn_iload_n (am_cur_of (i := (74, 1, .iload_n 2, (0, 0, 0), 0)) (by decide +kernel)) g2_z hm_z
  replace hm_z := rn_iadd (w := 3) (am_cur_of (i := (75, 1, .iadd, (0, 0, 0), 0)) (by decide +kernel)) (by decide) hm_z
  replace hm_z := rn_iconst (w := 0) (am_cur_of (i := (76, 1, .iconst 0, (0, 0, 0), 0)) (by decide +kernel)) (by decide) hm_z
  replace hm_z := rn_iastore (N := 16) (q := 3) (am_cur_of (i := (77, 1, .iastore, (0, 0, 0), 0)) (by decide +kernel)) (by decide +kernel) rfl hm_z
  obtain ⟨p35_z, hm_z⟩ := hm_z
  replace hm_z := rn_iinc (w := 4) (am_cur_of (i := (78, 3, .iinc 2 1, (0, 0, 0), 0)) (by decide +kernel)) g2_z (by decide) hm_z
  obtain ⟨_, s36_z, s37_z, g2_z, hm_z⟩ := hm_z
  replace g0_z := s36_z 0 _ (by decide) rfl g0_z
  replace g1_z := s36_z 1 _ (by decide) rfl g1_z
  clear s36_z s37_z
  replace hm_z := rn_goto (am_cur_of (i := (81, 3, .goto (-41), (28, 0, 0), 0)) (by decide +kernel)) hm_z
  replace hm_z := rn_iload_n (am_cur_of (i := (40, 1, .iload_n 2, (0, 0, 0), 0)) (by decide +kernel)) g2_z hm_z
  replace hm_z := rn_iconst (w := 4) (am_cur_of (i := (41, 1, .iconst 4, (0, 0, 0), 0)) (by decide +kernel)) (by decide) hm_z
  replace hm_z := rn_cmpT (am_cur_of (i := (42, 3, .if_icmp .ge 42, (60, 0, 0), 0)) (by decide +kernel)) (by decide) hm_z
  replace hm_z := rn_vret (am_cur_of (i := (84, 1, .return_, (0, 0, 0), 0)) (by decide +kernel)) hm_z
  obtain ⟨e38_z, e39_z⟩ := hm_z
  subst e39_z
  exact (zM_u (by decide) (zM_u (by decide) (zM_u (by decide) (zM_u (by decide) (zM_u (by decide) (zM_u (by decide) (zM_u (by decide) (zM_u (by decide) (zM_u (by decide) (zM_u (by decide) (zM_u (by decide) (zM_u (by decide) (zM_u (by decide) (zM_u (by decide) (zM_u (by decide) (zM_u (by decide) zM_r))))))))))))))))
theorem kt_148 {n : Nat} {r : Option Value} {g g' : am_H} {s : Int32} (hm_z : rn n am_m148 0 (lv_args 0 [.ref 164, .int s]) [] g r g') : zM g g' := by
  have g0_z : am_get (lv_args 0 [.ref 164, .int s]) 0 = some (.ref 164) := rfl
  have g1_z : am_get (lv_args 0 [.ref 164, .int s]) 1 = some (.int s) := rfl
  replace hm_z := rn_aload_n (am_cur_of (i := (0, 1, .aload_n 0, (0, 0, 0), 0)) (by decide +kernel)) g0_z hm_z
  replace hm_z := rn_aload_n (am_cur_of (i := (1, 1, .aload_n 0, (0, 0, 0), 0)) (by decide +kernel)) g0_z hm_z
  replace hm_z := rn_getL (v := rg_l g 164 59) (am_cur_of (i := (2, 3, .getfield 358, (12, 59, 1443), 0)) (by decide +kernel)) (by decide +kernel) rfl hm_z
  replace hm_z := rn_ldc2 (w := 1103515245) (am_cur_of (i := (5, 3, .ldc2_w 377, (0, 0, 1380), 1103515245)) (by decide +kernel)) (by decide) hm_z
  replace hm_z := rn_lmul (w := (rg_l g 164 59) * 1103515245) (am_cur_of (i := (8, 1, .lmul, (0, 0, 0), 0)) (by decide +kernel)) rfl hm_z
  replace hm_z := rn_ldc2 (w := 12345) (am_cur_of (i := (9, 3, .ldc2_w 379, (0, 0, 1381), 12345)) (by decide +kernel)) (by decide) hm_z
  replace hm_z := rn_ladd (w := ((rg_l g 164 59) * 1103515245) + 12345) (am_cur_of (i := (12, 1, .ladd, (0, 0, 0), 0)) (by decide +kernel)) rfl hm_z
  replace hm_z := rn_ldc2 (w := 2147483647) (am_cur_of (i := (13, 3, .ldc2_w 381, (0, 0, 1382), 2147483647)) (by decide +kernel)) (by decide) hm_z
  replace hm_z := rn_land (w := (((rg_l g 164 59) * 1103515245) + 12345) &&& 2147483647) (am_cur_of (i := (16, 1, .land, (0, 0, 0), 0)) (by decide +kernel)) rfl hm_z
  replace hm_z := rn_put (am_cur_of (i := (17, 3, .putfield 358, (12, 59, 1443), 0)) (by decide +kernel)) (by decide +kernel) hm_z
  replace hm_z := rn_aload_n (am_cur_of (i := (20, 1, .aload_n 0, (0, 0, 0), 0)) (by decide +kernel)) g0_z hm_z
  replace hm_z := rn_getL (v := (((rg_l g 164 59) * 1103515245) + 12345) &&& 2147483647) (am_cur_of (i := (21, 3, .getfield 358, (12, 59, 1443), 0)) (by decide +kernel)) (by decide +kernel) (show rg_l (am_up g 164 59 (.long ((((rg_l g 164 59) * 1103515245) + 12345) &&& 2147483647))) 164 59 = (((rg_l g 164 59) * 1103515245) + 12345) &&& 2147483647 from rfl) hm_z
  replace hm_z := rn_ldc2 (w := 65536) (am_cur_of (i := (24, 3, .ldc2_w 383, (0, 0, 1383), 65536)) (by decide +kernel)) (by decide) hm_z
  replace hm_z := rn_ldiv (w := ((((rg_l g 164 59) * 1103515245) + 12345) &&& 2147483647) / 65536) (am_cur_of (i := (27, 1, .ldiv, (0, 0, 0), 0)) (by decide +kernel)) rfl hm_z
  obtain ⟨d40_z, hm_z⟩ := hm_z
  replace hm_z := rn_iload_n (am_cur_of (i := (28, 1, .iload_n 1, (0, 0, 0), 0)) (by decide +kernel)) g1_z hm_z
  replace hm_z := rn_i2l (w := s.toInt64) (am_cur_of (i := (29, 1, .i2l, (0, 0, 0), 0)) (by decide +kernel)) rfl hm_z
  replace hm_z := rn_lrem (w := (((((rg_l g 164 59) * 1103515245) + 12345) &&& 2147483647) / 65536) - (((((rg_l g 164 59) * 1103515245) + 12345) &&& 2147483647) / 65536) / s.toInt64 * s.toInt64) (am_cur_of (i := (30, 1, .lrem, (0, 0, 0), 0)) (by decide +kernel)) rfl hm_z
  obtain ⟨d41_z, hm_z⟩ := hm_z
  replace hm_z := rn_l2i (w := ((((((rg_l g 164 59) * 1103515245) + 12345) &&& 2147483647) / 65536) - (((((rg_l g 164 59) * 1103515245) + 12345) &&& 2147483647) / 65536) / s.toInt64 * s.toInt64).toInt32) (am_cur_of (i := (31, 1, .l2i, (0, 0, 0), 0)) (by decide +kernel)) rfl hm_z
  replace hm_z := rn_iret (am_cur_of (i := (32, 1, .ireturn, (0, 0, 0), 0)) (by decide +kernel)) hm_z
  obtain ⟨e42_z, e43_z⟩ := hm_z
  subst e43_z
  exact (zM_u (by decide) zM_r)
theorem kt_e {n : Nat} {ls : am_L} {r : Option Value} {g g' : am_H} (g0_z : am_get ls 0 = some (.ref 164)) (hm_z : rn n am_m146 74 ls [] g r g') : zM g g' := by
  replace hm_z := rn_aload_n (am_cur_of (i := (124, 1, .aload_n 0, (0, 0, 0), 0)) (by decide +kernel)) g0_z hm_z
  replace hm_z := rn_iconst (w := 0) (am_cur_of (i := (125, 1, .iconst 0, (0, 0, 0), 0)) (by decide +kernel)) (by decide) hm_z
  replace hm_z := rn_put (am_cur_of (i := (126, 3, .putfield 368, (12, 73, 1457), 0)) (by decide +kernel)) (by decide +kernel) hm_z
  replace hm_z := rn_aload_n (am_cur_of (i := (129, 1, .aload_n 0, (0, 0, 0), 0)) (by decide +kernel)) g0_z hm_z
  replace hm_z := rn_iconst (w := (-1)) (am_cur_of (i := (130, 1, .iconst (-1), (0, 0, 0), 0)) (by decide +kernel)) (by decide) hm_z
  replace hm_z := rn_put (am_cur_of (i := (131, 3, .putfield 118, (12, 74, 1458), 0)) (by decide +kernel)) (by decide +kernel) hm_z
  replace hm_z := rn_aload_n (am_cur_of (i := (134, 1, .aload_n 0, (0, 0, 0), 0)) (by decide +kernel)) g0_z hm_z
  replace hm_z := rn_iconst (w := 0) (am_cur_of (i := (135, 1, .iconst 0, (0, 0, 0), 0)) (by decide +kernel)) (by decide) hm_z
  replace hm_z := rn_put (am_cur_of (i := (136, 3, .putfield 371, (12, 77, 1461), 0)) (by decide +kernel)) (by decide +kernel) hm_z
  replace hm_z := rn_aload_n (am_cur_of (i := (139, 1, .aload_n 0, (0, 0, 0), 0)) (by decide +kernel)) g0_z hm_z
  replace hm_z := rn_iconst (w := 0) (am_cur_of (i := (140, 1, .iconst 0, (0, 0, 0), 0)) (by decide +kernel)) (by decide) hm_z
  replace hm_z := rn_put (am_cur_of (i := (141, 3, .putfield 374, (12, 79, 1463), 0)) (by decide +kernel)) (by decide +kernel) hm_z
  replace hm_z := rn_vret (am_cur_of (i := (144, 1, .return_, (0, 0, 0), 0)) (by decide +kernel)) hm_z
  obtain ⟨e44_z, e45_z⟩ := hm_z
  subst e45_z
  exact (zM_u (by decide) (zM_u (by decide) (zM_u (by decide) (zM_u (by decide) zM_r))))
theorem kt_w {r : Option Value} {g' : am_H} : ∀ (f : Nat) (x : Int32) (ls : am_L) (g : am_H), am_get ls 0 = some (.ref 164) → am_get ls 2 = some (.int x) → rn f am_m146 52 ls [] g r g' → zM g g' := by
  intro f
  induction f with
  | zero => intro x ls g g0_z g2_z hm_z; exact absurd hm_z rn_0
  | succ f ih_z =>
    intro x ls g g0_z g2_z hm_z
    replace hm_z := rn_iload_n (am_cur_of (i := (86, 1, .iload_n 2, (0, 0, 0), 0)) (by decide +kernel)) g2_z hm_z
    replace hm_z := rn_aload_n (am_cur_of (i := (87, 1, .aload_n 0, (0, 0, 0), 0)) (by decide +kernel)) g0_z hm_z
    replace hm_z := rn_getR (x := 173) (am_cur_of (i := (88, 3, .getfield 39, (12, 28, 1412), 0)) (by decide +kernel)) (by decide +kernel) hm_z
    replace hm_z := rn_aload_n (am_cur_of (i := (91, 1, .aload_n 0, (0, 0, 0), 0)) (by decide +kernel)) g0_z hm_z
    replace hm_z := rn_getI (v := rg_v g 164 58) (am_cur_of (i := (92, 3, .getfield 362, (12, 58, 1442), 0)) (by decide +kernel)) (by decide +kernel) rfl hm_z
    replace hm_z := rn_iaload (N := 12) (q := (rg_v g 164 58).toNatClampNeg) (v := rg_v g 173 ((rg_v g 164 58).toNatClampNeg)) (am_cur_of (i := (95, 1, .iaload, (0, 0, 0), 0)) (by decide +kernel)) (by decide +kernel) rfl rfl hm_z
    obtain ⟨p46_z, hm_z⟩ := hm_z
    replace hm_z := rn_cmp (am_cur_of (i := (96, 3, .if_icmp .lt 28, (74, 0, 0), 0)) (by decide +kernel)) hm_z
    rcases hm_z with ⟨b47_z, hm_z⟩ | ⟨b47_z, hm_z⟩
    · replace b47_z : x.toInt < (rg_v g 173 ((rg_v g 164 58).toNatClampNeg)).toInt := b47_z
      exact kt_e g0_z hm_z
    · replace b47_z : (rg_v g 173 ((rg_v g 164 58).toNatClampNeg)).toInt ≤ x.toInt := b47_z
      replace hm_z := rn_iload_n (am_cur_of (i := (99, 1, .iload_n 2, (0, 0, 0), 0)) (by decide +kernel)) g2_z hm_z
      replace hm_z := rn_aload_n (am_cur_of (i := (100, 1, .aload_n 0, (0, 0, 0), 0)) (by decide +kernel)) g0_z hm_z
      replace hm_z := rn_getR (x := 173) (am_cur_of (i := (101, 3, .getfield 39, (12, 28, 1412), 0)) (by decide +kernel)) (by decide +kernel) hm_z
      replace hm_z := rn_aload_n (am_cur_of (i := (104, 1, .aload_n 0, (0, 0, 0), 0)) (by decide +kernel)) g0_z hm_z
      replace hm_z := rn_getI (v := rg_v g 164 58) (am_cur_of (i := (105, 3, .getfield 362, (12, 58, 1442), 0)) (by decide +kernel)) (by decide +kernel) rfl hm_z
      replace hm_z := rn_iaload (N := 12) (q := (rg_v g 164 58).toNatClampNeg) (v := rg_v g 173 ((rg_v g 164 58).toNatClampNeg)) (am_cur_of (i := (108, 1, .iaload, (0, 0, 0), 0)) (by decide +kernel)) (by decide +kernel) rfl rfl hm_z
      obtain ⟨p48_z, hm_z⟩ := hm_z
      replace hm_z := rn_isub (w := x - (rg_v g 173 ((rg_v g 164 58).toNatClampNeg))) (am_cur_of (i := (109, 1, .isub, (0, 0, 0), 0)) (by decide +kernel)) rfl hm_z
      replace hm_z := rn_istore_n (am_cur_of (i := (110, 1, .istore_n 2, (0, 0, 0), 0)) (by decide +kernel)) hm_z
      obtain ⟨_, s49_z, s50_z, g2_z, hm_z⟩ := hm_z
      replace g0_z := s49_z 0 _ (by decide) rfl g0_z
      clear s49_z s50_z
      replace hm_z := rn_aload_n (am_cur_of (i := (111, 1, .aload_n 0, (0, 0, 0), 0)) (by decide +kernel)) g0_z hm_z
      replace hm_z := rn_dup (am_cur_of (i := (112, 1, .dup, (0, 0, 0), 0)) (by decide +kernel)) hm_z
      replace hm_z := rn_getI (v := rg_v g 164 58) (am_cur_of (i := (113, 3, .getfield 362, (12, 58, 1442), 0)) (by decide +kernel)) (by decide +kernel) rfl hm_z
      replace hm_z := rn_iconst (w := 1) (am_cur_of (i := (116, 1, .iconst 1, (0, 0, 0), 0)) (by decide +kernel)) (by decide) hm_z
      replace hm_z := rn_iadd (w := (rg_v g 164 58) + 1) (am_cur_of (i := (117, 1, .iadd, (0, 0, 0), 0)) (by decide +kernel)) rfl hm_z
      replace hm_z := rn_put (am_cur_of (i := (118, 3, .putfield 362, (12, 58, 1442), 0)) (by decide +kernel)) (by decide +kernel) hm_z
      replace hm_z := rn_gotoL (am_cur_of (i := (121, 3, .goto (-35), (52, 0, 0), 0)) (by decide +kernel)) hm_z
      exact zM_t (zM_u (by decide) zM_r) (ih_z _ _ _ g0_z g2_z hm_z)
theorem kt_s {r : Option Value} {g' : am_H} : ∀ (f : Nat) (s i : Int32) (ls : am_L) (g : am_H), am_get ls 0 = some (.ref 164) → am_get ls 1 = some (.int s) → am_get ls 2 = some (.int i) → rn f am_m146 32 ls [] g r g' → zM g g' := by
  intro f
  induction f with
  | zero => intro s i ls g g0_z g1_z g2_z hm_z; exact absurd hm_z rn_0
  | succ f ih_z =>
    intro s i ls g g0_z g1_z g2_z hm_z
    replace hm_z := rn_iload_n (am_cur_of (i := (52, 1, .iload_n 2, (0, 0, 0), 0)) (by decide +kernel)) g2_z hm_z
    replace hm_z := rn_aload_n (am_cur_of (i := (53, 1, .aload_n 0, (0, 0, 0), 0)) (by decide +kernel)) g0_z hm_z
    replace hm_z := rn_getI (v := rg_v g 164 14) (am_cur_of (i := (54, 3, .getfield 225, (12, 14, 1398), 0)) (by decide +kernel)) (by decide +kernel) rfl hm_z
    replace hm_z := rn_cmp (am_cur_of (i := (57, 3, .if_icmp .ge 18, (45, 0, 0), 0)) (by decide +kernel)) hm_z
    rcases hm_z with ⟨b51_z, hm_z⟩ | ⟨b51_z, hm_z⟩
    · replace b51_z : (rg_v g 164 14).toInt ≤ i.toInt := b51_z
      replace hm_z := rn_aload_n (am_cur_of (i := (75, 1, .aload_n 0, (0, 0, 0), 0)) (by decide +kernel)) g0_z hm_z
      replace hm_z := rn_iload_n (am_cur_of (i := (76, 1, .iload_n 1, (0, 0, 0), 0)) (by decide +kernel)) g1_z hm_z
      replace hm_z := rn_callV (M' := am_m148) (o := 164) (ar := [.int s]) (rest := []) (L := lv_args 0 [.ref 164, .int s]) (am_cur_of (i := (77, 3, .invokevirtual 365, (148, 1376, 3), 0)) (by decide +kernel)) rfl rfl rfl rfl hm_z
      obtain ⟨r52_z, h53_z, q54_z, hm_z⟩ := hm_z
      obtain ⟨vn, rfl⟩ := rn_ret (M := am_m148) rfl (by decide) q54_z
      have zn := kt_148 q54_z
      replace hm_z : rn _ _ _ _ [.int vn] _ _ _ := hm_z
      replace hm_z := rn_istore_n (am_cur_of (i := (80, 1, .istore_n 2, (0, 0, 0), 0)) (by decide +kernel)) hm_z
      obtain ⟨_, s55_z, s56_z, g2_z, hm_z⟩ := hm_z
      replace g0_z := s55_z 0 _ (by decide) rfl g0_z
      replace g1_z := s55_z 1 _ (by decide) rfl g1_z
      clear s55_z s56_z
      replace hm_z := rn_aload_n (am_cur_of (i := (81, 1, .aload_n 0, (0, 0, 0), 0)) (by decide +kernel)) g0_z hm_z
      replace hm_z := rn_iconst (w := 0) (am_cur_of (i := (82, 1, .iconst 0, (0, 0, 0), 0)) (by decide +kernel)) (by decide) hm_z
      replace hm_z := rn_put (am_cur_of (i := (83, 3, .putfield 362, (12, 58, 1442), 0)) (by decide +kernel)) (by decide +kernel) hm_z
      exact zM_t zn (zM_t (zM_u (by decide) zM_r) (kt_w _ _ _ _ g0_z g2_z hm_z))
    · replace b51_z : i.toInt < (rg_v g 164 14).toInt := b51_z
      replace hm_z := rn_iload_n (am_cur_of (i := (60, 1, .iload_n 1, (0, 0, 0), 0)) (by decide +kernel)) g1_z hm_z
      replace hm_z := rn_aload_n (am_cur_of (i := (61, 1, .aload_n 0, (0, 0, 0), 0)) (by decide +kernel)) g0_z hm_z
      replace hm_z := rn_getR (x := 173) (am_cur_of (i := (62, 3, .getfield 39, (12, 28, 1412), 0)) (by decide +kernel)) (by decide +kernel) hm_z
      replace hm_z := rn_iload_n (am_cur_of (i := (65, 1, .iload_n 2, (0, 0, 0), 0)) (by decide +kernel)) g2_z hm_z
      replace hm_z := rn_iaload (N := 12) (q := i.toNatClampNeg) (v := rg_v g 173 i.toNatClampNeg) (am_cur_of (i := (66, 1, .iaload, (0, 0, 0), 0)) (by decide +kernel)) (by decide +kernel) rfl rfl hm_z
      obtain ⟨p57_z, hm_z⟩ := hm_z
      replace hm_z := rn_iadd (w := s + (rg_v g 173 i.toNatClampNeg)) (am_cur_of (i := (67, 1, .iadd, (0, 0, 0), 0)) (by decide +kernel)) rfl hm_z
      replace hm_z := rn_istore_n (am_cur_of (i := (68, 1, .istore_n 1, (0, 0, 0), 0)) (by decide +kernel)) hm_z
      obtain ⟨_, s58_z, s59_z, g1_z, hm_z⟩ := hm_z
      replace g0_z := s58_z 0 _ (by decide) rfl g0_z
      replace g2_z := s58_z 2 _ (by decide) rfl g2_z
      clear s58_z s59_z
      replace hm_z := rn_iinc (w := i + 1) (am_cur_of (i := (69, 3, .iinc 2 1, (0, 0, 0), 0)) (by decide +kernel)) g2_z rfl hm_z
      obtain ⟨_, s60_z, s61_z, g2_z, hm_z⟩ := hm_z
      replace g0_z := s60_z 0 _ (by decide) rfl g0_z
      replace g1_z := s60_z 1 _ (by decide) rfl g1_z
      clear s60_z s61_z
      replace hm_z := rn_gotoL (am_cur_of (i := (72, 3, .goto (-20), (32, 0, 0), 0)) (by decide +kernel)) hm_z
      exact ih_z _ _ _ _ g0_z g1_z g2_z hm_z
theorem kt_begin {n : Nat} {r : Option Value} {g g' : am_H} (hm_z : rn n am_m146 0 (lv_args 0 [.ref 164]) [] g r g') : zM g g' := by
  have z0_z : (0 : Int32).toInt = 0 := by decide
  have g0_z : am_get (lv_args 0 [.ref 164]) 0 = some (.ref 164) := rfl
  replace hm_z := rn_aload_n (am_cur_of (i := (0, 1, .aload_n 0, (0, 0, 0), 0)) (by decide +kernel)) g0_z hm_z
  replace hm_z := rn_iconst (w := 0) (am_cur_of (i := (1, 1, .iconst 0, (0, 0, 0), 0)) (by decide +kernel)) (by decide) hm_z
  replace hm_z := rn_callV (M' := am_m147) (o := 164) (ar := [.int 0]) (rest := []) (L := lv_args 0 [.ref 164, .int 0]) (am_cur_of (i := (2, 3, .invokevirtual 346, (147, 1372, 3), 0)) (by decide +kernel)) rfl rfl rfl rfl hm_z
  obtain ⟨r62_z, h63_z, q64_z, hm_z⟩ := hm_z
  have vo := rn_void rfl q64_z
  subst vo
  have za := kt_147 q64_z
  replace hm_z : rn _ _ _ _ [] _ _ _ := hm_z
  replace hm_z := rn_aload_n (am_cur_of (i := (5, 1, .aload_n 0, (0, 0, 0), 0)) (by decide +kernel)) g0_z hm_z
  replace hm_z := rn_iconst (w := 0) (am_cur_of (i := (6, 1, .iconst 0, (0, 0, 0), 0)) (by decide +kernel)) (by decide) hm_z
  replace hm_z := rn_put (am_cur_of (i := (7, 3, .putfield 349, (12, 57, 1441), 0)) (by decide +kernel)) (by decide +kernel) hm_z
  replace hm_z := rn_aload_n (am_cur_of (i := (10, 1, .aload_n 0, (0, 0, 0), 0)) (by decide +kernel)) g0_z hm_z
  replace hm_z := rn_iconst (w := 0) (am_cur_of (i := (11, 1, .iconst 0, (0, 0, 0), 0)) (by decide +kernel)) (by decide) hm_z
  replace hm_z := rn_put (am_cur_of (i := (12, 3, .putfield 352, (12, 60, 1444), 0)) (by decide +kernel)) (by decide +kernel) hm_z
  replace hm_z := rn_aload_n (am_cur_of (i := (15, 1, .aload_n 0, (0, 0, 0), 0)) (by decide +kernel)) g0_z hm_z
  replace hm_z := rn_iconst (w := 0) (am_cur_of (i := (16, 1, .iconst 0, (0, 0, 0), 0)) (by decide +kernel)) (by decide) hm_z
  replace hm_z := rn_put (am_cur_of (i := (17, 3, .putfield 355, (12, 61, 1445), 0)) (by decide +kernel)) (by decide +kernel) hm_z
  replace hm_z := rn_aload_n (am_cur_of (i := (20, 1, .aload_n 0, (0, 0, 0), 0)) (by decide +kernel)) g0_z hm_z
  replace hm_z := rn_iconst (w := (-1)) (am_cur_of (i := (21, 1, .iconst (-1), (0, 0, 0), 0)) (by decide +kernel)) (by decide) hm_z
  replace hm_z := rn_put (am_cur_of (i := (22, 3, .putfield 106, (12, 62, 1446), 0)) (by decide +kernel)) (by decide +kernel) hm_z
  replace hm_z := rn_aload_n (am_cur_of (i := (25, 1, .aload_n 0, (0, 0, 0), 0)) (by decide +kernel)) g0_z hm_z
  replace hm_z := rn_aload_n (am_cur_of (i := (26, 1, .aload_n 0, (0, 0, 0), 0)) (by decide +kernel)) g0_z hm_z
  replace hm_z := rn_getR (x := 168) (am_cur_of (i := (27, 3, .getfield 24, (12, 23, 1407), 0)) (by decide +kernel)) (by decide +kernel) hm_z
  replace hm_z := rn_iconst (w := 5) (am_cur_of (i := (30, 1, .iconst 5, (0, 0, 0), 0)) (by decide +kernel)) (by decide) hm_z
  replace hm_z := rn_iaload (N := 12) (q := 5) (v := rg_v h63_z 168 5) (am_cur_of (i := (31, 1, .iaload, (0, 0, 0), 0)) (by decide +kernel)) (by decide +kernel) rfl (show rg_v (am_up (am_up (am_up (am_up h63_z 164 57 (.int 0)) 164 60 (.int 0)) 164 61 (.int 0)) 164 62 (.int (-1))) 168 5 = rg_v h63_z 168 5 from rfl) hm_z
  obtain ⟨p65_z, hm_z⟩ := hm_z
  replace hm_z := rn_i2l (w := (rg_v h63_z 168 5).toInt64) (am_cur_of (i := (32, 1, .i2l, (0, 0, 0), 0)) (by decide +kernel)) rfl hm_z
  replace hm_z := rn_put (am_cur_of (i := (33, 3, .putfield 358, (12, 59, 1443), 0)) (by decide +kernel)) (by decide +kernel) hm_z
  replace hm_z := rn_aload_n (am_cur_of (i := (36, 1, .aload_n 0, (0, 0, 0), 0)) (by decide +kernel)) g0_z hm_z
  replace hm_z := rn_iconst (w := (-1)) (am_cur_of (i := (37, 1, .iconst (-1), (0, 0, 0), 0)) (by decide +kernel)) (by decide) hm_z
  replace hm_z := rn_put (am_cur_of (i := (38, 3, .putfield 362, (12, 58, 1442), 0)) (by decide +kernel)) (by decide +kernel) hm_z
  replace hm_z := rn_aload_n (am_cur_of (i := (41, 1, .aload_n 0, (0, 0, 0), 0)) (by decide +kernel)) g0_z hm_z
  replace hm_z := rn_getI (v := rg_v h63_z 164 14) (am_cur_of (i := (42, 3, .getfield 225, (12, 14, 1398), 0)) (by decide +kernel)) (by decide +kernel) (show rg_v (am_up (am_up (am_up (am_up (am_up (am_up h63_z 164 57 (.int 0)) 164 60 (.int 0)) 164 61 (.int 0)) 164 62 (.int (-1))) 164 59 (.long ((rg_v h63_z 168 5).toInt64))) 164 58 (.int (-1))) 164 14 = rg_v h63_z 164 14 from rfl) hm_z
  replace hm_z := rn_if (am_cur_of (i := (45, 3, .ifCond .le 79, (74, 0, 0), 0)) (by decide +kernel)) hm_z
  rcases hm_z with ⟨b66_z, hm_z⟩ | ⟨b66_z, hm_z⟩
  · replace b66_z : (rg_v h63_z 164 14).toInt ≤ (0 : Int32).toInt := b66_z
    exact zM_t za (zM_t (zM_u (by decide) (zM_u (by decide) (zM_u (by decide) (zM_u (by decide) (zM_u (by decide) (zM_u (by decide) zM_r)))))) (kt_e g0_z hm_z))
  · replace b66_z : (0 : Int32).toInt < (rg_v h63_z 164 14).toInt := b66_z
    replace hm_z := rn_iconst (w := 0) (am_cur_of (i := (48, 1, .iconst 0, (0, 0, 0), 0)) (by decide +kernel)) (by decide) hm_z
    replace hm_z := rn_istore_n (am_cur_of (i := (49, 1, .istore_n 1, (0, 0, 0), 0)) (by decide +kernel)) hm_z
    obtain ⟨_, s67_z, s68_z, g1_z, hm_z⟩ := hm_z
    replace g0_z := s67_z 0 _ (by decide) rfl g0_z
    clear s67_z s68_z
    replace hm_z := rn_iconst (w := 0) (am_cur_of (i := (50, 1, .iconst 0, (0, 0, 0), 0)) (by decide +kernel)) (by decide) hm_z
    replace hm_z := rn_istore_n (am_cur_of (i := (51, 1, .istore_n 2, (0, 0, 0), 0)) (by decide +kernel)) hm_z
    obtain ⟨_, s69_z, s70_z, g2_z, hm_z⟩ := hm_z
    replace g0_z := s69_z 0 _ (by decide) rfl g0_z
    replace g1_z := s69_z 1 _ (by decide) rfl g1_z
    clear s69_z s70_z
    exact zM_t za (zM_t (zM_u (by decide) (zM_u (by decide) (zM_u (by decide) (zM_u (by decide) (zM_u (by decide) (zM_u (by decide) zM_r)))))) (kt_s _ _ _ _ _ g0_z g1_z g2_z hm_z))
theorem kt_keep {n : Nat} {r : Option Value} {g g' : am_H} (hm_z : rn n am_m144 0 (lv_args 0 [.ref 164]) [] g r g') : rg_v g' 164 12 = rg_v g 164 17 ∧ rg_v g' 164 13 = rg_v g 164 18 ∧ rg_v g' 164 14 = rg_v g 164 19 ∧ rg_v g' 164 15 = rg_v g 164 20 ∧ (∀ k, k < 6 → rg_v g' 168 k = rg_v g 168 (6 + k)) ∧ (∀ k, k < 4 → rg_v g' 169 k = rg_v g 169 (4 + k)) ∧ (∀ k, k < 28 → rg_v g' 170 k = rg_v g 170 (28 + k)) ∧ (∀ k, k < 8 → rg_v g' 171 k = rg_v g 171 (8 + k)) ∧ (∀ k, k < 8 → rg_v g' 172 k = rg_v g 172 (8 + k)) ∧ (∀ k, k < 6 → rg_v g' 173 k = rg_v g 173 (6 + k)) ∧ (∀ k, k < 6 → rg_v g' 174 k = rg_v g 174 (6 + k)) ∧ (∀ k, k < 3 → rg_v g' 175 k = rg_v g 175 (3 + k)) ∧ (∀ k, k < 3 → rg_v g' 176 k = rg_v g 176 (3 + k)) ∧ (∀ k, k < 3 → rg_v g' 177 k = rg_v g 177 (3 + k)) := by
  have g0_z : am_get (lv_args 0 [.ref 164]) 0 = some (.ref 164) := rfl
  replace hm_z := rn_aload_n (am_cur_of (i := (0, 1, .aload_n 0, (0, 0, 0), 0)) (by decide +kernel)) g0_z hm_z
  replace hm_z := rn_aload_n (am_cur_of (i := (1, 1, .aload_n 0, (0, 0, 0), 0)) (by decide +kernel)) g0_z hm_z
  replace hm_z := rn_getI (v := rg_v g 164 17) (am_cur_of (i := (2, 3, .getfield 201, (12, 17, 1401), 0)) (by decide +kernel)) (by decide +kernel) rfl hm_z
  replace hm_z := rn_put (am_cur_of (i := (5, 3, .putfield 219, (12, 12, 1396), 0)) (by decide +kernel)) (by decide +kernel) hm_z
  replace hm_z := rn_aload_n (am_cur_of (i := (8, 1, .aload_n 0, (0, 0, 0), 0)) (by decide +kernel)) g0_z hm_z
  replace hm_z := rn_aload_n (am_cur_of (i := (9, 1, .aload_n 0, (0, 0, 0), 0)) (by decide +kernel)) g0_z hm_z
  replace hm_z := rn_getI (v := rg_v g 164 18) (am_cur_of (i := (10, 3, .getfield 204, (12, 18, 1402), 0)) (by decide +kernel)) (by decide +kernel) (show rg_v (am_up g 164 12 (.int (rg_v g 164 17))) 164 18 = rg_v g 164 18 from rfl) hm_z
  replace hm_z := rn_put (am_cur_of (i := (13, 3, .putfield 222, (12, 13, 1397), 0)) (by decide +kernel)) (by decide +kernel) hm_z
  replace hm_z := rn_aload_n (am_cur_of (i := (16, 1, .aload_n 0, (0, 0, 0), 0)) (by decide +kernel)) g0_z hm_z
  replace hm_z := rn_aload_n (am_cur_of (i := (17, 1, .aload_n 0, (0, 0, 0), 0)) (by decide +kernel)) g0_z hm_z
  replace hm_z := rn_getI (v := rg_v g 164 19) (am_cur_of (i := (18, 3, .getfield 207, (12, 19, 1403), 0)) (by decide +kernel)) (by decide +kernel) (show rg_v (am_up (am_up g 164 12 (.int (rg_v g 164 17))) 164 13 (.int (rg_v g 164 18))) 164 19 = rg_v g 164 19 from rfl) hm_z
  replace hm_z := rn_put (am_cur_of (i := (21, 3, .putfield 225, (12, 14, 1398), 0)) (by decide +kernel)) (by decide +kernel) hm_z
  replace hm_z := rn_aload_n (am_cur_of (i := (24, 1, .aload_n 0, (0, 0, 0), 0)) (by decide +kernel)) g0_z hm_z
  replace hm_z := rn_aload_n (am_cur_of (i := (25, 1, .aload_n 0, (0, 0, 0), 0)) (by decide +kernel)) g0_z hm_z
  replace hm_z := rn_getI (v := rg_v g 164 20) (am_cur_of (i := (26, 3, .getfield 210, (12, 20, 1404), 0)) (by decide +kernel)) (by decide +kernel) (show rg_v (am_up (am_up (am_up g 164 12 (.int (rg_v g 164 17))) 164 13 (.int (rg_v g 164 18))) 164 14 (.int (rg_v g 164 19))) 164 20 = rg_v g 164 20 from rfl) hm_z
  replace hm_z := rn_put (am_cur_of (i := (29, 3, .putfield 228, (12, 15, 1399), 0)) (by decide +kernel)) (by decide +kernel) hm_z
  replace hm_z := rn_aload_n (am_cur_of (i := (32, 1, .aload_n 0, (0, 0, 0), 0)) (by decide +kernel)) g0_z hm_z
  replace hm_z := rn_aload_n (am_cur_of (i := (33, 1, .aload_n 0, (0, 0, 0), 0)) (by decide +kernel)) g0_z hm_z
  replace hm_z := rn_getI (v := rg_v g 164 21) (am_cur_of (i := (34, 3, .getfield 213, (12, 21, 1405), 0)) (by decide +kernel)) (by decide +kernel) (show rg_v (am_up (am_up (am_up (am_up g 164 12 (.int (rg_v g 164 17))) 164 13 (.int (rg_v g 164 18))) 164 14 (.int (rg_v g 164 19))) 164 15 (.int (rg_v g 164 20))) 164 21 = rg_v g 164 21 from rfl) hm_z
  replace hm_z := rn_put (am_cur_of (i := (37, 3, .putfield 231, (12, 16, 1400), 0)) (by decide +kernel)) (by decide +kernel) hm_z
  replace hm_z := rn_aload_n (am_cur_of (i := (40, 1, .aload_n 0, (0, 0, 0), 0)) (by decide +kernel)) g0_z hm_z
  replace hm_z := rn_getR (x := 168) (am_cur_of (i := (41, 3, .getfield 24, (12, 23, 1407), 0)) (by decide +kernel)) (by decide +kernel) hm_z
  replace hm_z := rn_bipush (w := 6) (am_cur_of (i := (44, 2, .bipush 6, (0, 0, 0), 0)) (by decide +kernel)) (by decide) hm_z
  replace hm_z := rn_callS (M' := am_m145) (ar := [.int 6, .ref 168]) (rest := []) (L := lv_args 0 [.ref 168, .int 6]) (am_cur_of (i := (46, 3, .invokestatic 234, (145, 1365, 3), 0)) (by decide +kernel)) rfl rfl rfl rfl hm_z
  obtain ⟨r71_z, h72_z, q73_z, hm_z⟩ := hm_z
  have vo := rn_void rfl q73_z
  subst vo
  obtain ⟨o1_z, c1_z⟩ := cp_z (N := 12) (by decide +kernel) (by decide) (by decide) q73_z
  replace hm_z : rn _ _ _ _ [] _ _ _ := hm_z
  replace hm_z := rn_aload_n (am_cur_of (i := (49, 1, .aload_n 0, (0, 0, 0), 0)) (by decide +kernel)) g0_z hm_z
  replace hm_z := rn_getR (x := 169) (am_cur_of (i := (50, 3, .getfield 27, (12, 24, 1408), 0)) (by decide +kernel)) (by decide +kernel) hm_z
  replace hm_z := rn_iconst (w := 4) (am_cur_of (i := (53, 1, .iconst 4, (0, 0, 0), 0)) (by decide +kernel)) (by decide) hm_z
  replace hm_z := rn_callS (M' := am_m145) (ar := [.int 4, .ref 169]) (rest := []) (L := lv_args 0 [.ref 169, .int 4]) (am_cur_of (i := (54, 3, .invokestatic 234, (145, 1365, 3), 0)) (by decide +kernel)) rfl rfl rfl rfl hm_z
  obtain ⟨r74_z, h75_z, q76_z, hm_z⟩ := hm_z
  have vo := rn_void rfl q76_z
  subst vo
  obtain ⟨o2_z, c2_z⟩ := cp_z (N := 8) (by decide +kernel) (by decide) (by decide) q76_z
  replace hm_z : rn _ _ _ _ [] _ _ _ := hm_z
  replace hm_z := rn_aload_n (am_cur_of (i := (57, 1, .aload_n 0, (0, 0, 0), 0)) (by decide +kernel)) g0_z hm_z
  replace hm_z := rn_getR (x := 170) (am_cur_of (i := (58, 3, .getfield 30, (12, 25, 1409), 0)) (by decide +kernel)) (by decide +kernel) hm_z
  replace hm_z := rn_bipush (w := 28) (am_cur_of (i := (61, 2, .bipush 28, (0, 0, 0), 0)) (by decide +kernel)) (by decide) hm_z
  replace hm_z := rn_callS (M' := am_m145) (ar := [.int 28, .ref 170]) (rest := []) (L := lv_args 0 [.ref 170, .int 28]) (am_cur_of (i := (63, 3, .invokestatic 234, (145, 1365, 3), 0)) (by decide +kernel)) rfl rfl rfl rfl hm_z
  obtain ⟨r77_z, h78_z, q79_z, hm_z⟩ := hm_z
  have vo := rn_void rfl q79_z
  subst vo
  obtain ⟨o3_z, c3_z⟩ := cp_z (N := 56) (by decide +kernel) (by decide) (by decide) q79_z
  replace hm_z : rn _ _ _ _ [] _ _ _ := hm_z
  replace hm_z := rn_aload_n (am_cur_of (i := (66, 1, .aload_n 0, (0, 0, 0), 0)) (by decide +kernel)) g0_z hm_z
  replace hm_z := rn_getR (x := 171) (am_cur_of (i := (67, 3, .getfield 33, (12, 26, 1410), 0)) (by decide +kernel)) (by decide +kernel) hm_z
  replace hm_z := rn_bipush (w := 8) (am_cur_of (i := (70, 2, .bipush 8, (0, 0, 0), 0)) (by decide +kernel)) (by decide) hm_z
  replace hm_z := rn_callS (M' := am_m145) (ar := [.int 8, .ref 171]) (rest := []) (L := lv_args 0 [.ref 171, .int 8]) (am_cur_of (i := (72, 3, .invokestatic 234, (145, 1365, 3), 0)) (by decide +kernel)) rfl rfl rfl rfl hm_z
  obtain ⟨r80_z, h81_z, q82_z, hm_z⟩ := hm_z
  have vo := rn_void rfl q82_z
  subst vo
  obtain ⟨o4_z, c4_z⟩ := cp_z (N := 16) (by decide +kernel) (by decide) (by decide) q82_z
  replace hm_z : rn _ _ _ _ [] _ _ _ := hm_z
  replace hm_z := rn_aload_n (am_cur_of (i := (75, 1, .aload_n 0, (0, 0, 0), 0)) (by decide +kernel)) g0_z hm_z
  replace hm_z := rn_getR (x := 172) (am_cur_of (i := (76, 3, .getfield 36, (12, 27, 1411), 0)) (by decide +kernel)) (by decide +kernel) hm_z
  replace hm_z := rn_bipush (w := 8) (am_cur_of (i := (79, 2, .bipush 8, (0, 0, 0), 0)) (by decide +kernel)) (by decide) hm_z
  replace hm_z := rn_callS (M' := am_m145) (ar := [.int 8, .ref 172]) (rest := []) (L := lv_args 0 [.ref 172, .int 8]) (am_cur_of (i := (81, 3, .invokestatic 234, (145, 1365, 3), 0)) (by decide +kernel)) rfl rfl rfl rfl hm_z
  obtain ⟨r83_z, h84_z, q85_z, hm_z⟩ := hm_z
  have vo := rn_void rfl q85_z
  subst vo
  obtain ⟨o5_z, c5_z⟩ := cp_z (N := 16) (by decide +kernel) (by decide) (by decide) q85_z
  replace hm_z : rn _ _ _ _ [] _ _ _ := hm_z
  replace hm_z := rn_aload_n (am_cur_of (i := (84, 1, .aload_n 0, (0, 0, 0), 0)) (by decide +kernel)) g0_z hm_z
  replace hm_z := rn_getR (x := 173) (am_cur_of (i := (85, 3, .getfield 39, (12, 28, 1412), 0)) (by decide +kernel)) (by decide +kernel) hm_z
  replace hm_z := rn_bipush (w := 6) (am_cur_of (i := (88, 2, .bipush 6, (0, 0, 0), 0)) (by decide +kernel)) (by decide) hm_z
  replace hm_z := rn_callS (M' := am_m145) (ar := [.int 6, .ref 173]) (rest := []) (L := lv_args 0 [.ref 173, .int 6]) (am_cur_of (i := (90, 3, .invokestatic 234, (145, 1365, 3), 0)) (by decide +kernel)) rfl rfl rfl rfl hm_z
  obtain ⟨r86_z, h87_z, q88_z, hm_z⟩ := hm_z
  have vo := rn_void rfl q88_z
  subst vo
  obtain ⟨o6_z, c6_z⟩ := cp_z (N := 12) (by decide +kernel) (by decide) (by decide) q88_z
  replace hm_z : rn _ _ _ _ [] _ _ _ := hm_z
  replace hm_z := rn_aload_n (am_cur_of (i := (93, 1, .aload_n 0, (0, 0, 0), 0)) (by decide +kernel)) g0_z hm_z
  replace hm_z := rn_getR (x := 174) (am_cur_of (i := (94, 3, .getfield 42, (12, 29, 1413), 0)) (by decide +kernel)) (by decide +kernel) hm_z
  replace hm_z := rn_bipush (w := 6) (am_cur_of (i := (97, 2, .bipush 6, (0, 0, 0), 0)) (by decide +kernel)) (by decide) hm_z
  replace hm_z := rn_callS (M' := am_m145) (ar := [.int 6, .ref 174]) (rest := []) (L := lv_args 0 [.ref 174, .int 6]) (am_cur_of (i := (99, 3, .invokestatic 234, (145, 1365, 3), 0)) (by decide +kernel)) rfl rfl rfl rfl hm_z
  obtain ⟨r89_z, h90_z, q91_z, hm_z⟩ := hm_z
  have vo := rn_void rfl q91_z
  subst vo
  obtain ⟨o7_z, c7_z⟩ := cp_z (N := 12) (by decide +kernel) (by decide) (by decide) q91_z
  replace hm_z : rn _ _ _ _ [] _ _ _ := hm_z
  replace hm_z := rn_aload_n (am_cur_of (i := (102, 1, .aload_n 0, (0, 0, 0), 0)) (by decide +kernel)) g0_z hm_z
  replace hm_z := rn_getR (x := 175) (am_cur_of (i := (103, 3, .getfield 45, (12, 30, 1414), 0)) (by decide +kernel)) (by decide +kernel) hm_z
  replace hm_z := rn_iconst (w := 3) (am_cur_of (i := (106, 1, .iconst 3, (0, 0, 0), 0)) (by decide +kernel)) (by decide) hm_z
  replace hm_z := rn_callS (M' := am_m145) (ar := [.int 3, .ref 175]) (rest := []) (L := lv_args 0 [.ref 175, .int 3]) (am_cur_of (i := (107, 3, .invokestatic 234, (145, 1365, 3), 0)) (by decide +kernel)) rfl rfl rfl rfl hm_z
  obtain ⟨r92_z, h93_z, q94_z, hm_z⟩ := hm_z
  have vo := rn_void rfl q94_z
  subst vo
  obtain ⟨o8_z, c8_z⟩ := cp_z (N := 6) (by decide +kernel) (by decide) (by decide) q94_z
  replace hm_z : rn _ _ _ _ [] _ _ _ := hm_z
  replace hm_z := rn_aload_n (am_cur_of (i := (110, 1, .aload_n 0, (0, 0, 0), 0)) (by decide +kernel)) g0_z hm_z
  replace hm_z := rn_getR (x := 176) (am_cur_of (i := (111, 3, .getfield 48, (12, 31, 1415), 0)) (by decide +kernel)) (by decide +kernel) hm_z
  replace hm_z := rn_iconst (w := 3) (am_cur_of (i := (114, 1, .iconst 3, (0, 0, 0), 0)) (by decide +kernel)) (by decide) hm_z
  replace hm_z := rn_callS (M' := am_m145) (ar := [.int 3, .ref 176]) (rest := []) (L := lv_args 0 [.ref 176, .int 3]) (am_cur_of (i := (115, 3, .invokestatic 234, (145, 1365, 3), 0)) (by decide +kernel)) rfl rfl rfl rfl hm_z
  obtain ⟨r95_z, h96_z, q97_z, hm_z⟩ := hm_z
  have vo := rn_void rfl q97_z
  subst vo
  obtain ⟨o9_z, c9_z⟩ := cp_z (N := 6) (by decide +kernel) (by decide) (by decide) q97_z
  replace hm_z : rn _ _ _ _ [] _ _ _ := hm_z
  replace hm_z := rn_aload_n (am_cur_of (i := (118, 1, .aload_n 0, (0, 0, 0), 0)) (by decide +kernel)) g0_z hm_z
  replace hm_z := rn_getR (x := 177) (am_cur_of (i := (119, 3, .getfield 51, (12, 32, 1416), 0)) (by decide +kernel)) (by decide +kernel) hm_z
  replace hm_z := rn_iconst (w := 3) (am_cur_of (i := (122, 1, .iconst 3, (0, 0, 0), 0)) (by decide +kernel)) (by decide) hm_z
  replace hm_z := rn_callS (M' := am_m145) (ar := [.int 3, .ref 177]) (rest := []) (L := lv_args 0 [.ref 177, .int 3]) (am_cur_of (i := (123, 3, .invokestatic 234, (145, 1365, 3), 0)) (by decide +kernel)) rfl rfl rfl rfl hm_z
  obtain ⟨r98_z, h99_z, q100_z, hm_z⟩ := hm_z
  have vo := rn_void rfl q100_z
  subst vo
  obtain ⟨o10_z, c10_z⟩ := cp_z (N := 6) (by decide +kernel) (by decide) (by decide) q100_z
  replace hm_z : rn _ _ _ _ [] _ _ _ := hm_z
  replace hm_z := rn_iconst (w := 0) (am_cur_of (i := (126, 1, .iconst 0, (0, 0, 0), 0)) (by decide +kernel)) (by decide) hm_z
  replace hm_z := rn_istore_n (am_cur_of (i := (127, 1, .istore_n 1, (0, 0, 0), 0)) (by decide +kernel)) hm_z
  obtain ⟨_, s101_z, s102_z, g1_z, hm_z⟩ := hm_z
  replace g0_z := s101_z 0 _ (by decide) rfl g0_z
  clear s101_z s102_z
  replace hm_z := rn_iload_n (am_cur_of (i := (128, 1, .iload_n 1, (0, 0, 0), 0)) (by decide +kernel)) g1_z hm_z
  replace hm_z := rn_iconst (w := 3) (am_cur_of (i := (129, 1, .iconst 3, (0, 0, 0), 0)) (by decide +kernel)) (by decide) hm_z
  replace hm_z := rn_cmpF (am_cur_of (i := (130, 3, .if_icmp .ge 23, (77, 0, 0), 0)) (by decide +kernel)) (by decide) hm_z
  replace hm_z := rn_aload_n (am_cur_of (i := (133, 1, .aload_n 0, (0, 0, 0), 0)) (by decide +kernel)) g0_z hm_z
  replace hm_z := rn_getR (x := 178) (am_cur_of (i := (134, 3, .getfield 54, (12, 33, 1417), 0)) (by decide +kernel)) (by decide +kernel) hm_z
  replace hm_z := rn_iload_n (am_cur_of (i := (137, 1, .iload_n 1, (0, 0, 0), 0)) (by decide +kernel)) g1_z hm_z
  replace hm_z := rn_aload_n (am_cur_of (i := (138, 1, .aload_n 0, (0, 0, 0), 0)) (by decide +kernel)) g0_z hm_z
  replace hm_z := rn_getR (x := 178) (am_cur_of (i := (139, 3, .getfield 54, (12, 33, 1417), 0)) (by decide +kernel)) (by decide +kernel) hm_z
  replace hm_z := rn_iconst (w := 3) (am_cur_of (i := (142, 1, .iconst 3, (0, 0, 0), 0)) (by decide +kernel)) (by decide) hm_z
  replace hm_z := rn_iload_n (am_cur_of (i := (143, 1, .iload_n 1, (0, 0, 0), 0)) (by decide +kernel)) g1_z hm_z
  replace hm_z := rn_iadd (w := 3) (am_cur_of (i := (144, 1, .iadd, (0, 0, 0), 0)) (by decide +kernel)) (by decide) hm_z
  replace hm_z := rn_baload (N := 6) (q := 3) (v := rg_v h99_z 178 3) (am_cur_of (i := (145, 1, .baload, (0, 0, 0), 0)) (by decide +kernel)) (by decide +kernel) rfl rfl hm_z
  obtain ⟨p103_z, hm_z⟩ := hm_z
  replace hm_z := rn_bastore (N := 6) (q := 0) (am_cur_of (i := (146, 1, .bastore, (0, 0, 0), 0)) (by decide +kernel)) (by decide +kernel) rfl hm_z
  obtain ⟨p104_z, hm_z⟩ := hm_z
  replace hm_z := rn_iinc (w := 1) (am_cur_of (i := (147, 3, .iinc 1 1, (0, 0, 0), 0)) (by decide +kernel)) g1_z (by decide) hm_z
  obtain ⟨_, s105_z, s106_z, g1_z, hm_z⟩ := hm_z
  replace g0_z := s105_z 0 _ (by decide) rfl g0_z
  clear s105_z s106_z
  replace hm_z := rn_goto (am_cur_of (i := (150, 3, .goto (-22), (62, 0, 0), 0)) (by decide +kernel)) hm_z
  replace hm_z := rn_iload_n (am_cur_of (i := (128, 1, .iload_n 1, (0, 0, 0), 0)) (by decide +kernel)) g1_z hm_z
  replace hm_z := rn_iconst (w := 3) (am_cur_of (i := (129, 1, .iconst 3, (0, 0, 0), 0)) (by decide +kernel)) (by decide) hm_z
  replace hm_z := rn_cmpF (am_cur_of (i := (130, 3, .if_icmp .ge 23, (77, 0, 0), 0)) (by decide +kernel)) (by decide) hm_z
  replace hm_z := rn_aload_n (am_cur_of (i := (133, 1, .aload_n 0, (0, 0, 0), 0)) (by decide +kernel)) g0_z hm_z
  replace hm_z := rn_getR (x := 178) (am_cur_of (i := (134, 3, .getfield 54, (12, 33, 1417), 0)) (by decide +kernel)) (by decide +kernel) hm_z
  replace hm_z := rn_iload_n (am_cur_of (i := (137, 1, .iload_n 1, (0, 0, 0), 0)) (by decide +kernel)) g1_z hm_z
  replace hm_z := rn_aload_n (am_cur_of (i := (138, 1, .aload_n 0, (0, 0, 0), 0)) (by decide +kernel)) g0_z hm_z
  replace hm_z := rn_getR (x := 178) (am_cur_of (i := (139, 3, .getfield 54, (12, 33, 1417), 0)) (by decide +kernel)) (by decide +kernel) hm_z
  replace hm_z := rn_iconst (w := 3) (am_cur_of (i := (142, 1, .iconst 3, (0, 0, 0), 0)) (by decide +kernel)) (by decide) hm_z
  replace hm_z := rn_iload_n (am_cur_of (i := (143, 1, .iload_n 1, (0, 0, 0), 0)) (by decide +kernel)) g1_z hm_z
  replace hm_z := rn_iadd (w := 4) (am_cur_of (i := (144, 1, .iadd, (0, 0, 0), 0)) (by decide +kernel)) (by decide) hm_z
  replace hm_z := rn_baload (N := 6) (q := 4) (v := rg_v h99_z 178 4) (am_cur_of (i := (145, 1, .baload, (0, 0, 0), 0)) (by decide +kernel)) (by decide +kernel) rfl (show rg_v (am_up h99_z 178 0 (.int (rg_v h99_z 178 3))) 178 4 = rg_v h99_z 178 4 from rfl) hm_z
  obtain ⟨p107_z, hm_z⟩ := hm_z
  replace hm_z := rn_bastore (N := 6) (q := 1) (am_cur_of (i := (146, 1, .bastore, (0, 0, 0), 0)) (by decide +kernel)) (by decide +kernel) rfl hm_z
  obtain ⟨p108_z, hm_z⟩ := hm_z
  replace hm_z := rn_iinc (w := 2) (am_cur_of (i := (147, 3, .iinc 1 1, (0, 0, 0), 0)) (by decide +kernel)) g1_z (by decide) hm_z
  obtain ⟨_, s109_z, s110_z, g1_z, hm_z⟩ := hm_z
  replace g0_z := s109_z 0 _ (by decide) rfl g0_z
  clear s109_z s110_z
  replace hm_z := rn_goto (am_cur_of (i := (150, 3, .goto (-22), (62, 0, 0), 0)) (by decide +kernel)) hm_z
  replace hm_z := rn_iload_n (am_cur_of (i := (128, 1, .iload_n 1, (0, 0, 0), 0)) (by decide +kernel)) g1_z hm_z
  replace hm_z := rn_iconst (w := 3) (am_cur_of (i := (129, 1, .iconst 3, (0, 0, 0), 0)) (by decide +kernel)) (by decide) hm_z
  replace hm_z := rn_cmpF (am_cur_of (i := (130, 3, .if_icmp .ge 23, (77, 0, 0), 0)) (by decide +kernel)) (by decide) hm_z
  replace hm_z := rn_aload_n (am_cur_of (i := (133, 1, .aload_n 0, (0, 0, 0), 0)) (by decide +kernel)) g0_z hm_z
  replace hm_z := rn_getR (x := 178) (am_cur_of (i := (134, 3, .getfield 54, (12, 33, 1417), 0)) (by decide +kernel)) (by decide +kernel) hm_z
  replace hm_z := rn_iload_n (am_cur_of (i := (137, 1, .iload_n 1, (0, 0, 0), 0)) (by decide +kernel)) g1_z hm_z
  replace hm_z := rn_aload_n (am_cur_of (i := (138, 1, .aload_n 0, (0, 0, 0), 0)) (by decide +kernel)) g0_z hm_z
  replace hm_z := rn_getR (x := 178) (am_cur_of (i := (139, 3, .getfield 54, (12, 33, 1417), 0)) (by decide +kernel)) (by decide +kernel) hm_z
  replace hm_z := rn_iconst (w := 3) (am_cur_of (i := (142, 1, .iconst 3, (0, 0, 0), 0)) (by decide +kernel)) (by decide) hm_z
  replace hm_z := rn_iload_n (am_cur_of (i := (143, 1, .iload_n 1, (0, 0, 0), 0)) (by decide +kernel)) g1_z hm_z
  replace hm_z := rn_iadd (w := 5) (am_cur_of (i := (144, 1, .iadd, (0, 0, 0), 0)) (by decide +kernel)) (by decide) hm_z
  replace hm_z := rn_baload (N := 6) (q := 5) (v := rg_v h99_z 178 5) (am_cur_of (i := (145, 1, .baload, (0, 0, 0), 0)) (by decide +kernel)) (by decide +kernel) rfl (show rg_v (am_up (am_up h99_z 178 0 (.int (rg_v h99_z 178 3))) 178 1 (.int (rg_v h99_z 178 4))) 178 5 = rg_v h99_z 178 5 from rfl) hm_z
  obtain ⟨p111_z, hm_z⟩ := hm_z
  replace hm_z := rn_bastore (N := 6) (q := 2) (am_cur_of (i := (146, 1, .bastore, (0, 0, 0), 0)) (by decide +kernel)) (by decide +kernel) rfl hm_z
  obtain ⟨p112_z, hm_z⟩ := hm_z
  replace hm_z := rn_iinc (w := 3) (am_cur_of (i := (147, 3, .iinc 1 1, (0, 0, 0), 0)) (by decide +kernel)) g1_z (by decide) hm_z
  obtain ⟨_, s113_z, s114_z, g1_z, hm_z⟩ := hm_z
  replace g0_z := s113_z 0 _ (by decide) rfl g0_z
  clear s113_z s114_z
  replace hm_z := rn_goto (am_cur_of (i := (150, 3, .goto (-22), (62, 0, 0), 0)) (by decide +kernel)) hm_z
  replace hm_z := rn_iload_n (am_cur_of (i := (128, 1, .iload_n 1, (0, 0, 0), 0)) (by decide +kernel)) g1_z hm_z
  replace hm_z := rn_iconst (w := 3) (am_cur_of (i := (129, 1, .iconst 3, (0, 0, 0), 0)) (by decide +kernel)) (by decide) hm_z
  replace hm_z := rn_cmpT (am_cur_of (i := (130, 3, .if_icmp .ge 23, (77, 0, 0), 0)) (by decide +kernel)) (by decide) hm_z
  replace hm_z := rn_aload_n (am_cur_of (i := (153, 1, .aload_n 0, (0, 0, 0), 0)) (by decide +kernel)) g0_z hm_z
  replace hm_z := rn_getR (x := 179) (am_cur_of (i := (154, 3, .getfield 57, (12, 34, 1418), 0)) (by decide +kernel)) (by decide +kernel) hm_z
  replace hm_z := rn_iconst (w := 3) (am_cur_of (i := (157, 1, .iconst 3, (0, 0, 0), 0)) (by decide +kernel)) (by decide) hm_z
  replace hm_z := rn_callS (M' := am_m145) (ar := [.int 3, .ref 179]) (rest := []) (L := lv_args 0 [.ref 179, .int 3]) (am_cur_of (i := (158, 3, .invokestatic 234, (145, 1365, 3), 0)) (by decide +kernel)) rfl rfl rfl rfl hm_z
  obtain ⟨r115_z, h116_z, q117_z, hm_z⟩ := hm_z
  have vo := rn_void rfl q117_z
  subst vo
  obtain ⟨o11_z, c11_z⟩ := cp_z (N := 6) (by decide +kernel) (by decide) (by decide) q117_z
  replace hm_z : rn _ _ _ _ [] _ _ _ := hm_z
  replace hm_z := rn_aload_n (am_cur_of (i := (161, 1, .aload_n 0, (0, 0, 0), 0)) (by decide +kernel)) g0_z hm_z
  replace hm_z := rn_getR (x := 180) (am_cur_of (i := (162, 3, .getfield 60, (12, 35, 1419), 0)) (by decide +kernel)) (by decide +kernel) hm_z
  replace hm_z := rn_iconst (w := 3) (am_cur_of (i := (165, 1, .iconst 3, (0, 0, 0), 0)) (by decide +kernel)) (by decide) hm_z
  replace hm_z := rn_callS (M' := am_m145) (ar := [.int 3, .ref 180]) (rest := []) (L := lv_args 0 [.ref 180, .int 3]) (am_cur_of (i := (166, 3, .invokestatic 234, (145, 1365, 3), 0)) (by decide +kernel)) rfl rfl rfl rfl hm_z
  obtain ⟨r118_z, h119_z, q120_z, hm_z⟩ := hm_z
  have vo := rn_void rfl q120_z
  subst vo
  obtain ⟨o12_z, c12_z⟩ := cp_z (N := 6) (by decide +kernel) (by decide) (by decide) q120_z
  replace hm_z : rn _ _ _ _ [] _ _ _ := hm_z
  replace hm_z := rn_aload_n (am_cur_of (i := (169, 1, .aload_n 0, (0, 0, 0), 0)) (by decide +kernel)) g0_z hm_z
  replace hm_z := rn_getR (x := 181) (am_cur_of (i := (170, 3, .getfield 63, (12, 36, 1420), 0)) (by decide +kernel)) (by decide +kernel) hm_z
  replace hm_z := rn_bipush (w := 64) (am_cur_of (i := (173, 2, .bipush 64, (0, 0, 0), 0)) (by decide +kernel)) (by decide) hm_z
  replace hm_z := rn_callS (M' := am_m145) (ar := [.int 64, .ref 181]) (rest := []) (L := lv_args 0 [.ref 181, .int 64]) (am_cur_of (i := (175, 3, .invokestatic 234, (145, 1365, 3), 0)) (by decide +kernel)) rfl rfl rfl rfl hm_z
  obtain ⟨r121_z, h122_z, q123_z, hm_z⟩ := hm_z
  have vo := rn_void rfl q123_z
  subst vo
  obtain ⟨o13_z, c13_z⟩ := cp_z (N := 128) (by decide +kernel) (by decide) (by decide) q123_z
  replace hm_z : rn _ _ _ _ [] _ _ _ := hm_z
  replace hm_z := rn_aload_n (am_cur_of (i := (178, 1, .aload_n 0, (0, 0, 0), 0)) (by decide +kernel)) g0_z hm_z
  replace hm_z := rn_getR (x := 182) (am_cur_of (i := (179, 3, .getfield 66, (12, 37, 1421), 0)) (by decide +kernel)) (by decide +kernel) hm_z
  replace hm_z := rn_bipush (w := 64) (am_cur_of (i := (182, 2, .bipush 64, (0, 0, 0), 0)) (by decide +kernel)) (by decide) hm_z
  replace hm_z := rn_callS (M' := am_m145) (ar := [.int 64, .ref 182]) (rest := []) (L := lv_args 0 [.ref 182, .int 64]) (am_cur_of (i := (184, 3, .invokestatic 234, (145, 1365, 3), 0)) (by decide +kernel)) rfl rfl rfl rfl hm_z
  obtain ⟨r124_z, h125_z, q126_z, hm_z⟩ := hm_z
  have vo := rn_void rfl q126_z
  subst vo
  obtain ⟨o14_z, c14_z⟩ := cp_z (N := 128) (by decide +kernel) (by decide) (by decide) q126_z
  replace hm_z : rn _ _ _ _ [] _ _ _ := hm_z
  replace hm_z := rn_aload_n (am_cur_of (i := (187, 1, .aload_n 0, (0, 0, 0), 0)) (by decide +kernel)) g0_z hm_z
  replace hm_z := rn_getR (x := 183) (am_cur_of (i := (188, 3, .getfield 69, (12, 38, 1422), 0)) (by decide +kernel)) (by decide +kernel) hm_z
  replace hm_z := rn_bipush (w := 64) (am_cur_of (i := (191, 2, .bipush 64, (0, 0, 0), 0)) (by decide +kernel)) (by decide) hm_z
  replace hm_z := rn_callS (M' := am_m145) (ar := [.int 64, .ref 183]) (rest := []) (L := lv_args 0 [.ref 183, .int 64]) (am_cur_of (i := (193, 3, .invokestatic 234, (145, 1365, 3), 0)) (by decide +kernel)) rfl rfl rfl rfl hm_z
  obtain ⟨r127_z, h128_z, q129_z, hm_z⟩ := hm_z
  have vo := rn_void rfl q129_z
  subst vo
  obtain ⟨o15_z, c15_z⟩ := cp_z (N := 128) (by decide +kernel) (by decide) (by decide) q129_z
  replace hm_z : rn _ _ _ _ [] _ _ _ := hm_z
  replace hm_z := rn_aload_n (am_cur_of (i := (196, 1, .aload_n 0, (0, 0, 0), 0)) (by decide +kernel)) g0_z hm_z
  replace hm_z := rn_callV (M' := am_m146) (o := 164) (ar := []) (rest := []) (L := lv_args 0 [.ref 164]) (am_cur_of (i := (197, 3, .invokevirtual 238, (146, 1368, 3), 0)) (by decide +kernel)) rfl rfl rfl rfl hm_z
  obtain ⟨r130_z, h131_z, q132_z, hm_z⟩ := hm_z
  have vo := rn_void rfl q132_z
  subst vo
  have zb := kt_begin q132_z
  replace hm_z : rn _ _ _ _ [] _ _ _ := hm_z
  replace hm_z := rn_vret (am_cur_of (i := (200, 1, .return_, (0, 0, 0), 0)) (by decide +kernel)) hm_z
  obtain ⟨e133_z, e134_z⟩ := hm_z
  replace e134_z := e134_z.symm
  subst e134_z
  refine ⟨((zb 164 12 (by decide))).trans (((o15_z 164 12 (by decide))).trans (((o14_z 164 12 (by decide))).trans (((o13_z 164 12 (by decide))).trans (((o12_z 164 12 (by decide))).trans (((o11_z 164 12 (by decide))).trans (((o10_z 164 12 (by decide))).trans (((o9_z 164 12 (by decide))).trans (((o8_z 164 12 (by decide))).trans (((o7_z 164 12 (by decide))).trans (((o6_z 164 12 (by decide))).trans (((o5_z 164 12 (by decide))).trans (((o4_z 164 12 (by decide))).trans (((o3_z 164 12 (by decide))).trans (((o2_z 164 12 (by decide))).trans ((o1_z 164 12 (by decide)).trans rfl))))))))))))))), ((zb 164 13 (by decide))).trans (((o15_z 164 13 (by decide))).trans (((o14_z 164 13 (by decide))).trans (((o13_z 164 13 (by decide))).trans (((o12_z 164 13 (by decide))).trans (((o11_z 164 13 (by decide))).trans (((o10_z 164 13 (by decide))).trans (((o9_z 164 13 (by decide))).trans (((o8_z 164 13 (by decide))).trans (((o7_z 164 13 (by decide))).trans (((o6_z 164 13 (by decide))).trans (((o5_z 164 13 (by decide))).trans (((o4_z 164 13 (by decide))).trans (((o3_z 164 13 (by decide))).trans (((o2_z 164 13 (by decide))).trans ((o1_z 164 13 (by decide)).trans rfl))))))))))))))), ((zb 164 14 (by decide))).trans (((o15_z 164 14 (by decide))).trans (((o14_z 164 14 (by decide))).trans (((o13_z 164 14 (by decide))).trans (((o12_z 164 14 (by decide))).trans (((o11_z 164 14 (by decide))).trans (((o10_z 164 14 (by decide))).trans (((o9_z 164 14 (by decide))).trans (((o8_z 164 14 (by decide))).trans (((o7_z 164 14 (by decide))).trans (((o6_z 164 14 (by decide))).trans (((o5_z 164 14 (by decide))).trans (((o4_z 164 14 (by decide))).trans (((o3_z 164 14 (by decide))).trans (((o2_z 164 14 (by decide))).trans ((o1_z 164 14 (by decide)).trans rfl))))))))))))))), ((zb 164 15 (by decide))).trans (((o15_z 164 15 (by decide))).trans (((o14_z 164 15 (by decide))).trans (((o13_z 164 15 (by decide))).trans (((o12_z 164 15 (by decide))).trans (((o11_z 164 15 (by decide))).trans (((o10_z 164 15 (by decide))).trans (((o9_z 164 15 (by decide))).trans (((o8_z 164 15 (by decide))).trans (((o7_z 164 15 (by decide))).trans (((o6_z 164 15 (by decide))).trans (((o5_z 164 15 (by decide))).trans (((o4_z 164 15 (by decide))).trans (((o3_z 164 15 (by decide))).trans (((o2_z 164 15 (by decide))).trans ((o1_z 164 15 (by decide)).trans rfl))))))))))))))), ?_⟩
  refine ⟨?_, ?_, ?_, ?_, ?_, ?_, ?_, ?_, ?_, ?_⟩
  · intro k hk_z
    exact (zb 168 k (zmB_lt (n := 6) rfl hk_z)).trans ((o15_z 168 k (by decide)).trans ((o14_z 168 k (by decide)).trans ((o13_z 168 k (by decide)).trans ((o12_z 168 k (by decide)).trans ((o11_z 168 k (by decide)).trans ((o10_z 168 k (by decide)).trans ((o9_z 168 k (by decide)).trans ((o8_z 168 k (by decide)).trans ((o7_z 168 k (by decide)).trans ((o6_z 168 k (by decide)).trans ((o5_z 168 k (by decide)).trans ((o4_z 168 k (by decide)).trans ((o3_z 168 k (by decide)).trans ((o2_z 168 k (by decide)).trans ((c1_z k (by rw [show (6 : Int32).toInt = 6 by decide]; omega)).trans rfl)))))))))))))))
  · intro k hk_z
    exact (zb 169 k (zmB_lt (n := 4) rfl hk_z)).trans ((o15_z 169 k (by decide)).trans ((o14_z 169 k (by decide)).trans ((o13_z 169 k (by decide)).trans ((o12_z 169 k (by decide)).trans ((o11_z 169 k (by decide)).trans ((o10_z 169 k (by decide)).trans ((o9_z 169 k (by decide)).trans ((o8_z 169 k (by decide)).trans ((o7_z 169 k (by decide)).trans ((o6_z 169 k (by decide)).trans ((o5_z 169 k (by decide)).trans ((o4_z 169 k (by decide)).trans ((o3_z 169 k (by decide)).trans ((c2_z k (by rw [show (4 : Int32).toInt = 4 by decide]; omega)).trans ((o1_z 169 (4 + k) (by decide)).trans rfl)))))))))))))))
  · intro k hk_z
    exact (zb 170 k (zmB_lt (n := 28) rfl hk_z)).trans ((o15_z 170 k (by decide)).trans ((o14_z 170 k (by decide)).trans ((o13_z 170 k (by decide)).trans ((o12_z 170 k (by decide)).trans ((o11_z 170 k (by decide)).trans ((o10_z 170 k (by decide)).trans ((o9_z 170 k (by decide)).trans ((o8_z 170 k (by decide)).trans ((o7_z 170 k (by decide)).trans ((o6_z 170 k (by decide)).trans ((o5_z 170 k (by decide)).trans ((o4_z 170 k (by decide)).trans ((c3_z k (by rw [show (28 : Int32).toInt = 28 by decide]; omega)).trans ((o2_z 170 (28 + k) (by decide)).trans ((o1_z 170 (28 + k) (by decide)).trans rfl)))))))))))))))
  · intro k hk_z
    exact (zb 171 k (zmB_lt (n := 8) rfl hk_z)).trans ((o15_z 171 k (by decide)).trans ((o14_z 171 k (by decide)).trans ((o13_z 171 k (by decide)).trans ((o12_z 171 k (by decide)).trans ((o11_z 171 k (by decide)).trans ((o10_z 171 k (by decide)).trans ((o9_z 171 k (by decide)).trans ((o8_z 171 k (by decide)).trans ((o7_z 171 k (by decide)).trans ((o6_z 171 k (by decide)).trans ((o5_z 171 k (by decide)).trans ((c4_z k (by rw [show (8 : Int32).toInt = 8 by decide]; omega)).trans ((o3_z 171 (8 + k) (by decide)).trans ((o2_z 171 (8 + k) (by decide)).trans ((o1_z 171 (8 + k) (by decide)).trans rfl)))))))))))))))
  · intro k hk_z
    exact (zb 172 k (zmB_lt (n := 8) rfl hk_z)).trans ((o15_z 172 k (by decide)).trans ((o14_z 172 k (by decide)).trans ((o13_z 172 k (by decide)).trans ((o12_z 172 k (by decide)).trans ((o11_z 172 k (by decide)).trans ((o10_z 172 k (by decide)).trans ((o9_z 172 k (by decide)).trans ((o8_z 172 k (by decide)).trans ((o7_z 172 k (by decide)).trans ((o6_z 172 k (by decide)).trans ((c5_z k (by rw [show (8 : Int32).toInt = 8 by decide]; omega)).trans ((o4_z 172 (8 + k) (by decide)).trans ((o3_z 172 (8 + k) (by decide)).trans ((o2_z 172 (8 + k) (by decide)).trans ((o1_z 172 (8 + k) (by decide)).trans rfl)))))))))))))))
  · intro k hk_z
    exact (zb 173 k (zmB_lt (n := 6) rfl hk_z)).trans ((o15_z 173 k (by decide)).trans ((o14_z 173 k (by decide)).trans ((o13_z 173 k (by decide)).trans ((o12_z 173 k (by decide)).trans ((o11_z 173 k (by decide)).trans ((o10_z 173 k (by decide)).trans ((o9_z 173 k (by decide)).trans ((o8_z 173 k (by decide)).trans ((o7_z 173 k (by decide)).trans ((c6_z k (by rw [show (6 : Int32).toInt = 6 by decide]; omega)).trans ((o5_z 173 (6 + k) (by decide)).trans ((o4_z 173 (6 + k) (by decide)).trans ((o3_z 173 (6 + k) (by decide)).trans ((o2_z 173 (6 + k) (by decide)).trans ((o1_z 173 (6 + k) (by decide)).trans rfl)))))))))))))))
  · intro k hk_z
    exact (zb 174 k (zmB_lt (n := 6) rfl hk_z)).trans ((o15_z 174 k (by decide)).trans ((o14_z 174 k (by decide)).trans ((o13_z 174 k (by decide)).trans ((o12_z 174 k (by decide)).trans ((o11_z 174 k (by decide)).trans ((o10_z 174 k (by decide)).trans ((o9_z 174 k (by decide)).trans ((o8_z 174 k (by decide)).trans ((c7_z k (by rw [show (6 : Int32).toInt = 6 by decide]; omega)).trans ((o6_z 174 (6 + k) (by decide)).trans ((o5_z 174 (6 + k) (by decide)).trans ((o4_z 174 (6 + k) (by decide)).trans ((o3_z 174 (6 + k) (by decide)).trans ((o2_z 174 (6 + k) (by decide)).trans ((o1_z 174 (6 + k) (by decide)).trans rfl)))))))))))))))
  · intro k hk_z
    exact (zb 175 k (zmB_lt (n := 3) rfl hk_z)).trans ((o15_z 175 k (by decide)).trans ((o14_z 175 k (by decide)).trans ((o13_z 175 k (by decide)).trans ((o12_z 175 k (by decide)).trans ((o11_z 175 k (by decide)).trans ((o10_z 175 k (by decide)).trans ((o9_z 175 k (by decide)).trans ((c8_z k (by rw [show (3 : Int32).toInt = 3 by decide]; omega)).trans ((o7_z 175 (3 + k) (by decide)).trans ((o6_z 175 (3 + k) (by decide)).trans ((o5_z 175 (3 + k) (by decide)).trans ((o4_z 175 (3 + k) (by decide)).trans ((o3_z 175 (3 + k) (by decide)).trans ((o2_z 175 (3 + k) (by decide)).trans ((o1_z 175 (3 + k) (by decide)).trans rfl)))))))))))))))
  · intro k hk_z
    exact (zb 176 k (zmB_lt (n := 3) rfl hk_z)).trans ((o15_z 176 k (by decide)).trans ((o14_z 176 k (by decide)).trans ((o13_z 176 k (by decide)).trans ((o12_z 176 k (by decide)).trans ((o11_z 176 k (by decide)).trans ((o10_z 176 k (by decide)).trans ((c9_z k (by rw [show (3 : Int32).toInt = 3 by decide]; omega)).trans ((o8_z 176 (3 + k) (by decide)).trans ((o7_z 176 (3 + k) (by decide)).trans ((o6_z 176 (3 + k) (by decide)).trans ((o5_z 176 (3 + k) (by decide)).trans ((o4_z 176 (3 + k) (by decide)).trans ((o3_z 176 (3 + k) (by decide)).trans ((o2_z 176 (3 + k) (by decide)).trans ((o1_z 176 (3 + k) (by decide)).trans rfl)))))))))))))))
  · intro k hk_z
    exact (zb 177 k (zmB_lt (n := 3) rfl hk_z)).trans ((o15_z 177 k (by decide)).trans ((o14_z 177 k (by decide)).trans ((o13_z 177 k (by decide)).trans ((o12_z 177 k (by decide)).trans ((o11_z 177 k (by decide)).trans ((c10_z k (by rw [show (3 : Int32).toInt = 3 by decide]; omega)).trans ((o9_z 177 (3 + k) (by decide)).trans ((o8_z 177 (3 + k) (by decide)).trans ((o7_z 177 (3 + k) (by decide)).trans ((o6_z 177 (3 + k) (by decide)).trans ((o5_z 177 (3 + k) (by decide)).trans ((o4_z 177 (3 + k) (by decide)).trans ((o3_z 177 (3 + k) (by decide)).trans ((o2_z 177 (3 + k) (by decide)).trans ((o1_z 177 (3 + k) (by decide)).trans rfl)))))))))))))))
theorem kt_rK {n d : Nat} {r : Option Value} {h g g' : am_H} (A : rp d h g) (hm_z : rn n am_m144 0 (lv_args 0 [.ref 164]) [] g r g') : rK d h g' := by
  obtain ⟨f1_z, f2_z, f3_z, f4_z, r0_z, r1_z, r2_z, r3_z, r4_z, r5_z, r6_z, r7_z, r8_z, r9_z⟩ := kt_keep hm_z
  obtain ⟨⟨a1_z, a2_z, a3_z, a4_z, a5_z, a6_z⟩, ⟨n1_z, n2_z, n3_z⟩, ⟨t1_z, t2_z, t3_z⟩, ⟨l1_z, l2_z, l3_z⟩, ⟨q1_z, q2_z, q3_z⟩, -, ⟨C0, C1, C2, C3⟩, D, E, G⟩ := A
  have hC : ∀ b, b ≤ 3 → rp_C d h g b → rK_C d h g' b := by
    intro b hb_z C hb2_z k hk_z
    have := C hb2_z k hk_z
    unfold rp_bm at this
    unfold rK_bm
    rw [r1_z b (by omega), r2_z _ (by omega)]
    rw [this]
    split
    · rfl
    · rw [show 28 + 7 * b + (k - 1) = 28 + (7 * b + (k - 1)) by omega]
  exact ⟨⟨a1_z.trans (r0_z 0 (by decide)).symm, a2_z.trans (r0_z 1 (by decide)).symm, a3_z.trans (r0_z 2 (by decide)).symm, a4_z.trans (r0_z 3 (by decide)).symm, a5_z.trans (r0_z 4 (by decide)).symm, a6_z.1.trans (r0_z 5 (by decide)).symm⟩, ⟨n1_z.trans f1_z.symm, n2_z, n3_z⟩, ⟨t1_z.trans f2_z.symm, t2_z, t3_z⟩, ⟨l1_z.trans f3_z.symm, l2_z, l3_z⟩, ⟨q1_z.trans f4_z.symm, q2_z, q3_z⟩, ⟨hC 0 (by decide) C0, hC 1 (by decide) C1, hC 2 (by decide) C2, hC 3 (by decide) C3⟩, fun t ht => ⟨(D t ht).1.trans (r3_z t (by omega)).symm, (D t ht).2.trans (r4_z t (by omega)).symm⟩, fun t ht => ⟨(E t ht).1.trans (r5_z t (by omega)).symm, (E t ht).2.trans (r6_z t (by omega)).symm⟩, fun t ht => ⟨(G t ht).1.trans (r7_z t (by omega)).symm, (G t ht).2.1.trans (r8_z t (by omega)).symm, (G t ht).2.2.trans (r9_z t (by omega)).symm⟩⟩
