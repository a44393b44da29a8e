theorem fk_214 {nst : Nat} {r : Option Value} {g g' : am_H}  (T : tkm g) (hm_z : rn nst am_m214 0 (lv_args 0 [.ref 164]) [] g r g') : bk g g' := by
  have g0_z : am_get (lv_args 0 [.ref 164]) 0 = some (.ref 164) := rfl
  replace hm_z := rn_aload_n (am_cur_of (i := (0, 1, .aload_n 0, (0, 0, 0), 0)) (by decide +kernel)) g0_z hm_z
  replace hm_z := rn_iconst (w := 1) (am_cur_of (i := (1, 1, .iconst 1, (0, 0, 0), 0)) (by decide +kernel)) (by decide) hm_z
  replace hm_z := rn_iconst (w := 0) (am_cur_of (i := (2, 1, .iconst 0, (0, 0, 0), 0)) (by decide +kernel)) (by decide) hm_z
  replace hm_z := rn_callV (M' := am_m197) (o := 164) (ar := [.int 0, .int 1]) (rest := []) (L := lv_args 0 [.ref 164, .int 1, .int 0]) (am_cur_of (i := (3, 3, .invokevirtual 428, (197, 1820, 3), 0)) (by decide +kernel)) rfl rfl rfl rfl hm_z
  obtain ⟨r989_z, h990_z, q991_z, hm_z⟩ := hm_z
  have k992_z := fk_197_1_0 q991_z
  have vo := rn_void rfl q991_z
  subst vo
  replace hm_z : rn _ _ _ _ [] _ _ _ := hm_z
  replace hm_z := rn_aload_n (am_cur_of (i := (6, 1, .aload_n 0, (0, 0, 0), 0)) (by decide +kernel)) g0_z hm_z
  replace hm_z := rn_aload_n (am_cur_of (i := (7, 1, .aload_n 0, (0, 0, 0), 0)) (by decide +kernel)) g0_z hm_z
  replace hm_z := rn_getR (x := 189) (am_cur_of (i := (8, 3, .getfield 88, (12, 51, 1435), 0)) (by decide +kernel)) (by decide +kernel) hm_z
  replace hm_z := rn_iconst (w := 0) (am_cur_of (i := (11, 1, .iconst 0, (0, 0, 0), 0)) (by decide +kernel)) (by decide) hm_z
  replace hm_z := rn_iaload (N := 4) (q := 0) (v := rg_v h990_z 189 0) (am_cur_of (i := (12, 1, .iaload, (0, 0, 0), 0)) (by decide +kernel)) (by decide +kernel) rfl rfl hm_z
  obtain ⟨p993_z, hm_z⟩ := hm_z
  replace hm_z := rn_put (am_cur_of (i := (13, 3, .putfield 447, (12, 63, 1447), 0)) (by decide +kernel)) (by decide +kernel) hm_z
  replace hm_z := rn_aload_n (am_cur_of (i := (16, 1, .aload_n 0, (0, 0, 0), 0)) (by decide +kernel)) g0_z hm_z
  replace hm_z := rn_aload_n (am_cur_of (i := (17, 1, .aload_n 0, (0, 0, 0), 0)) (by decide +kernel)) g0_z hm_z
  replace hm_z := rn_getR (x := 188) (am_cur_of (i := (18, 3, .getfield 85, (12, 50, 1434), 0)) (by decide +kernel)) (by decide +kernel) hm_z
  replace hm_z := rn_iconst (w := 1) (am_cur_of (i := (21, 1, .iconst 1, (0, 0, 0), 0)) (by decide +kernel)) (by decide) hm_z
  replace hm_z := rn_iaload (N := 4) (q := 1) (v := rg_v h990_z 188 1) (am_cur_of (i := (22, 1, .iaload, (0, 0, 0), 0)) (by decide +kernel)) (by decide +kernel) rfl (show rg_v (am_up h990_z 164 63 (.int (rg_v h990_z 189 0))) 188 1 = rg_v h990_z 188 1 from rfl) hm_z
  obtain ⟨p994_z, hm_z⟩ := hm_z
  replace hm_z := rn_put (am_cur_of (i := (23, 3, .putfield 454, (12, 64, 1448), 0)) (by decide +kernel)) (by decide +kernel) hm_z
  replace hm_z := rn_aload_n (am_cur_of (i := (26, 1, .aload_n 0, (0, 0, 0), 0)) (by decide +kernel)) g0_z hm_z
  replace hm_z := rn_iconst (w := 0) (am_cur_of (i := (27, 1, .iconst 0, (0, 0, 0), 0)) (by decide +kernel)) (by decide) hm_z
  replace hm_z := rn_put (am_cur_of (i := (28, 3, .putfield 457, (12, 65, 1449), 0)) (by decide +kernel)) (by decide +kernel) hm_z
  replace hm_z := rn_aload_n (am_cur_of (i := (31, 1, .aload_n 0, (0, 0, 0), 0)) (by decide +kernel)) g0_z hm_z
  replace hm_z := rn_getR (x := 188) (am_cur_of (i := (32, 3, .getfield 85, (12, 50, 1434), 0)) (by decide +kernel)) (by decide +kernel) hm_z
  replace hm_z := rn_iconst (w := 1) (am_cur_of (i := (35, 1, .iconst 1, (0, 0, 0), 0)) (by decide +kernel)) (by decide) hm_z
  replace hm_z := rn_iaload (N := 4) (q := 1) (v := rg_v h990_z 188 1) (am_cur_of (i := (36, 1, .iaload, (0, 0, 0), 0)) (by decide +kernel)) (by decide +kernel) rfl (show rg_v (am_up (am_up (am_up h990_z 164 63 (.int (rg_v h990_z 189 0))) 164 64 (.int (rg_v h990_z 188 1))) 164 65 (.int 0)) 188 1 = rg_v h990_z 188 1 from rfl) hm_z
  obtain ⟨p995_z, hm_z⟩ := hm_z
  replace hm_z := rn_aload_n (am_cur_of (i := (37, 1, .aload_n 0, (0, 0, 0), 0)) (by decide +kernel)) g0_z hm_z
  replace hm_z := rn_getR (x := 168) (am_cur_of (i := (38, 3, .getfield 24, (12, 23, 1407), 0)) (by decide +kernel)) (by decide +kernel) hm_z
  replace hm_z := rn_iconst (w := 0) (am_cur_of (i := (41, 1, .iconst 0, (0, 0, 0), 0)) (by decide +kernel)) (by decide) hm_z
  replace hm_z := rn_iaload (N := 12) (q := 0) (v := rg_v h990_z 168 0) (am_cur_of (i := (42, 1, .iaload, (0, 0, 0), 0)) (by decide +kernel)) (by decide +kernel) rfl (show rg_v (am_up (am_up (am_up h990_z 164 63 (.int (rg_v h990_z 189 0))) 164 64 (.int (rg_v h990_z 188 1))) 164 65 (.int 0)) 168 0 = rg_v h990_z 168 0 from rfl) hm_z
  obtain ⟨p996_z, hm_z⟩ := hm_z
  replace hm_z := rn_cmp (am_cur_of (i := (43, 3, .if_icmp .ge 7, (30, 0, 0), 0)) (by decide +kernel)) hm_z
  rcases hm_z with ⟨b997_z, hm_z⟩ | ⟨b997_z, hm_z⟩
  · replace b997_z : (rg_v h990_z 168 0).toInt ≤ (rg_v h990_z 188 1).toInt := b997_z
    replace hm_z := rn_iconst (w := 0) (am_cur_of (i := (50, 1, .iconst 0, (0, 0, 0), 0)) (by decide +kernel)) (by decide) hm_z
    replace hm_z := rn_istore_n (am_cur_of (i := (51, 1, .istore_n 1, (0, 0, 0), 0)) (by decide +kernel)) hm_z
    obtain ⟨_, s998_z, s999_z, g1_z, hm_z⟩ := hm_z
    replace g0_z := s998_z 0 _ (by decide) rfl g0_z
    clear s998_z s999_z
    replace hm_z := rn_iconst (w := 0) (am_cur_of (i := (52, 1, .iconst 0, (0, 0, 0), 0)) (by decide +kernel)) (by decide) hm_z
    replace hm_z := rn_istore_n (am_cur_of (i := (53, 1, .istore_n 2, (0, 0, 0), 0)) (by decide +kernel)) hm_z
    obtain ⟨_, s1000_z, s1001_z, g2_z, hm_z⟩ := hm_z
    replace g0_z := s1000_z 0 _ (by decide) rfl g0_z
    replace g1_z := s1000_z 1 _ (by decide) rfl g1_z
    clear s1000_z s1001_z
    replace hm_z := rn_iconst (w := 0) (am_cur_of (i := (54, 1, .iconst 0, (0, 0, 0), 0)) (by decide +kernel)) (by decide) hm_z
    replace hm_z := rn_istore_n (am_cur_of (i := (55, 1, .istore_n 3, (0, 0, 0), 0)) (by decide +kernel)) hm_z
    obtain ⟨_, s1002_z, s1003_z, g3_z, hm_z⟩ := hm_z
    replace g0_z := s1002_z 0 _ (by decide) rfl g0_z
    replace g1_z := s1002_z 1 _ (by decide) rfl g1_z
    replace g2_z := s1002_z 2 _ (by decide) rfl g2_z
    clear s1002_z s1003_z
    have H36 := (fk_214_L (r := r) (g' := g')  nst)
    exact bk_t (bk_u (by decide) (bk_u (by decide) (bk_u (by decide) (bk_t bk_r k992_z)))) (H36 0 0 0 _ _ g0_z g1_z g2_z g3_z (tkm_b (bk_u (by decide) (bk_u (by decide) (bk_u (by decide) (bk_t bk_r k992_z)))) T) hm_z)
  · replace b997_z : (rg_v h990_z 188 1).toInt < (rg_v h990_z 168 0).toInt := b997_z
    replace hm_z := rn_iconst (w := 1) (am_cur_of (i := (46, 1, .iconst 1, (0, 0, 0), 0)) (by decide +kernel)) (by decide) hm_z
    replace hm_z := rn_goto (am_cur_of (i := (47, 3, .goto 4, (31, 0, 0), 0)) (by decide +kernel)) hm_z
    replace hm_z := rn_istore_n (am_cur_of (i := (51, 1, .istore_n 1, (0, 0, 0), 0)) (by decide +kernel)) hm_z
    obtain ⟨_, s1004_z, s1005_z, g1_z, hm_z⟩ := hm_z
    replace g0_z := s1004_z 0 _ (by decide) rfl g0_z
    clear s1004_z s1005_z
    replace hm_z := rn_iconst (w := 0) (am_cur_of (i := (52, 1, .iconst 0, (0, 0, 0), 0)) (by decide +kernel)) (by decide) hm_z
    replace hm_z := rn_istore_n (am_cur_of (i := (53, 1, .istore_n 2, (0, 0, 0), 0)) (by decide +kernel)) hm_z
    obtain ⟨_, s1006_z, s1007_z, g2_z, hm_z⟩ := hm_z
    replace g0_z := s1006_z 0 _ (by decide) rfl g0_z
    replace g1_z := s1006_z 1 _ (by decide) rfl g1_z
    clear s1006_z s1007_z
    replace hm_z := rn_iconst (w := 0) (am_cur_of (i := (54, 1, .iconst 0, (0, 0, 0), 0)) (by decide +kernel)) (by decide) hm_z
    replace hm_z := rn_istore_n (am_cur_of (i := (55, 1, .istore_n 3, (0, 0, 0), 0)) (by decide +kernel)) hm_z
    obtain ⟨_, s1008_z, s1009_z, g3_z, hm_z⟩ := hm_z
    replace g0_z := s1008_z 0 _ (by decide) rfl g0_z
    replace g1_z := s1008_z 1 _ (by decide) rfl g1_z
    replace g2_z := s1008_z 2 _ (by decide) rfl g2_z
    clear s1008_z s1009_z
    have H36 := (fk_214_L (r := r) (g' := g')  nst)
    exact bk_t (bk_u (by decide) (bk_u (by decide) (bk_u (by decide) (bk_t bk_r k992_z)))) (H36 1 0 0 _ _ g0_z g1_z g2_z g3_z (tkm_b (bk_u (by decide) (bk_u (by decide) (bk_u (by decide) (bk_t bk_r k992_z)))) T) hm_z)
theorem fk_213_L {r : Option Value} {g' : am_H} {w : Int32}  : ∀ f : Nat, (∀ (ls : am_L) (g : am_H), tkm g → rn f am_m213 11 ls [] g r g' → bk g g') := by
  intro f
  induction f with
  | zero =>
    exact (fun _ _ _ hm_z => absurd hm_z rn_0)
  | succ f ih_z =>
    have I11 := ih_z
    have H11 : ∀ (ls : am_L) (g : am_H), tkm g → rn (f + 1) am_m213 11 ls [] g r g' → bk g g' := by
      intro ls g T hm_z
      replace hm_z := rn_iconst (w := (-1)) (am_cur_of (i := (21, 1, .iconst (-1), (0, 0, 0), 0)) (by decide +kernel)) (by decide) hm_z
      replace hm_z := rn_iret (am_cur_of (i := (22, 1, .ireturn, (0, 0, 0), 0)) (by decide +kernel)) hm_z
      obtain ⟨e1010_z, e1011_z⟩ := hm_z
      rw [e1011_z]
      exact bk_r
    exact H11
theorem fk_213 {nst : Nat} {r : Option Value} {g g' : am_H} {w : Int32}  (T : tkm g) (hm_z : rn nst am_m213 0 (lv_args 0 [.ref 164, .int w]) [] g r g') : bk g g' := by
  have z0_z : (0 : Int32).toInt = 0 := by decide
  have z1_z : (1 : Int32).toInt = 1 := by decide
  have z2_z : (2 : Int32).toInt = 2 := by decide
  have g0_z : am_get (lv_args 0 [.ref 164, .int w]) 0 = some (.ref 164) := rfl
  have g1_z : am_get (lv_args 0 [.ref 164, .int w]) 1 = some (.int w) := rfl
  replace hm_z := rn_aload_n (am_cur_of (i := (0, 1, .aload_n 0, (0, 0, 0), 0)) (by decide +kernel)) g0_z hm_z
  replace hm_z := rn_iconst (w := 0) (am_cur_of (i := (1, 1, .iconst 0, (0, 0, 0), 0)) (by decide +kernel)) (by decide) hm_z
  replace hm_z := rn_put (am_cur_of (i := (2, 3, .putfield 139, (12, 2, 1386), 0)) (by decide +kernel)) (by decide +kernel) hm_z
  replace hm_z := rn_aload_n (am_cur_of (i := (5, 1, .aload_n 0, (0, 0, 0), 0)) (by decide +kernel)) g0_z hm_z
  replace hm_z := rn_getI (v := rg_v g 164 13) (am_cur_of (i := (6, 3, .getfield 222, (12, 13, 1397), 0)) (by decide +kernel)) (by decide +kernel) (show rg_v (am_up g 164 2 (.int 0)) 164 13 = rg_v g 164 13 from rfl) hm_z
  replace hm_z := rn_if (am_cur_of (i := (9, 3, .ifCond .eq 12, (11, 0, 0), 0)) (by decide +kernel)) hm_z
  rcases hm_z with ⟨b1012_z, hm_z⟩ | ⟨b1012_z, hm_z⟩
  · replace b1012_z : (rg_v g 164 13) = (0 : Int32) ∧ (rg_v g 164 13).toInt = (0 : Int32).toInt := b1012_z
    have H11 := (fk_213_L (r := r) (g' := g') (w := w)  nst)
    exact bk_t (bk_u (by decide) bk_r) (H11 _ _ (tkm_b (bk_u (by decide) bk_r) T) hm_z)
  · replace b1012_z : ¬ (rg_v g 164 13) = (0 : Int32) ∧ ¬ (rg_v g 164 13).toInt = (0 : Int32).toInt := b1012_z
    replace hm_z := rn_iload_n (am_cur_of (i := (12, 1, .iload_n 1, (0, 0, 0), 0)) (by decide +kernel)) g1_z hm_z
    replace hm_z := rn_iconst (w := 0) (am_cur_of (i := (13, 1, .iconst 0, (0, 0, 0), 0)) (by decide +kernel)) (by decide) hm_z
    replace hm_z := rn_iconst (w := 3) (am_cur_of (i := (14, 1, .iconst 3, (0, 0, 0), 0)) (by decide +kernel)) (by decide) hm_z
    replace hm_z := rn_callS (M' := am_m162) (ar := [.int 3, .int 0, .int w]) (rest := []) (L := lv_args 0 [.int w, .int 0, .int 3]) (am_cur_of (i := (15, 3, .invokestatic 184, (162, 1681, 3), 0)) (by decide +kernel)) rfl rfl rfl rfl hm_z
    obtain ⟨r1013_z, h1014_z, q1015_z, hm_z⟩ := hm_z
    have k1016_z := nq_162 q1015_z
    obtain ⟨v1017_z, rfl⟩ := rn_ret (M := am_m162) rfl (by decide) q1015_z
    replace hm_z : rn _ _ _ _ [.int v1017_z] _ _ _ := hm_z
    replace hm_z := rn_if (am_cur_of (i := (18, 3, .ifCond .ne 5, (13, 0, 0), 0)) (by decide +kernel)) hm_z
    rcases hm_z with ⟨b1018_z, hm_z⟩ | ⟨b1018_z, hm_z⟩
    · replace b1018_z : ¬ v1017_z = (0 : Int32) ∧ ¬ v1017_z.toInt = (0 : Int32).toInt := b1018_z
      replace hm_z := rn_aload_n (am_cur_of (i := (23, 1, .aload_n 0, (0, 0, 0), 0)) (by decide +kernel)) g0_z hm_z
      replace hm_z := rn_callV (M' := am_m214) (o := 164) (ar := []) (rest := []) (L := lv_args 0 [.ref 164]) (am_cur_of (i := (24, 3, .invokevirtual 464, (214, 1887, 3), 0)) (by decide +kernel)) rfl rfl rfl rfl hm_z
      obtain ⟨r1019_z, h1020_z, q1021_z, hm_z⟩ := hm_z
      have k1022_z := fk_214 (tkm_b (bk_t (bk_u (by decide) bk_r) (bk_n k1016_z)) T) q1021_z
      obtain ⟨v1023_z, rfl⟩ := rn_ret (M := am_m214) rfl (by decide) q1021_z
      replace hm_z : rn _ _ _ _ [.int v1023_z] _ _ _ := hm_z
      replace hm_z := rn_istore_n (am_cur_of (i := (27, 1, .istore_n 2, (0, 0, 0), 0)) (by decide +kernel)) hm_z
      obtain ⟨_, s1024_z, s1025_z, g2_z, hm_z⟩ := hm_z
      replace g0_z := s1024_z 0 _ (by decide) rfl g0_z
      replace g1_z := s1024_z 1 _ (by decide) rfl g1_z
      clear s1024_z s1025_z
      replace hm_z := rn_iload_n (am_cur_of (i := (28, 1, .iload_n 1, (0, 0, 0), 0)) (by decide +kernel)) g1_z hm_z
      replace hm_z := rn_if (am_cur_of (i := (29, 3, .ifCond .ne 15, (24, 0, 0), 0)) (by decide +kernel)) hm_z
      rcases hm_z with ⟨b1026_z, hm_z⟩ | ⟨b1026_z, hm_z⟩
      · replace b1026_z : ¬ w = (0 : Int32) ∧ ¬ w.toInt = (0 : Int32).toInt := b1026_z
        replace hm_z := rn_iload_n (am_cur_of (i := (44, 1, .iload_n 1, (0, 0, 0), 0)) (by decide +kernel)) g1_z hm_z
        replace hm_z := rn_iconst (w := 1) (am_cur_of (i := (45, 1, .iconst 1, (0, 0, 0), 0)) (by decide +kernel)) (by decide) hm_z
        replace hm_z := rn_cmp (am_cur_of (i := (46, 3, .if_icmp .ne 25, (39, 0, 0), 0)) (by decide +kernel)) hm_z
        rcases hm_z with ⟨b1027_z, hm_z⟩ | ⟨b1027_z, hm_z⟩
        · replace b1027_z : ¬ w = (1 : Int32) ∧ ¬ w.toInt = (1 : Int32).toInt := b1027_z
          replace hm_z := rn_iload_n (am_cur_of (i := (71, 1, .iload_n 1, (0, 0, 0), 0)) (by decide +kernel)) g1_z hm_z
          replace hm_z := rn_iconst (w := 2) (am_cur_of (i := (72, 1, .iconst 2, (0, 0, 0), 0)) (by decide +kernel)) (by decide) hm_z
          replace hm_z := rn_cmp (am_cur_of (i := (73, 3, .if_icmp .ne 10, (45, 0, 0), 0)) (by decide +kernel)) hm_z
          rcases hm_z with ⟨b1028_z, hm_z⟩ | ⟨b1028_z, hm_z⟩
          · replace b1028_z : ¬ w = (2 : Int32) ∧ ¬ w.toInt = (2 : Int32).toInt := b1028_z
            replace hm_z := rn_aload_n (am_cur_of (i := (83, 1, .aload_n 0, (0, 0, 0), 0)) (by decide +kernel)) g0_z hm_z
            replace hm_z := rn_getI (v := rg_v h1020_z 164 65) (am_cur_of (i := (84, 3, .getfield 457, (12, 65, 1449), 0)) (by decide +kernel)) (by decide +kernel) rfl hm_z
            replace hm_z := rn_iret (am_cur_of (i := (87, 1, .ireturn, (0, 0, 0), 0)) (by decide +kernel)) hm_z
            obtain ⟨e1029_z, e1030_z⟩ := hm_z
            rw [e1030_z]
            exact (bk_t (bk_t (bk_u (by decide) bk_r) (bk_n k1016_z)) k1022_z)
          · replace b1028_z : w = (2 : Int32) ∧ w.toInt = (2 : Int32).toInt := b1028_z
            replace hm_z := rn_aload_n (am_cur_of (i := (76, 1, .aload_n 0, (0, 0, 0), 0)) (by decide +kernel)) g0_z hm_z
            replace hm_z := rn_getI (v := rg_v h1020_z 164 64) (am_cur_of (i := (77, 3, .getfield 454, (12, 64, 1448), 0)) (by decide +kernel)) (by decide +kernel) rfl hm_z
            replace hm_z := rn_goto (am_cur_of (i := (80, 3, .goto 7, (47, 0, 0), 0)) (by decide +kernel)) hm_z
            replace hm_z := rn_iret (am_cur_of (i := (87, 1, .ireturn, (0, 0, 0), 0)) (by decide +kernel)) hm_z
            obtain ⟨e1031_z, e1032_z⟩ := hm_z
            rw [e1032_z]
            exact (bk_t (bk_t (bk_u (by decide) bk_r) (bk_n k1016_z)) k1022_z)
        · replace b1027_z : w = (1 : Int32) ∧ w.toInt = (1 : Int32).toInt := b1027_z
          replace hm_z := rn_iload_n (am_cur_of (i := (49, 1, .iload_n 2, (0, 0, 0), 0)) (by decide +kernel)) g2_z hm_z
          replace hm_z := rn_if (am_cur_of (i := (50, 3, .ifCond .eq 17, (37, 0, 0), 0)) (by decide +kernel)) hm_z
          rcases hm_z with ⟨b1033_z, hm_z⟩ | ⟨b1033_z, hm_z⟩
          · replace b1033_z : v1023_z = (0 : Int32) ∧ v1023_z.toInt = (0 : Int32).toInt := b1033_z
            replace hm_z := rn_iconst (w := (-1)) (am_cur_of (i := (67, 1, .iconst (-1), (0, 0, 0), 0)) (by decide +kernel)) (by decide) hm_z
            replace hm_z := rn_goto (am_cur_of (i := (68, 3, .goto 19, (47, 0, 0), 0)) (by decide +kernel)) hm_z
            replace hm_z := rn_iret (am_cur_of (i := (87, 1, .ireturn, (0, 0, 0), 0)) (by decide +kernel)) hm_z
            obtain ⟨e1034_z, e1035_z⟩ := hm_z
            rw [e1035_z]
            exact (bk_t (bk_t (bk_u (by decide) bk_r) (bk_n k1016_z)) k1022_z)
          · replace b1033_z : ¬ v1023_z = (0 : Int32) ∧ ¬ v1023_z.toInt = (0 : Int32).toInt := b1033_z
            replace hm_z := rn_aload_n (am_cur_of (i := (53, 1, .aload_n 0, (0, 0, 0), 0)) (by decide +kernel)) g0_z hm_z
            replace hm_z := rn_getR (x := 189) (am_cur_of (i := (54, 3, .getfield 88, (12, 51, 1435), 0)) (by decide +kernel)) (by decide +kernel) hm_z
            replace hm_z := rn_iconst (w := 1) (am_cur_of (i := (57, 1, .iconst 1, (0, 0, 0), 0)) (by decide +kernel)) (by decide) hm_z
            replace hm_z := rn_iaload (N := 4) (q := 1) (v := rg_v h1020_z 189 1) (am_cur_of (i := (58, 1, .iaload, (0, 0, 0), 0)) (by decide +kernel)) (by decide +kernel) rfl rfl hm_z
            obtain ⟨p1036_z, hm_z⟩ := hm_z
            replace hm_z := rn_aload_n (am_cur_of (i := (59, 1, .aload_n 0, (0, 0, 0), 0)) (by decide +kernel)) g0_z hm_z
            replace hm_z := rn_getI (v := rg_v h1020_z 164 63) (am_cur_of (i := (60, 3, .getfield 447, (12, 63, 1447), 0)) (by decide +kernel)) (by decide +kernel) rfl hm_z
            replace hm_z := rn_isub (w := (rg_v h1020_z 189 1) - (rg_v h1020_z 164 63)) (am_cur_of (i := (63, 1, .isub, (0, 0, 0), 0)) (by decide +kernel)) rfl hm_z
            replace hm_z := rn_goto (am_cur_of (i := (64, 3, .goto 23, (47, 0, 0), 0)) (by decide +kernel)) hm_z
            replace hm_z := rn_iret (am_cur_of (i := (87, 1, .ireturn, (0, 0, 0), 0)) (by decide +kernel)) hm_z
            obtain ⟨e1037_z, e1038_z⟩ := hm_z
            rw [e1038_z]
            exact (bk_t (bk_t (bk_u (by decide) bk_r) (bk_n k1016_z)) k1022_z)
      · replace b1026_z : w = (0 : Int32) ∧ w.toInt = (0 : Int32).toInt := b1026_z
        replace hm_z := rn_iload_n (am_cur_of (i := (32, 1, .iload_n 2, (0, 0, 0), 0)) (by decide +kernel)) g2_z hm_z
        replace hm_z := rn_if (am_cur_of (i := (33, 3, .ifCond .eq 7, (22, 0, 0), 0)) (by decide +kernel)) hm_z
        rcases hm_z with ⟨b1039_z, hm_z⟩ | ⟨b1039_z, hm_z⟩
        · replace b1039_z : v1023_z = (0 : Int32) ∧ v1023_z.toInt = (0 : Int32).toInt := b1039_z
          replace hm_z := rn_iconst (w := 0) (am_cur_of (i := (40, 1, .iconst 0, (0, 0, 0), 0)) (by decide +kernel)) (by decide) hm_z
          replace hm_z := rn_goto (am_cur_of (i := (41, 3, .goto 46, (47, 0, 0), 0)) (by decide +kernel)) hm_z
          replace hm_z := rn_iret (am_cur_of (i := (87, 1, .ireturn, (0, 0, 0), 0)) (by decide +kernel)) hm_z
          obtain ⟨e1040_z, e1041_z⟩ := hm_z
          rw [e1041_z]
          exact (bk_t (bk_t (bk_u (by decide) bk_r) (bk_n k1016_z)) k1022_z)
        · replace b1039_z : ¬ v1023_z = (0 : Int32) ∧ ¬ v1023_z.toInt = (0 : Int32).toInt := b1039_z
          replace hm_z := rn_iconst (w := 1) (am_cur_of (i := (36, 1, .iconst 1, (0, 0, 0), 0)) (by decide +kernel)) (by decide) hm_z
          replace hm_z := rn_goto (am_cur_of (i := (37, 3, .goto 50, (47, 0, 0), 0)) (by decide +kernel)) hm_z
          replace hm_z := rn_iret (am_cur_of (i := (87, 1, .ireturn, (0, 0, 0), 0)) (by decide +kernel)) hm_z
          obtain ⟨e1042_z, e1043_z⟩ := hm_z
          rw [e1043_z]
          exact (bk_t (bk_t (bk_u (by decide) bk_r) (bk_n k1016_z)) k1022_z)
    · replace b1018_z : v1017_z = (0 : Int32) ∧ v1017_z.toInt = (0 : Int32).toInt := b1018_z
      have H11 := (fk_213_L (r := r) (g' := g') (w := w)  nst)
      exact bk_t (bk_t (bk_u (by decide) bk_r) (bk_n k1016_z)) (H11 _ _ (tkm_b (bk_t (bk_u (by decide) bk_r) (bk_n k1016_z)) T) hm_z)
theorem fk_219_1_L {r : Option Value} {g' : am_H} {k : Int32}  : ∀ f : Nat, (∀ (v3_z : Int32) (ls : am_L) (g : am_H), am_get ls 0 = some (.ref 164) → am_get ls 1 = some (.int 1) → am_get ls 2 = some (.int k) → am_get ls 3 = some (.int v3_z) → rn f am_m219 2 ls [] g r g' → bk g g') ∧ (∀ (ls : am_L) (g : am_H), rn f am_m219 24 ls [] g r g' → bk g g') := by
  intro f
  induction f with
  | zero =>
    exact ⟨fun _ _ _ _ _ _ _ hm_z => absurd hm_z rn_0, fun _ _ hm_z => absurd hm_z rn_0⟩
  | succ f ih_z =>
    obtain ⟨I2, I24⟩ := ih_z
    have H24 : ∀ (ls : am_L) (g : am_H), rn (f + 1) am_m219 24 ls [] g r g' → bk g g' := by
      intro ls g hm_z
      replace hm_z := rn_vret (am_cur_of (i := (39, 1, .return_, (0, 0, 0), 0)) (by decide +kernel)) hm_z
      obtain ⟨e1044_z, e1045_z⟩ := hm_z
      rw [e1045_z]
      exact bk_r
    have H2 : ∀ (v3_z : Int32) (ls : am_L) (g : am_H), am_get ls 0 = some (.ref 164) → am_get ls 1 = some (.int 1) → am_get ls 2 = some (.int k) → am_get ls 3 = some (.int v3_z) → rn (f + 1) am_m219 2 ls [] g r g' → bk g g' := by
      intro v3_z ls g g0_z g1_z g2_z g3_z hm_z
      have z0_z : (0 : Int32).toInt = 0 := by decide
      replace hm_z := rn_iload_n (am_cur_of (i := (2, 1, .iload_n 3, (0, 0, 0), 0)) (by decide +kernel)) g3_z hm_z
      replace hm_z := rn_aload_n (am_cur_of (i := (3, 1, .aload_n 0, (0, 0, 0), 0)) (by decide +kernel)) g0_z hm_z
      replace hm_z := rn_getR (x := 170) (am_cur_of (i := (4, 3, .getfield 30, (12, 25, 1409), 0)) (by decide +kernel)) (by decide +kernel) hm_z
      replace hm_z := rn_bipush (w := 7) (am_cur_of (i := (7, 2, .bipush 7, (0, 0, 0), 0)) (by decide +kernel)) (by decide) hm_z
      replace hm_z := rn_iload_n (am_cur_of (i := (9, 1, .iload_n 2, (0, 0, 0), 0)) (by decide +kernel)) g2_z hm_z
      replace hm_z := rn_imul (w := (7 : Int32) * k) (am_cur_of (i := (10, 1, .imul, (0, 0, 0), 0)) (by decide +kernel)) rfl hm_z
      replace hm_z := rn_iconst (w := 5) (am_cur_of (i := (11, 1, .iconst 5, (0, 0, 0), 0)) (by decide +kernel)) (by decide) hm_z
      replace hm_z := rn_iadd (w := ((7 : Int32) * k) + 5) (am_cur_of (i := (12, 1, .iadd, (0, 0, 0), 0)) (by decide +kernel)) rfl hm_z
      replace hm_z := rn_iaload (N := 56) (q := (((7 : Int32) * k) + 5).toNatClampNeg) (v := rg_v g 170 ((((7 : Int32) * k) + 5).toNatClampNeg)) (am_cur_of (i := (13, 1, .iaload, (0, 0, 0), 0)) (by decide +kernel)) (by decide +kernel) rfl rfl hm_z
      obtain ⟨p1046_z, hm_z⟩ := hm_z
      replace hm_z := rn_cmp (am_cur_of (i := (14, 3, .if_icmp .ge 25, (24, 0, 0), 0)) (by decide +kernel)) hm_z
      rcases hm_z with ⟨b1047_z, hm_z⟩ | ⟨b1047_z, hm_z⟩
      · replace b1047_z : (rg_v g 170 ((((7 : Int32) * k) + 5).toNatClampNeg)).toInt ≤ v3_z.toInt := b1047_z
        exact bk_t bk_r (H24 _ _ hm_z)
      · replace b1047_z : v3_z.toInt < (rg_v g 170 ((((7 : Int32) * k) + 5).toNatClampNeg)).toInt := b1047_z
        replace hm_z := rn_aload_n (am_cur_of (i := (17, 1, .aload_n 0, (0, 0, 0), 0)) (by decide +kernel)) g0_z hm_z
        replace hm_z := rn_iload_n (am_cur_of (i := (18, 1, .iload_n 1, (0, 0, 0), 0)) (by decide +kernel)) g1_z hm_z
        replace hm_z := rn_iload_n (am_cur_of (i := (19, 1, .iload_n 2, (0, 0, 0), 0)) (by decide +kernel)) g2_z hm_z
        replace hm_z := rn_callV (M' := am_m198) (o := 164) (ar := [.int k, .int 1]) (rest := []) (L := lv_args 0 [.ref 164, .int 1, .int k]) (am_cur_of (i := (20, 3, .invokevirtual 431, (198, 1824, 3), 0)) (by decide +kernel)) rfl rfl rfl rfl hm_z
        obtain ⟨r1048_z, h1049_z, q1050_z, hm_z⟩ := hm_z
        have k1051_z := nq_198 q1050_z
        obtain ⟨v1052_z, rfl⟩ := rn_ret (M := am_m198) rfl (by decide) q1050_z
        replace hm_z : rn _ _ _ _ [.int v1052_z] _ _ _ := hm_z
        replace hm_z := rn_if (am_cur_of (i := (23, 3, .ifCond .eq 16, (24, 0, 0), 0)) (by decide +kernel)) hm_z
        rcases hm_z with ⟨b1053_z, hm_z⟩ | ⟨b1053_z, hm_z⟩
        · replace b1053_z : v1052_z = (0 : Int32) ∧ v1052_z.toInt = (0 : Int32).toInt := b1053_z
          exact bk_t (bk_t bk_r (bk_n k1051_z)) (H24 _ _ hm_z)
        · replace b1053_z : ¬ v1052_z = (0 : Int32) ∧ ¬ v1052_z.toInt = (0 : Int32).toInt := b1053_z
          replace hm_z := rn_aload_n (am_cur_of (i := (26, 1, .aload_n 0, (0, 0, 0), 0)) (by decide +kernel)) g0_z hm_z
          replace hm_z := rn_iload_n (am_cur_of (i := (27, 1, .iload_n 1, (0, 0, 0), 0)) (by decide +kernel)) g1_z hm_z
          replace hm_z := rn_iconst (w := 1) (am_cur_of (i := (28, 1, .iconst 1, (0, 0, 0), 0)) (by decide +kernel)) (by decide) hm_z
          replace hm_z := rn_iconst (w := 0) (am_cur_of (i := (29, 1, .iconst 0, (0, 0, 0), 0)) (by decide +kernel)) (by decide) hm_z
          replace hm_z := rn_callV (M' := am_m199) (o := 164) (ar := [.int 0, .int 1, .int 1]) (rest := []) (L := lv_args 0 [.ref 164, .int 1, .int 1, .int 0]) (am_cur_of (i := (30, 3, .invokevirtual 434, (199, 1828, 3), 0)) (by decide +kernel)) rfl rfl rfl rfl hm_z
          obtain ⟨r1054_z, h1055_z, q1056_z, hm_z⟩ := hm_z
          have k1057_z := fk_199_1 q1056_z
          have vo := rn_void rfl q1056_z
          subst vo
          replace hm_z : rn _ _ _ _ [] _ _ _ := hm_z
          replace hm_z := rn_iinc (w := v3_z + 1) (am_cur_of (i := (33, 3, .iinc 3 1, (0, 0, 0), 0)) (by decide +kernel)) g3_z rfl hm_z
          obtain ⟨_, s1058_z, s1059_z, g3_z, hm_z⟩ := hm_z
          replace g0_z := s1058_z 0 _ (by decide) rfl g0_z
          replace g1_z := s1058_z 1 _ (by decide) rfl g1_z
          replace g2_z := s1058_z 2 _ (by decide) rfl g2_z
          clear s1058_z s1059_z
          replace hm_z := rn_gotoL (am_cur_of (i := (36, 3, .goto (-34), (2, 0, 0), 0)) (by decide +kernel)) hm_z
          exact bk_t (bk_t (bk_t bk_r (bk_n k1051_z)) k1057_z) (I2 (v3_z + 1) _ _ g0_z g1_z g2_z g3_z hm_z)
    exact ⟨H2, H24⟩
theorem fk_219_1 {nst : Nat} {r : Option Value} {g g' : am_H} {k : Int32}  (hm_z : rn nst am_m219 0 (lv_args 0 [.ref 164, .int 1, .int k]) [] g r g') : bk g g' := by
  have g0_z : am_get (lv_args 0 [.ref 164, .int 1, .int k]) 0 = some (.ref 164) := rfl
  have g1_z : am_get (lv_args 0 [.ref 164, .int 1, .int k]) 1 = some (.int 1) := rfl
  have g2_z : am_get (lv_args 0 [.ref 164, .int 1, .int k]) 2 = some (.int k) := rfl
  replace hm_z := rn_iconst (w := 0) (am_cur_of (i := (0, 1, .iconst 0, (0, 0, 0), 0)) (by decide +kernel)) (by decide) hm_z
  replace hm_z := rn_istore_n (am_cur_of (i := (1, 1, .istore_n 3, (0, 0, 0), 0)) (by decide +kernel)) hm_z
  obtain ⟨_, s1060_z, s1061_z, g3_z, hm_z⟩ := hm_z
  replace g0_z := s1060_z 0 _ (by decide) rfl g0_z
  replace g1_z := s1060_z 1 _ (by decide) rfl g1_z
  replace g2_z := s1060_z 2 _ (by decide) rfl g2_z
  clear s1060_z s1061_z
  have H2 := (fk_219_1_L (r := r) (g' := g') (k := k)  nst).1
  exact bk_t bk_r (H2 0 _ _ g0_z g1_z g2_z g3_z hm_z)
theorem fk_219_2_L {r : Option Value} {g' : am_H} {k : Int32}  : ∀ f : Nat, (∀ (v3_z : Int32) (ls : am_L) (g : am_H), am_get ls 0 = some (.ref 164) → am_get ls 1 = some (.int 2) → am_get ls 2 = some (.int k) → am_get ls 3 = some (.int v3_z) → rn f am_m219 2 ls [] g r g' → bk g g') ∧ (∀ (ls : am_L) (g : am_H), rn f am_m219 24 ls [] g r g' → bk g g') := by
  intro f
  induction f with
  | zero =>
    exact ⟨fun _ _ _ _ _ _ _ hm_z => absurd hm_z rn_0, fun _ _ hm_z => absurd hm_z rn_0⟩
  | succ f ih_z =>
    obtain ⟨I2, I24⟩ := ih_z
    have H24 : ∀ (ls : am_L) (g : am_H), rn (f + 1) am_m219 24 ls [] g r g' → bk g g' := by
      intro ls g hm_z
      replace hm_z := rn_vret (am_cur_of (i := (39, 1, .return_, (0, 0, 0), 0)) (by decide +kernel)) hm_z
      obtain ⟨e1062_z, e1063_z⟩ := hm_z
      rw [e1063_z]
      exact bk_r
    have H2 : ∀ (v3_z : Int32) (ls : am_L) (g : am_H), am_get ls 0 = some (.ref 164) → am_get ls 1 = some (.int 2) → am_get ls 2 = some (.int k) → am_get ls 3 = some (.int v3_z) → rn (f + 1) am_m219 2 ls [] g r g' → bk g g' := by
      intro v3_z ls g g0_z g1_z g2_z g3_z hm_z
      have z0_z : (0 : Int32).toInt = 0 := by decide
      replace hm_z := rn_iload_n (am_cur_of (i := (2, 1, .iload_n 3, (0, 0, 0), 0)) (by decide +kernel)) g3_z hm_z
      replace hm_z := rn_aload_n (am_cur_of (i := (3, 1, .aload_n 0, (0, 0, 0), 0)) (by decide +kernel)) g0_z hm_z
      replace hm_z := rn_getR (x := 170) (am_cur_of (i := (4, 3, .getfield 30, (12, 25, 1409), 0)) (by decide +kernel)) (by decide +kernel) hm_z
      replace hm_z := rn_bipush (w := 7) (am_cur_of (i := (7, 2, .bipush 7, (0, 0, 0), 0)) (by decide +kernel)) (by decide) hm_z
      replace hm_z := rn_iload_n (am_cur_of (i := (9, 1, .iload_n 2, (0, 0, 0), 0)) (by decide +kernel)) g2_z hm_z
      replace hm_z := rn_imul (w := (7 : Int32) * k) (am_cur_of (i := (10, 1, .imul, (0, 0, 0), 0)) (by decide +kernel)) rfl hm_z
      replace hm_z := rn_iconst (w := 5) (am_cur_of (i := (11, 1, .iconst 5, (0, 0, 0), 0)) (by decide +kernel)) (by decide) hm_z
      replace hm_z := rn_iadd (w := ((7 : Int32) * k) + 5) (am_cur_of (i := (12, 1, .iadd, (0, 0, 0), 0)) (by decide +kernel)) rfl hm_z
      replace hm_z := rn_iaload (N := 56) (q := (((7 : Int32) * k) + 5).toNatClampNeg) (v := rg_v g 170 ((((7 : Int32) * k) + 5).toNatClampNeg)) (am_cur_of (i := (13, 1, .iaload, (0, 0, 0), 0)) (by decide +kernel)) (by decide +kernel) rfl rfl hm_z
      obtain ⟨p1064_z, hm_z⟩ := hm_z
      replace hm_z := rn_cmp (am_cur_of (i := (14, 3, .if_icmp .ge 25, (24, 0, 0), 0)) (by decide +kernel)) hm_z
      rcases hm_z with ⟨b1065_z, hm_z⟩ | ⟨b1065_z, hm_z⟩
      · replace b1065_z : (rg_v g 170 ((((7 : Int32) * k) + 5).toNatClampNeg)).toInt ≤ v3_z.toInt := b1065_z
        exact bk_t bk_r (H24 _ _ hm_z)
      · replace b1065_z : v3_z.toInt < (rg_v g 170 ((((7 : Int32) * k) + 5).toNatClampNeg)).toInt := b1065_z
        replace hm_z := rn_aload_n (am_cur_of (i := (17, 1, .aload_n 0, (0, 0, 0), 0)) (by decide +kernel)) g0_z hm_z
        replace hm_z := rn_iload_n (am_cur_of (i := (18, 1, .iload_n 1, (0, 0, 0), 0)) (by decide +kernel)) g1_z hm_z
        replace hm_z := rn_iload_n (am_cur_of (i := (19, 1, .iload_n 2, (0, 0, 0), 0)) (by decide +kernel)) g2_z hm_z
        replace hm_z := rn_callV (M' := am_m198) (o := 164) (ar := [.int k, .int 2]) (rest := []) (L := lv_args 0 [.ref 164, .int 2, .int k]) (am_cur_of (i := (20, 3, .invokevirtual 431, (198, 1824, 3), 0)) (by decide +kernel)) rfl rfl rfl rfl hm_z
        obtain ⟨r1066_z, h1067_z, q1068_z, hm_z⟩ := hm_z
        have k1069_z := nq_198 q1068_z
        obtain ⟨v1070_z, rfl⟩ := rn_ret (M := am_m198) rfl (by decide) q1068_z
        replace hm_z : rn _ _ _ _ [.int v1070_z] _ _ _ := hm_z
        replace hm_z := rn_if (am_cur_of (i := (23, 3, .ifCond .eq 16, (24, 0, 0), 0)) (by decide +kernel)) hm_z
        rcases hm_z with ⟨b1071_z, hm_z⟩ | ⟨b1071_z, hm_z⟩
        · replace b1071_z : v1070_z = (0 : Int32) ∧ v1070_z.toInt = (0 : Int32).toInt := b1071_z
          exact bk_t (bk_t bk_r (bk_n k1069_z)) (H24 _ _ hm_z)
        · replace b1071_z : ¬ v1070_z = (0 : Int32) ∧ ¬ v1070_z.toInt = (0 : Int32).toInt := b1071_z
          replace hm_z := rn_aload_n (am_cur_of (i := (26, 1, .aload_n 0, (0, 0, 0), 0)) (by decide +kernel)) g0_z hm_z
          replace hm_z := rn_iload_n (am_cur_of (i := (27, 1, .iload_n 1, (0, 0, 0), 0)) (by decide +kernel)) g1_z hm_z
          replace hm_z := rn_iconst (w := 1) (am_cur_of (i := (28, 1, .iconst 1, (0, 0, 0), 0)) (by decide +kernel)) (by decide) hm_z
          replace hm_z := rn_iconst (w := 0) (am_cur_of (i := (29, 1, .iconst 0, (0, 0, 0), 0)) (by decide +kernel)) (by decide) hm_z
          replace hm_z := rn_callV (M' := am_m199) (o := 164) (ar := [.int 0, .int 1, .int 2]) (rest := []) (L := lv_args 0 [.ref 164, .int 2, .int 1, .int 0]) (am_cur_of (i := (30, 3, .invokevirtual 434, (199, 1828, 3), 0)) (by decide +kernel)) rfl rfl rfl rfl hm_z
          obtain ⟨r1072_z, h1073_z, q1074_z, hm_z⟩ := hm_z
          have k1075_z := fk_199_2 q1074_z
          have vo := rn_void rfl q1074_z
          subst vo
          replace hm_z : rn _ _ _ _ [] _ _ _ := hm_z
          replace hm_z := rn_iinc (w := v3_z + 1) (am_cur_of (i := (33, 3, .iinc 3 1, (0, 0, 0), 0)) (by decide +kernel)) g3_z rfl hm_z
          obtain ⟨_, s1076_z, s1077_z, g3_z, hm_z⟩ := hm_z
          replace g0_z := s1076_z 0 _ (by decide) rfl g0_z
          replace g1_z := s1076_z 1 _ (by decide) rfl g1_z
          replace g2_z := s1076_z 2 _ (by decide) rfl g2_z
          clear s1076_z s1077_z
          replace hm_z := rn_gotoL (am_cur_of (i := (36, 3, .goto (-34), (2, 0, 0), 0)) (by decide +kernel)) hm_z
          exact bk_t (bk_t (bk_t bk_r (bk_n k1069_z)) k1075_z) (I2 (v3_z + 1) _ _ g0_z g1_z g2_z g3_z hm_z)
    exact ⟨H2, H24⟩
theorem fk_219_2 {nst : Nat} {r : Option Value} {g g' : am_H} {k : Int32}  (hm_z : rn nst am_m219 0 (lv_args 0 [.ref 164, .int 2, .int k]) [] g r g') : bk g g' := by
  have g0_z : am_get (lv_args 0 [.ref 164, .int 2, .int k]) 0 = some (.ref 164) := rfl
  have g1_z : am_get (lv_args 0 [.ref 164, .int 2, .int k]) 1 = some (.int 2) := rfl
  have g2_z : am_get (lv_args 0 [.ref 164, .int 2, .int k]) 2 = some (.int k) := rfl
  replace hm_z := rn_iconst (w := 0) (am_cur_of (i := (0, 1, .iconst 0, (0, 0, 0), 0)) (by decide +kernel)) (by decide) hm_z
  replace hm_z := rn_istore_n (am_cur_of (i := (1, 1, .istore_n 3, (0, 0, 0), 0)) (by decide +kernel)) hm_z
  obtain ⟨_, s1078_z, s1079_z, g3_z, hm_z⟩ := hm_z
  replace g0_z := s1078_z 0 _ (by decide) rfl g0_z
  replace g1_z := s1078_z 1 _ (by decide) rfl g1_z
  replace g2_z := s1078_z 2 _ (by decide) rfl g2_z
  clear s1078_z s1079_z
  have H2 := (fk_219_2_L (r := r) (g' := g') (k := k)  nst).1
  exact bk_t bk_r (H2 0 _ _ g0_z g1_z g2_z g3_z hm_z)
theorem fk_220_1_L {r : Option Value} {g' : am_H} {k : Int32} (k0_z : 0 ≤ k.toInt) : ∀ f : Nat, (∀ (v3_z : Int32) (ls : am_L) (g : am_H), am_get ls 0 = some (.ref 164) → am_get ls 1 = some (.int 1) → am_get ls 2 = some (.int k) → am_get ls 3 = some (.int v3_z) → rn f am_m220 9 ls [] g r g' → bk g g') := by
  intro f
  induction f with
  | zero =>
    exact (fun _ _ _ _ _ _ _ hm_z => absurd hm_z rn_0)
  | succ f ih_z =>
    have I9 := ih_z
    have H9 : ∀ (v3_z : Int32) (ls : am_L) (g : am_H), am_get ls 0 = some (.ref 164) → am_get ls 1 = some (.int 1) → am_get ls 2 = some (.int k) → am_get ls 3 = some (.int v3_z) → rn (f + 1) am_m220 9 ls [] g r g' → bk g g' := by
      intro v3_z ls g g0_z g1_z g2_z g3_z hm_z
      replace hm_z := rn_iload_n (am_cur_of (i := (13, 1, .iload_n 3, (0, 0, 0), 0)) (by decide +kernel)) g3_z hm_z
      replace hm_z := rn_aload_n (am_cur_of (i := (14, 1, .aload_n 0, (0, 0, 0), 0)) (by decide +kernel)) g0_z hm_z
      replace hm_z := rn_getR (x := 170) (am_cur_of (i := (15, 3, .getfield 30, (12, 25, 1409), 0)) (by decide +kernel)) (by decide +kernel) hm_z
      replace hm_z := rn_bipush (w := 7) (am_cur_of (i := (18, 2, .bipush 7, (0, 0, 0), 0)) (by decide +kernel)) (by decide) hm_z
      replace hm_z := rn_iload_n (am_cur_of (i := (20, 1, .iload_n 2, (0, 0, 0), 0)) (by decide +kernel)) g2_z hm_z
      replace hm_z := rn_imul (w := (7 : Int32) * k) (am_cur_of (i := (21, 1, .imul, (0, 0, 0), 0)) (by decide +kernel)) rfl hm_z
      replace hm_z := rn_iconst (w := 3) (am_cur_of (i := (22, 1, .iconst 3, (0, 0, 0), 0)) (by decide +kernel)) (by decide) hm_z
      replace hm_z := rn_iadd (w := ((7 : Int32) * k) + 3) (am_cur_of (i := (23, 1, .iadd, (0, 0, 0), 0)) (by decide +kernel)) rfl hm_z
      replace hm_z := rn_iaload (N := 56) (q := (((7 : Int32) * k) + 3).toNatClampNeg) (v := rg_v g 170 ((((7 : Int32) * k) + 3).toNatClampNeg)) (am_cur_of (i := (24, 1, .iaload, (0, 0, 0), 0)) (by decide +kernel)) (by decide +kernel) rfl rfl hm_z
      obtain ⟨p1080_z, hm_z⟩ := hm_z
      replace hm_z := rn_cmp (am_cur_of (i := (25, 3, .if_icmp .ge 16, (26, 0, 0), 0)) (by decide +kernel)) hm_z
      rcases hm_z with ⟨b1081_z, hm_z⟩ | ⟨b1081_z, hm_z⟩
      · replace b1081_z : (rg_v g 170 ((((7 : Int32) * k) + 3).toNatClampNeg)).toInt ≤ v3_z.toInt := b1081_z
        replace hm_z := rn_aload_n (am_cur_of (i := (41, 1, .aload_n 0, (0, 0, 0), 0)) (by decide +kernel)) g0_z hm_z
        replace hm_z := rn_iload_n (am_cur_of (i := (42, 1, .iload_n 1, (0, 0, 0), 0)) (by decide +kernel)) g1_z hm_z
        replace hm_z := rn_iload_n (am_cur_of (i := (43, 1, .iload_n 2, (0, 0, 0), 0)) (by decide +kernel)) g2_z hm_z
        replace hm_z := rn_callV (M' := am_m205) (o := 164) (ar := [.int k, .int 1]) (rest := []) (L := lv_args 0 [.ref 164, .int 1, .int k]) (am_cur_of (i := (44, 3, .invokevirtual 441, (205, 1851, 3), 0)) (by decide +kernel)) rfl rfl rfl rfl hm_z
        obtain ⟨r1082_z, h1083_z, q1084_z, hm_z⟩ := hm_z
        have k1085_z := fk_205_1 k0_z q1084_z
        have vo := rn_void rfl q1084_z
        subst vo
        replace hm_z : rn _ _ _ _ [] _ _ _ := hm_z
        replace hm_z := rn_iconst (w := 1) (am_cur_of (i := (47, 1, .iconst 1, (0, 0, 0), 0)) (by decide +kernel)) (by decide) hm_z
        replace hm_z := rn_iret (am_cur_of (i := (48, 1, .ireturn, (0, 0, 0), 0)) (by decide +kernel)) hm_z
        obtain ⟨e1086_z, e1087_z⟩ := hm_z
        rw [e1087_z]
        exact (bk_t bk_r k1085_z)
      · replace b1081_z : v3_z.toInt < (rg_v g 170 ((((7 : Int32) * k) + 3).toNatClampNeg)).toInt := b1081_z
        replace hm_z := rn_aload_n (am_cur_of (i := (28, 1, .aload_n 0, (0, 0, 0), 0)) (by decide +kernel)) g0_z hm_z
        replace hm_z := rn_iload_n (am_cur_of (i := (29, 1, .iload_n 1, (0, 0, 0), 0)) (by decide +kernel)) g1_z hm_z
        replace hm_z := rn_iconst (w := 0) (am_cur_of (i := (30, 1, .iconst 0, (0, 0, 0), 0)) (by decide +kernel)) (by decide) hm_z
        replace hm_z := rn_iconst (w := 0) (am_cur_of (i := (31, 1, .iconst 0, (0, 0, 0), 0)) (by decide +kernel)) (by decide) hm_z
        replace hm_z := rn_callV (M' := am_m199) (o := 164) (ar := [.int 0, .int 0, .int 1]) (rest := []) (L := lv_args 0 [.ref 164, .int 1, .int 0, .int 0]) (am_cur_of (i := (32, 3, .invokevirtual 434, (199, 1828, 3), 0)) (by decide +kernel)) rfl rfl rfl rfl hm_z
        obtain ⟨r1088_z, h1089_z, q1090_z, hm_z⟩ := hm_z
        have k1091_z := fk_199_1 q1090_z
        have vo := rn_void rfl q1090_z
        subst vo
        replace hm_z : rn _ _ _ _ [] _ _ _ := hm_z
        replace hm_z := rn_iinc (w := v3_z + 1) (am_cur_of (i := (35, 3, .iinc 3 1, (0, 0, 0), 0)) (by decide +kernel)) g3_z rfl hm_z
        obtain ⟨_, s1092_z, s1093_z, g3_z, hm_z⟩ := hm_z
        replace g0_z := s1092_z 0 _ (by decide) rfl g0_z
        replace g1_z := s1092_z 1 _ (by decide) rfl g1_z
        replace g2_z := s1092_z 2 _ (by decide) rfl g2_z
        clear s1092_z s1093_z
        replace hm_z := rn_gotoL (am_cur_of (i := (38, 3, .goto (-25), (9, 0, 0), 0)) (by decide +kernel)) hm_z
        exact bk_t (bk_t bk_r k1091_z) (I9 (v3_z + 1) _ _ g0_z g1_z g2_z g3_z hm_z)
    exact H9
theorem fk_220_1 {nst : Nat} {r : Option Value} {g g' : am_H} {k : Int32} (k0_z : 0 ≤ k.toInt) (hm_z : rn nst am_m220 0 (lv_args 0 [.ref 164, .int 1, .int k]) [] g r g') : bk g g' := by
  have z0_z : (0 : Int32).toInt = 0 := by decide
  have g0_z : am_get (lv_args 0 [.ref 164, .int 1, .int k]) 0 = some (.ref 164) := rfl
  have g1_z : am_get (lv_args 0 [.ref 164, .int 1, .int k]) 1 = some (.int 1) := rfl
  have g2_z : am_get (lv_args 0 [.ref 164, .int 1, .int k]) 2 = some (.int k) := rfl
  replace hm_z := rn_aload_n (am_cur_of (i := (0, 1, .aload_n 0, (0, 0, 0), 0)) (by decide +kernel)) g0_z hm_z
  replace hm_z := rn_iload_n (am_cur_of (i := (1, 1, .iload_n 1, (0, 0, 0), 0)) (by decide +kernel)) g1_z hm_z
  replace hm_z := rn_iload_n (am_cur_of (i := (2, 1, .iload_n 2, (0, 0, 0), 0)) (by decide +kernel)) g2_z hm_z
  replace hm_z := rn_callV (M' := am_m203) (o := 164) (ar := [.int k, .int 1]) (rest := []) (L := lv_args 0 [.ref 164, .int 1, .int k]) (am_cur_of (i := (3, 3, .invokevirtual 438, (203, 1843, 3), 0)) (by decide +kernel)) rfl rfl rfl rfl hm_z
  obtain ⟨r1094_z, h1095_z, q1096_z, hm_z⟩ := hm_z
  have k1097_z := fk_203_1 k0_z q1096_z
  obtain ⟨v1098_z, rfl⟩ := rn_ret (M := am_m203) rfl (by decide) q1096_z
  replace hm_z : rn _ _ _ _ [.int v1098_z] _ _ _ := hm_z
  replace hm_z := rn_if (am_cur_of (i := (6, 3, .ifCond .eq 5, (7, 0, 0), 0)) (by decide +kernel)) hm_z
  rcases hm_z with ⟨b1099_z, hm_z⟩ | ⟨b1099_z, hm_z⟩
  · replace b1099_z : v1098_z = (0 : Int32) ∧ v1098_z.toInt = (0 : Int32).toInt := b1099_z
    replace hm_z := rn_iconst (w := 0) (am_cur_of (i := (11, 1, .iconst 0, (0, 0, 0), 0)) (by decide +kernel)) (by decide) hm_z
    replace hm_z := rn_istore_n (am_cur_of (i := (12, 1, .istore_n 3, (0, 0, 0), 0)) (by decide +kernel)) hm_z
    obtain ⟨_, s1100_z, s1101_z, g3_z, hm_z⟩ := hm_z
    replace g0_z := s1100_z 0 _ (by decide) rfl g0_z
    replace g1_z := s1100_z 1 _ (by decide) rfl g1_z
    replace g2_z := s1100_z 2 _ (by decide) rfl g2_z
    clear s1100_z s1101_z
    have H9 := (fk_220_1_L (r := r) (g' := g') (k := k) k0_z nst)
    exact bk_t (bk_t bk_r k1097_z) (H9 0 _ _ g0_z g1_z g2_z g3_z hm_z)
  · replace b1099_z : ¬ v1098_z = (0 : Int32) ∧ ¬ v1098_z.toInt = (0 : Int32).toInt := b1099_z
    replace hm_z := rn_iconst (w := 0) (am_cur_of (i := (9, 1, .iconst 0, (0, 0, 0), 0)) (by decide +kernel)) (by decide) hm_z
    replace hm_z := rn_iret (am_cur_of (i := (10, 1, .ireturn, (0, 0, 0), 0)) (by decide +kernel)) hm_z
    obtain ⟨e1102_z, e1103_z⟩ := hm_z
    rw [e1103_z]
    exact (bk_t bk_r k1097_z)
theorem fk_220_2_L {r : Option Value} {g' : am_H} {k : Int32} (k0_z : 0 ≤ k.toInt) : ∀ f : Nat, (∀ (v3_z : Int32) (ls : am_L) (g : am_H), am_get ls 0 = some (.ref 164) → am_get ls 1 = some (.int 2) → am_get ls 2 = some (.int k) → am_get ls 3 = some (.int v3_z) → rn f am_m220 9 ls [] g r g' → bk g g') := by
  intro f
  induction f with
  | zero =>
    exact (fun _ _ _ _ _ _ _ hm_z => absurd hm_z rn_0)
  | succ f ih_z =>
    have I9 := ih_z
    have H9 : ∀ (v3_z : Int32) (ls : am_L) (g : am_H), am_get ls 0 = some (.ref 164) → am_get ls 1 = some (.int 2) → am_get ls 2 = some (.int k) → am_get ls 3 = some (.int v3_z) → rn (f + 1) am_m220 9 ls [] g r g' → bk g g' := by
      intro v3_z ls g g0_z g1_z g2_z g3_z hm_z
      replace hm_z := rn_iload_n (am_cur_of (i := (13, 1, .iload_n 3, (0, 0, 0), 0)) (by decide +kernel)) g3_z hm_z
      replace hm_z := rn_aload_n (am_cur_of (i := (14, 1, .aload_n 0, (0, 0, 0), 0)) (by decide +kernel)) g0_z hm_z
      replace hm_z := rn_getR (x := 170) (am_cur_of (i := (15, 3, .getfield 30, (12, 25, 1409), 0)) (by decide +kernel)) (by decide +kernel) hm_z
      replace hm_z := rn_bipush (w := 7) (am_cur_of (i := (18, 2, .bipush 7, (0, 0, 0), 0)) (by decide +kernel)) (by decide) hm_z
      replace hm_z := rn_iload_n (am_cur_of (i := (20, 1, .iload_n 2, (0, 0, 0), 0)) (by decide +kernel)) g2_z hm_z
      replace hm_z := rn_imul (w := (7 : Int32) * k) (am_cur_of (i := (21, 1, .imul, (0, 0, 0), 0)) (by decide +kernel)) rfl hm_z
      replace hm_z := rn_iconst (w := 3) (am_cur_of (i := (22, 1, .iconst 3, (0, 0, 0), 0)) (by decide +kernel)) (by decide) hm_z
      replace hm_z := rn_iadd (w := ((7 : Int32) * k) + 3) (am_cur_of (i := (23, 1, .iadd, (0, 0, 0), 0)) (by decide +kernel)) rfl hm_z
      replace hm_z := rn_iaload (N := 56) (q := (((7 : Int32) * k) + 3).toNatClampNeg) (v := rg_v g 170 ((((7 : Int32) * k) + 3).toNatClampNeg)) (am_cur_of (i := (24, 1, .iaload, (0, 0, 0), 0)) (by decide +kernel)) (by decide +kernel) rfl rfl hm_z
      obtain ⟨p1104_z, hm_z⟩ := hm_z
      replace hm_z := rn_cmp (am_cur_of (i := (25, 3, .if_icmp .ge 16, (26, 0, 0), 0)) (by decide +kernel)) hm_z
      rcases hm_z with ⟨b1105_z, hm_z⟩ | ⟨b1105_z, hm_z⟩
      · replace b1105_z : (rg_v g 170 ((((7 : Int32) * k) + 3).toNatClampNeg)).toInt ≤ v3_z.toInt := b1105_z
        replace hm_z := rn_aload_n (am_cur_of (i := (41, 1, .aload_n 0, (0, 0, 0), 0)) (by decide +kernel)) g0_z hm_z
        replace hm_z := rn_iload_n (am_cur_of (i := (42, 1, .iload_n 1, (0, 0, 0), 0)) (by decide +kernel)) g1_z hm_z
        replace hm_z := rn_iload_n (am_cur_of (i := (43, 1, .iload_n 2, (0, 0, 0), 0)) (by decide +kernel)) g2_z hm_z
        replace hm_z := rn_callV (M' := am_m205) (o := 164) (ar := [.int k, .int 2]) (rest := []) (L := lv_args 0 [.ref 164, .int 2, .int k]) (am_cur_of (i := (44, 3, .invokevirtual 441, (205, 1851, 3), 0)) (by decide +kernel)) rfl rfl rfl rfl hm_z
        obtain ⟨r1106_z, h1107_z, q1108_z, hm_z⟩ := hm_z
        have k1109_z := fk_205_2 k0_z q1108_z
        have vo := rn_void rfl q1108_z
        subst vo
        replace hm_z : rn _ _ _ _ [] _ _ _ := hm_z
        replace hm_z := rn_iconst (w := 1) (am_cur_of (i := (47, 1, .iconst 1, (0, 0, 0), 0)) (by decide +kernel)) (by decide) hm_z
        replace hm_z := rn_iret (am_cur_of (i := (48, 1, .ireturn, (0, 0, 0), 0)) (by decide +kernel)) hm_z
        obtain ⟨e1110_z, e1111_z⟩ := hm_z
        rw [e1111_z]
        exact (bk_t bk_r k1109_z)
      · replace b1105_z : v3_z.toInt < (rg_v g 170 ((((7 : Int32) * k) + 3).toNatClampNeg)).toInt := b1105_z
        replace hm_z := rn_aload_n (am_cur_of (i := (28, 1, .aload_n 0, (0, 0, 0), 0)) (by decide +kernel)) g0_z hm_z
        replace hm_z := rn_iload_n (am_cur_of (i := (29, 1, .iload_n 1, (0, 0, 0), 0)) (by decide +kernel)) g1_z hm_z
        replace hm_z := rn_iconst (w := 0) (am_cur_of (i := (30, 1, .iconst 0, (0, 0, 0), 0)) (by decide +kernel)) (by decide) hm_z
        replace hm_z := rn_iconst (w := 0) (am_cur_of (i := (31, 1, .iconst 0, (0, 0, 0), 0)) (by decide +kernel)) (by decide) hm_z
        replace hm_z := rn_callV (M' := am_m199) (o := 164) (ar := [.int 0, .int 0, .int 2]) (rest := []) (L := lv_args 0 [.ref 164, .int 2, .int 0, .int 0]) (am_cur_of (i := (32, 3, .invokevirtual 434, (199, 1828, 3), 0)) (by decide +kernel)) rfl rfl rfl rfl hm_z
        obtain ⟨r1112_z, h1113_z, q1114_z, hm_z⟩ := hm_z
        have k1115_z := fk_199_2 q1114_z
        have vo := rn_void rfl q1114_z
        subst vo
        replace hm_z : rn _ _ _ _ [] _ _ _ := hm_z
        replace hm_z := rn_iinc (w := v3_z + 1) (am_cur_of (i := (35, 3, .iinc 3 1, (0, 0, 0), 0)) (by decide +kernel)) g3_z rfl hm_z
        obtain ⟨_, s1116_z, s1117_z, g3_z, hm_z⟩ := hm_z
        replace g0_z := s1116_z 0 _ (by decide) rfl g0_z
        replace g1_z := s1116_z 1 _ (by decide) rfl g1_z
        replace g2_z := s1116_z 2 _ (by decide) rfl g2_z
        clear s1116_z s1117_z
        replace hm_z := rn_gotoL (am_cur_of (i := (38, 3, .goto (-25), (9, 0, 0), 0)) (by decide +kernel)) hm_z
        exact bk_t (bk_t bk_r k1115_z) (I9 (v3_z + 1) _ _ g0_z g1_z g2_z g3_z hm_z)
    exact H9
theorem fk_220_2 {nst : Nat} {r : Option Value} {g g' : am_H} {k : Int32} (k0_z : 0 ≤ k.toInt) (hm_z : rn nst am_m220 0 (lv_args 0 [.ref 164, .int 2, .int k]) [] g r g') : bk g g' := by
  have z0_z : (0 : Int32).toInt = 0 := by decide
  have g0_z : am_get (lv_args 0 [.ref 164, .int 2, .int k]) 0 = some (.ref 164) := rfl
  have g1_z : am_get (lv_args 0 [.ref 164, .int 2, .int k]) 1 = some (.int 2) := rfl
  have g2_z : am_get (lv_args 0 [.ref 164, .int 2, .int k]) 2 = some (.int k) := rfl
  replace hm_z := rn_aload_n (am_cur_of (i := (0, 1, .aload_n 0, (0, 0, 0), 0)) (by decide +kernel)) g0_z hm_z
  replace hm_z := rn_iload_n (am_cur_of (i := (1, 1, .iload_n 1, (0, 0, 0), 0)) (by decide +kernel)) g1_z hm_z
  replace hm_z := rn_iload_n (am_cur_of (i := (2, 1, .iload_n 2, (0, 0, 0), 0)) (by decide +kernel)) g2_z hm_z
  replace hm_z := rn_callV (M' := am_m203) (o := 164) (ar := [.int k, .int 2]) (rest := []) (L := lv_args 0 [.ref 164, .int 2, .int k]) (am_cur_of (i := (3, 3, .invokevirtual 438, (203, 1843, 3), 0)) (by decide +kernel)) rfl rfl rfl rfl hm_z
  obtain ⟨r1118_z, h1119_z, q1120_z, hm_z⟩ := hm_z
  have k1121_z := fk_203_2 k0_z q1120_z
  obtain ⟨v1122_z, rfl⟩ := rn_ret (M := am_m203) rfl (by decide) q1120_z
  replace hm_z : rn _ _ _ _ [.int v1122_z] _ _ _ := hm_z
  replace hm_z := rn_if (am_cur_of (i := (6, 3, .ifCond .eq 5, (7, 0, 0), 0)) (by decide +kernel)) hm_z
  rcases hm_z with ⟨b1123_z, hm_z⟩ | ⟨b1123_z, hm_z⟩
  · replace b1123_z : v1122_z = (0 : Int32) ∧ v1122_z.toInt = (0 : Int32).toInt := b1123_z
    replace hm_z := rn_iconst (w := 0) (am_cur_of (i := (11, 1, .iconst 0, (0, 0, 0), 0)) (by decide +kernel)) (by decide) hm_z
    replace hm_z := rn_istore_n (am_cur_of (i := (12, 1, .istore_n 3, (0, 0, 0), 0)) (by decide +kernel)) hm_z
    obtain ⟨_, s1124_z, s1125_z, g3_z, hm_z⟩ := hm_z
    replace g0_z := s1124_z 0 _ (by decide) rfl g0_z
    replace g1_z := s1124_z 1 _ (by decide) rfl g1_z
    replace g2_z := s1124_z 2 _ (by decide) rfl g2_z
    clear s1124_z s1125_z
    have H9 := (fk_220_2_L (r := r) (g' := g') (k := k) k0_z nst)
    exact bk_t (bk_t bk_r k1121_z) (H9 0 _ _ g0_z g1_z g2_z g3_z hm_z)
  · replace b1123_z : ¬ v1122_z = (0 : Int32) ∧ ¬ v1122_z.toInt = (0 : Int32).toInt := b1123_z
    replace hm_z := rn_iconst (w := 0) (am_cur_of (i := (9, 1, .iconst 0, (0, 0, 0), 0)) (by decide +kernel)) (by decide) hm_z
    replace hm_z := rn_iret (am_cur_of (i := (10, 1, .ireturn, (0, 0, 0), 0)) (by decide +kernel)) hm_z
    obtain ⟨e1126_z, e1127_z⟩ := hm_z
    rw [e1127_z]
    exact (bk_t bk_r k1121_z)
theorem fk_221_L {r : Option Value} {g' : am_H} {b : Int32} {k : Int32} {n : Int32} {i : Int32} {m : Int32}  : ∀ f : Nat, (∀ (ls : am_L) (g : am_H), rn f am_m221 31 ls [] g r g' → bk g g') ∧ (∀ (v6_z : Int32) (ls : am_L) (g : am_H), am_get ls 0 = some (.ref 164) → am_get ls 1 = some (.int b) → am_get ls 2 = some (.int k) → am_get ls 3 = some (.int n) → am_get ls 4 = some (.int i) → am_get ls 5 = some (.int m) → am_get ls 6 = some (.int v6_z) → rn f am_m221 32 ls [] g r g' → bk g g') := by
  intro f
  induction f with
  | zero =>
    exact ⟨fun _ _ hm_z => absurd hm_z rn_0, fun _ _ _ _ _ _ _ _ _ _ hm_z => absurd hm_z rn_0⟩
  | succ f ih_z =>
    obtain ⟨I31, I32⟩ := ih_z
    have H32 : ∀ (v6_z : Int32) (ls : am_L) (g : am_H), am_get ls 0 = some (.ref 164) → am_get ls 1 = some (.int b) → am_get ls 2 = some (.int k) → am_get ls 3 = some (.int n) → am_get ls 4 = some (.int i) → am_get ls 5 = some (.int m) → am_get ls 6 = some (.int v6_z) → rn (f + 1) am_m221 32 ls [] g r g' → bk g g' := by
      intro v6_z ls g g0_z g1_z g2_z g3_z g4_z g5_z g6_z hm_z
      replace hm_z := rn_aload_n (am_cur_of (i := (58, 1, .aload_n 0, (0, 0, 0), 0)) (by decide +kernel)) g0_z hm_z
      replace hm_z := rn_aload_n (am_cur_of (i := (59, 1, .aload_n 0, (0, 0, 0), 0)) (by decide +kernel)) g0_z hm_z
      replace hm_z := rn_getR (x := 188) (am_cur_of (i := (60, 3, .getfield 85, (12, 50, 1434), 0)) (by decide +kernel)) (by decide +kernel) hm_z
      replace hm_z := rn_iload_n (am_cur_of (i := (63, 1, .iload_n 1, (0, 0, 0), 0)) (by decide +kernel)) g1_z hm_z
      replace hm_z := rn_iaload (N := 4) (q := b.toNatClampNeg) (v := rg_v g 188 b.toNatClampNeg) (am_cur_of (i := (64, 1, .iaload, (0, 0, 0), 0)) (by decide +kernel)) (by decide +kernel) rfl rfl hm_z
      obtain ⟨p1128_z, hm_z⟩ := hm_z
      replace hm_z := rn_put (am_cur_of (i := (65, 3, .putfield 467, (12, 66, 1450), 0)) (by decide +kernel)) (by decide +kernel) hm_z
      replace hm_z := rn_aload_n (am_cur_of (i := (68, 1, .aload_n 0, (0, 0, 0), 0)) (by decide +kernel)) g0_z hm_z
      replace hm_z := rn_iload (am_cur_of (i := (69, 2, .iload 6, (0, 0, 0), 0)) (by decide +kernel)) g6_z hm_z
      replace hm_z := rn_put (am_cur_of (i := (71, 3, .putfield 470, (12, 67, 1451), 0)) (by decide +kernel)) (by decide +kernel) hm_z
      replace hm_z := rn_aload_n (am_cur_of (i := (74, 1, .aload_n 0, (0, 0, 0), 0)) (by decide +kernel)) g0_z hm_z
      replace hm_z := rn_getR (x := 195) (am_cur_of (i := (75, 3, .getfield 109, (12, 68, 1452), 0)) (by decide +kernel)) (by decide +kernel) hm_z
      replace hm_z := rn_iconst (w := 0) (am_cur_of (i := (78, 1, .iconst 0, (0, 0, 0), 0)) (by decide +kernel)) (by decide) hm_z
      replace hm_z := rn_iload_n (am_cur_of (i := (79, 1, .iload_n 2, (0, 0, 0), 0)) (by decide +kernel)) g2_z hm_z
      replace hm_z := rn_iastore (N := 4) (q := 0) (am_cur_of (i := (80, 1, .iastore, (0, 0, 0), 0)) (by decide +kernel)) (by decide +kernel) rfl hm_z
      obtain ⟨p1129_z, hm_z⟩ := hm_z
      replace hm_z := rn_aload_n (am_cur_of (i := (81, 1, .aload_n 0, (0, 0, 0), 0)) (by decide +kernel)) g0_z hm_z
      replace hm_z := rn_getR (x := 195) (am_cur_of (i := (82, 3, .getfield 109, (12, 68, 1452), 0)) (by decide +kernel)) (by decide +kernel) hm_z
      replace hm_z := rn_iconst (w := 1) (am_cur_of (i := (85, 1, .iconst 1, (0, 0, 0), 0)) (by decide +kernel)) (by decide) hm_z
      replace hm_z := rn_iload_n (am_cur_of (i := (86, 1, .iload_n 3, (0, 0, 0), 0)) (by decide +kernel)) g3_z hm_z
      replace hm_z := rn_iastore (N := 4) (q := 1) (am_cur_of (i := (87, 1, .iastore, (0, 0, 0), 0)) (by decide +kernel)) (by decide +kernel) rfl hm_z
      obtain ⟨p1130_z, hm_z⟩ := hm_z
      replace hm_z := rn_aload_n (am_cur_of (i := (88, 1, .aload_n 0, (0, 0, 0), 0)) (by decide +kernel)) g0_z hm_z
      replace hm_z := rn_getR (x := 195) (am_cur_of (i := (89, 3, .getfield 109, (12, 68, 1452), 0)) (by decide +kernel)) (by decide +kernel) hm_z
      replace hm_z := rn_iconst (w := 2) (am_cur_of (i := (92, 1, .iconst 2, (0, 0, 0), 0)) (by decide +kernel)) (by decide) hm_z
      replace hm_z := rn_iload (am_cur_of (i := (93, 2, .iload 4, (0, 0, 0), 0)) (by decide +kernel)) g4_z hm_z
      replace hm_z := rn_iastore (N := 4) (q := 2) (am_cur_of (i := (95, 1, .iastore, (0, 0, 0), 0)) (by decide +kernel)) (by decide +kernel) rfl hm_z
      obtain ⟨p1131_z, hm_z⟩ := hm_z
      replace hm_z := rn_aload_n (am_cur_of (i := (96, 1, .aload_n 0, (0, 0, 0), 0)) (by decide +kernel)) g0_z hm_z
      replace hm_z := rn_getR (x := 195) (am_cur_of (i := (97, 3, .getfield 109, (12, 68, 1452), 0)) (by decide +kernel)) (by decide +kernel) hm_z
      replace hm_z := rn_iconst (w := 3) (am_cur_of (i := (100, 1, .iconst 3, (0, 0, 0), 0)) (by decide +kernel)) (by decide) hm_z
      replace hm_z := rn_iload (am_cur_of (i := (101, 2, .iload 5, (0, 0, 0), 0)) (by decide +kernel)) g5_z hm_z
      replace hm_z := rn_iastore (N := 4) (q := 3) (am_cur_of (i := (103, 1, .iastore, (0, 0, 0), 0)) (by decide +kernel)) (by decide +kernel) rfl hm_z
      obtain ⟨p1132_z, hm_z⟩ := hm_z
      replace hm_z := rn_vret (am_cur_of (i := (104, 1, .return_, (0, 0, 0), 0)) (by decide +kernel)) hm_z
      obtain ⟨e1133_z, e1134_z⟩ := hm_z
      rw [e1134_z]
      exact (bk_u rfl (bk_u rfl (bk_u rfl (bk_u rfl (bk_u (by decide) (bk_u (by decide) bk_r))))))
    have H31 : ∀ (ls : am_L) (g : am_H), rn (f + 1) am_m221 31 ls [] g r g' → bk g g' := by
      intro ls g hm_z
      replace hm_z := rn_vret (am_cur_of (i := (57, 1, .return_, (0, 0, 0), 0)) (by decide +kernel)) hm_z
      obtain ⟨e1135_z, e1136_z⟩ := hm_z
      rw [e1136_z]
      exact bk_r
    exact ⟨H31, H32⟩
theorem fk_221 {nst : Nat} {r : Option Value} {g g' : am_H} {b : Int32} {k : Int32} {n : Int32} {i : Int32} {m : Int32}  (hm_z : rn nst am_m221 0 (lv_args 0 [.ref 164, .int b, .int k, .int n, .int i, .int m]) [] g r g') : bk g g' := by
  have z0_z : (0 : Int32).toInt = 0 := by decide
  have g0_z : am_get (lv_args 0 [.ref 164, .int b, .int k, .int n, .int i, .int m]) 0 = some (.ref 164) := rfl
  have g1_z : am_get (lv_args 0 [.ref 164, .int b, .int k, .int n, .int i, .int m]) 1 = some (.int b) := rfl
  have g2_z : am_get (lv_args 0 [.ref 164, .int b, .int k, .int n, .int i, .int m]) 2 = some (.int k) := rfl
  have g3_z : am_get (lv_args 0 [.ref 164, .int b, .int k, .int n, .int i, .int m]) 3 = some (.int n) := rfl
  have g4_z : am_get (lv_args 0 [.ref 164, .int b, .int k, .int n, .int i, .int m]) 4 = some (.int i) := rfl
  have g5_z : am_get (lv_args 0 [.ref 164, .int b, .int k, .int n, .int i, .int m]) 5 = some (.int m) := rfl
  replace hm_z := rn_aload_n (am_cur_of (i := (0, 1, .aload_n 0, (0, 0, 0), 0)) (by decide +kernel)) g0_z hm_z
  replace hm_z := rn_getR (x := 189) (am_cur_of (i := (1, 3, .getfield 88, (12, 51, 1435), 0)) (by decide +kernel)) (by decide +kernel) hm_z
  replace hm_z := rn_iload_n (am_cur_of (i := (4, 1, .iload_n 1, (0, 0, 0), 0)) (by decide +kernel)) g1_z hm_z
  replace hm_z := rn_iaload (N := 4) (q := b.toNatClampNeg) (v := rg_v g 189 b.toNatClampNeg) (am_cur_of (i := (5, 1, .iaload, (0, 0, 0), 0)) (by decide +kernel)) (by decide +kernel) rfl rfl hm_z
  obtain ⟨p1137_z, hm_z⟩ := hm_z
  replace hm_z := rn_aload_n (am_cur_of (i := (6, 1, .aload_n 0, (0, 0, 0), 0)) (by decide +kernel)) g0_z hm_z
  replace hm_z := rn_getR (x := 189) (am_cur_of (i := (7, 3, .getfield 88, (12, 51, 1435), 0)) (by decide +kernel)) (by decide +kernel) hm_z
  replace hm_z := rn_iconst (w := 0) (am_cur_of (i := (10, 1, .iconst 0, (0, 0, 0), 0)) (by decide +kernel)) (by decide) hm_z
  replace hm_z := rn_iaload (N := 4) (q := 0) (v := rg_v g 189 0) (am_cur_of (i := (11, 1, .iaload, (0, 0, 0), 0)) (by decide +kernel)) (by decide +kernel) rfl rfl hm_z
  obtain ⟨p1138_z, hm_z⟩ := hm_z
  replace hm_z := rn_isub (w := (rg_v g 189 b.toNatClampNeg) - (rg_v g 189 0)) (am_cur_of (i := (12, 1, .isub, (0, 0, 0), 0)) (by decide +kernel)) rfl hm_z
  replace hm_z := rn_istore (am_cur_of (i := (13, 2, .istore 6, (0, 0, 0), 0)) (by decide +kernel)) hm_z
  obtain ⟨_, s1139_z, s1140_z, g6_z, hm_z⟩ := hm_z
  replace g0_z := s1139_z 0 _ (by decide) rfl g0_z
  replace g1_z := s1139_z 1 _ (by decide) rfl g1_z
  replace g2_z := s1139_z 2 _ (by decide) rfl g2_z
  replace g3_z := s1139_z 3 _ (by decide) rfl g3_z
  replace g4_z := s1139_z 4 _ (by decide) rfl g4_z
  replace g5_z := s1139_z 5 _ (by decide) rfl g5_z
  clear s1139_z s1140_z
  replace hm_z := rn_aload_n (am_cur_of (i := (15, 1, .aload_n 0, (0, 0, 0), 0)) (by decide +kernel)) g0_z hm_z
  replace hm_z := rn_getI (v := rg_v g 164 66) (am_cur_of (i := (16, 3, .getfield 467, (12, 66, 1450), 0)) (by decide +kernel)) (by decide +kernel) rfl hm_z
  replace hm_z := rn_if (am_cur_of (i := (19, 3, .ifCond .lt 39, (32, 0, 0), 0)) (by decide +kernel)) hm_z
  rcases hm_z with ⟨b1141_z, hm_z⟩ | ⟨b1141_z, hm_z⟩
  · replace b1141_z : (rg_v g 164 66).toInt < (0 : Int32).toInt := b1141_z
    have H32 := (fk_221_L (r := r) (g' := g') (b := b) (k := k) (n := n) (i := i) (m := m)  nst).2
    exact bk_t bk_r (H32 ((rg_v g 189 b.toNatClampNeg) - (rg_v g 189 0)) _ _ g0_z g1_z g2_z g3_z g4_z g5_z g6_z hm_z)
  · replace b1141_z : (0 : Int32).toInt ≤ (rg_v g 164 66).toInt := b1141_z
    replace hm_z := rn_aload_n (am_cur_of (i := (22, 1, .aload_n 0, (0, 0, 0), 0)) (by decide +kernel)) g0_z hm_z
    replace hm_z := rn_getR (x := 188) (am_cur_of (i := (23, 3, .getfield 85, (12, 50, 1434), 0)) (by decide +kernel)) (by decide +kernel) hm_z
    replace hm_z := rn_iload_n (am_cur_of (i := (26, 1, .iload_n 1, (0, 0, 0), 0)) (by decide +kernel)) g1_z hm_z
    replace hm_z := rn_iaload (N := 4) (q := b.toNatClampNeg) (v := rg_v g 188 b.toNatClampNeg) (am_cur_of (i := (27, 1, .iaload, (0, 0, 0), 0)) (by decide +kernel)) (by decide +kernel) rfl rfl hm_z
    obtain ⟨p1142_z, hm_z⟩ := hm_z
    replace hm_z := rn_aload_n (am_cur_of (i := (28, 1, .aload_n 0, (0, 0, 0), 0)) (by decide +kernel)) g0_z hm_z
    replace hm_z := rn_getI (v := rg_v g 164 66) (am_cur_of (i := (29, 3, .getfield 467, (12, 66, 1450), 0)) (by decide +kernel)) (by decide +kernel) rfl hm_z
    replace hm_z := rn_cmp (am_cur_of (i := (32, 3, .if_icmp .lt 25, (31, 0, 0), 0)) (by decide +kernel)) hm_z
    rcases hm_z with ⟨b1143_z, hm_z⟩ | ⟨b1143_z, hm_z⟩
    · replace b1143_z : (rg_v g 188 b.toNatClampNeg).toInt < (rg_v g 164 66).toInt := b1143_z
      have H31 := (fk_221_L (r := r) (g' := g') (b := b) (k := k) (n := n) (i := i) (m := m)  nst).1
      exact bk_t bk_r (H31 _ _ hm_z)
    · replace b1143_z : (rg_v g 164 66).toInt ≤ (rg_v g 188 b.toNatClampNeg).toInt := b1143_z
      replace hm_z := rn_aload_n (am_cur_of (i := (35, 1, .aload_n 0, (0, 0, 0), 0)) (by decide +kernel)) g0_z hm_z
      replace hm_z := rn_getR (x := 188) (am_cur_of (i := (36, 3, .getfield 85, (12, 50, 1434), 0)) (by decide +kernel)) (by decide +kernel) hm_z
      replace hm_z := rn_iload_n (am_cur_of (i := (39, 1, .iload_n 1, (0, 0, 0), 0)) (by decide +kernel)) g1_z hm_z
      replace hm_z := rn_iaload (N := 4) (q := b.toNatClampNeg) (v := rg_v g 188 b.toNatClampNeg) (am_cur_of (i := (40, 1, .iaload, (0, 0, 0), 0)) (by decide +kernel)) (by decide +kernel) rfl rfl hm_z
      obtain ⟨p1144_z, hm_z⟩ := hm_z
      replace hm_z := rn_aload_n (am_cur_of (i := (41, 1, .aload_n 0, (0, 0, 0), 0)) (by decide +kernel)) g0_z hm_z
      replace hm_z := rn_getI (v := rg_v g 164 66) (am_cur_of (i := (42, 3, .getfield 467, (12, 66, 1450), 0)) (by decide +kernel)) (by decide +kernel) rfl hm_z
      replace hm_z := rn_cmp (am_cur_of (i := (45, 3, .if_icmp .ne 13, (32, 0, 0), 0)) (by decide +kernel)) hm_z
      rcases hm_z with ⟨b1145_z, hm_z⟩ | ⟨b1145_z, hm_z⟩
      · replace b1145_z : ¬ (rg_v g 188 b.toNatClampNeg) = (rg_v g 164 66) ∧ ¬ (rg_v g 188 b.toNatClampNeg).toInt = (rg_v g 164 66).toInt := b1145_z
        have H32 := (fk_221_L (r := r) (g' := g') (b := b) (k := k) (n := n) (i := i) (m := m)  nst).2
        exact bk_t bk_r (H32 ((rg_v g 189 b.toNatClampNeg) - (rg_v g 189 0)) _ _ g0_z g1_z g2_z g3_z g4_z g5_z g6_z hm_z)
      · replace b1145_z : (rg_v g 188 b.toNatClampNeg) = (rg_v g 164 66) ∧ (rg_v g 188 b.toNatClampNeg).toInt = (rg_v g 164 66).toInt := b1145_z
        replace hm_z := rn_iload (am_cur_of (i := (48, 2, .iload 6, (0, 0, 0), 0)) (by decide +kernel)) g6_z hm_z
        replace hm_z := rn_aload_n (am_cur_of (i := (50, 1, .aload_n 0, (0, 0, 0), 0)) (by decide +kernel)) g0_z hm_z
        replace hm_z := rn_getI (v := rg_v g 164 67) (am_cur_of (i := (51, 3, .getfield 470, (12, 67, 1451), 0)) (by decide +kernel)) (by decide +kernel) rfl hm_z
        replace hm_z := rn_cmp (am_cur_of (i := (54, 3, .if_icmp .lt 4, (32, 0, 0), 0)) (by decide +kernel)) hm_z
        rcases hm_z with ⟨b1146_z, hm_z⟩ | ⟨b1146_z, hm_z⟩
        · replace b1146_z : ((rg_v g 189 b.toNatClampNeg) - (rg_v g 189 0)).toInt < (rg_v g 164 67).toInt := b1146_z
          have H32 := (fk_221_L (r := r) (g' := g') (b := b) (k := k) (n := n) (i := i) (m := m)  nst).2
          exact bk_t bk_r (H32 ((rg_v g 189 b.toNatClampNeg) - (rg_v g 189 0)) _ _ g0_z g1_z g2_z g3_z g4_z g5_z g6_z hm_z)
        · replace b1146_z : (rg_v g 164 67).toInt ≤ ((rg_v g 189 b.toNatClampNeg) - (rg_v g 189 0)).toInt := b1146_z
          have H31 := (fk_221_L (r := r) (g' := g') (b := b) (k := k) (n := n) (i := i) (m := m)  nst).1
          exact bk_t bk_r (H31 _ _ hm_z)
theorem fk_222_L {r : Option Value} {g' : am_H} {k : Int32} {n : Int32}  : ∀ f : Nat, (∀ (v3_z : Int32) (ls : am_L) (g : am_H), am_get ls 0 = some (.ref 164) → am_get ls 1 = some (.int k) → am_get ls 2 = some (.int n) → am_get ls 3 = some (.int v3_z) → 0 ≤ v3_z.toInt → rn f am_m222 2 ls [] g r g' → bk g g') ∧ (∀ (v3_z : Int32) (v4_z : Int32) (v5_z : Int32) (ls : am_L) (g : am_H), am_get ls 0 = some (.ref 164) → am_get ls 1 = some (.int k) → am_get ls 2 = some (.int n) → am_get ls 3 = some (.int v3_z) → am_get ls 4 = some (.int v4_z) → am_get ls 5 = some (.int v5_z) → 0 ≤ v3_z.toInt ∧ v3_z.toInt ≤ 2147483646 → rn f am_m222 18 ls [] g r g' → bk g g') ∧ (∀ (v3_z : Int32) (v4_z : Int32) (v5_z : Int32) (ls : am_L) (g : am_H), am_get ls 0 = some (.ref 164) → am_get ls 1 = some (.int k) → am_get ls 2 = some (.int n) → am_get ls 3 = some (.int v3_z) → am_get ls 4 = some (.int v4_z) → am_get ls 5 = some (.int v5_z) → 0 ≤ v3_z.toInt ∧ v3_z.toInt ≤ 2147483646 → rn f am_m222 44 ls [] g r g' → bk g g') ∧ (∀ (v3_z : Int32) (ls : am_L) (g : am_H), am_get ls 0 = some (.ref 164) → am_get ls 1 = some (.int k) → am_get ls 2 = some (.int n) → am_get ls 3 = some (.int v3_z) → 0 ≤ v3_z.toInt ∧ v3_z.toInt ≤ 2147483646 → rn f am_m222 46 ls [] g r g' → bk g g') := by
  intro f
  induction f with
  | zero =>
    exact ⟨fun _ _ _ _ _ _ _ _ hm_z => absurd hm_z rn_0, fun _ _ _ _ _ _ _ _ _ _ _ _ hm_z => absurd hm_z rn_0, fun _ _ _ _ _ _ _ _ _ _ _ _ hm_z => absurd hm_z rn_0, fun _ _ _ _ _ _ _ _ hm_z => absurd hm_z rn_0⟩
  | succ f ih_z =>
    obtain ⟨I2, I18, I44, I46⟩ := ih_z
    have H46 : ∀ (v3_z : Int32) (ls : am_L) (g : am_H), am_get ls 0 = some (.ref 164) → am_get ls 1 = some (.int k) → am_get ls 2 = some (.int n) → am_get ls 3 = some (.int v3_z) → 0 ≤ v3_z.toInt ∧ v3_z.toInt ≤ 2147483646 → rn (f + 1) am_m222 46 ls [] g r g' → bk g g' := by
      intro v3_z ls g g0_z g1_z g2_z g3_z i3_0 hm_z
      have cv3_z := fk_c2 (i := v3_z) (by omega)
      replace hm_z := rn_iinc (w := v3_z + 1) (am_cur_of (i := (78, 3, .iinc 3 1, (0, 0, 0), 0)) (by decide +kernel)) g3_z rfl hm_z
      obtain ⟨_, s1147_z, s1148_z, g3_z, hm_z⟩ := hm_z
      replace g0_z := s1147_z 0 _ (by decide) rfl g0_z
      replace g1_z := s1147_z 1 _ (by decide) rfl g1_z
      replace g2_z := s1147_z 2 _ (by decide) rfl g2_z
      clear s1147_z s1148_z
      replace hm_z := rn_gotoL (am_cur_of (i := (81, 3, .goto (-79), (2, 0, 0), 0)) (by decide +kernel)) hm_z
      exact bk_t bk_r (I2 (v3_z + 1) _ _ g0_z g1_z g2_z g3_z (show 0 ≤ (v3_z + 1).toInt by omega) hm_z)
    have H44 : ∀ (v3_z : Int32) (v4_z : Int32) (v5_z : Int32) (ls : am_L) (g : am_H), am_get ls 0 = some (.ref 164) → am_get ls 1 = some (.int k) → am_get ls 2 = some (.int n) → am_get ls 3 = some (.int v3_z) → am_get ls 4 = some (.int v4_z) → am_get ls 5 = some (.int v5_z) → 0 ≤ v3_z.toInt ∧ v3_z.toInt ≤ 2147483646 → rn (f + 1) am_m222 44 ls [] g r g' → bk g g' := by
      intro v3_z v4_z v5_z ls g g0_z g1_z g2_z g3_z g4_z g5_z i3_0 hm_z
      have cv3_z := fk_c2 (i := v3_z) (by omega)
      replace hm_z := rn_iinc (w := v5_z + 1) (am_cur_of (i := (72, 3, .iinc 5 1, (0, 0, 0), 0)) (by decide +kernel)) g5_z rfl hm_z
      obtain ⟨_, s1149_z, s1150_z, g5_z, hm_z⟩ := hm_z
      replace g0_z := s1149_z 0 _ (by decide) rfl g0_z
      replace g1_z := s1149_z 1 _ (by decide) rfl g1_z
      replace g2_z := s1149_z 2 _ (by decide) rfl g2_z
      replace g3_z := s1149_z 3 _ (by decide) rfl g3_z
      replace g4_z := s1149_z 4 _ (by decide) rfl g4_z
      clear s1149_z s1150_z
      replace hm_z := rn_gotoL (am_cur_of (i := (75, 3, .goto (-47), (18, 0, 0), 0)) (by decide +kernel)) hm_z
      exact bk_t bk_r (I18 v3_z v4_z (v5_z + 1) _ _ g0_z g1_z g2_z g3_z g4_z g5_z (show 0 ≤ v3_z.toInt ∧ v3_z.toInt ≤ 2147483646 by omega) hm_z)
    have H18 : ∀ (v3_z : Int32) (v4_z : Int32) (v5_z : Int32) (ls : am_L) (g : am_H), am_get ls 0 = some (.ref 164) → am_get ls 1 = some (.int k) → am_get ls 2 = some (.int n) → am_get ls 3 = some (.int v3_z) → am_get ls 4 = some (.int v4_z) → am_get ls 5 = some (.int v5_z) → 0 ≤ v3_z.toInt ∧ v3_z.toInt ≤ 2147483646 → rn (f + 1) am_m222 18 ls [] g r g' → bk g g' := by
      intro v3_z v4_z v5_z ls g g0_z g1_z g2_z g3_z g4_z g5_z i3_0 hm_z
      have z0_z : (0 : Int32).toInt = 0 := by decide
      have cv3_z := fk_c2 (i := v3_z) (by omega)
      replace hm_z := rn_iload (am_cur_of (i := (28, 2, .iload 5, (0, 0, 0), 0)) (by decide +kernel)) g5_z hm_z
      replace hm_z := rn_aload_n (am_cur_of (i := (30, 1, .aload_n 0, (0, 0, 0), 0)) (by decide +kernel)) g0_z hm_z
      replace hm_z := rn_getR (x := 170) (am_cur_of (i := (31, 3, .getfield 30, (12, 25, 1409), 0)) (by decide +kernel)) (by decide +kernel) hm_z
      replace hm_z := rn_bipush (w := 7) (am_cur_of (i := (34, 2, .bipush 7, (0, 0, 0), 0)) (by decide +kernel)) (by decide) hm_z
      replace hm_z := rn_iload_n (am_cur_of (i := (36, 1, .iload_n 3, (0, 0, 0), 0)) (by decide +kernel)) g3_z hm_z
      replace hm_z := rn_imul (w := (7 : Int32) * v3_z) (am_cur_of (i := (37, 1, .imul, (0, 0, 0), 0)) (by decide +kernel)) rfl hm_z
      replace hm_z := rn_iconst (w := 2) (am_cur_of (i := (38, 1, .iconst 2, (0, 0, 0), 0)) (by decide +kernel)) (by decide) hm_z
      replace hm_z := rn_iadd (w := ((7 : Int32) * v3_z) + 2) (am_cur_of (i := (39, 1, .iadd, (0, 0, 0), 0)) (by decide +kernel)) rfl hm_z
      replace hm_z := rn_iaload (N := 56) (q := (((7 : Int32) * v3_z) + 2).toNatClampNeg) (v := rg_v g 170 ((((7 : Int32) * v3_z) + 2).toNatClampNeg)) (am_cur_of (i := (40, 1, .iaload, (0, 0, 0), 0)) (by decide +kernel)) (by decide +kernel) rfl rfl hm_z
      obtain ⟨p1151_z, hm_z⟩ := hm_z
      replace hm_z := rn_cmp (am_cur_of (i := (41, 3, .if_icmp .gt 37, (46, 0, 0), 0)) (by decide +kernel)) hm_z
      rcases hm_z with ⟨b1152_z, hm_z⟩ | ⟨b1152_z, hm_z⟩
      · replace b1152_z : (rg_v g 170 ((((7 : Int32) * v3_z) + 2).toNatClampNeg)).toInt < v5_z.toInt := b1152_z
        exact bk_t bk_r (H46 v3_z _ _ g0_z g1_z g2_z g3_z (show 0 ≤ v3_z.toInt ∧ v3_z.toInt ≤ 2147483646 by omega) hm_z)
      · replace b1152_z : v5_z.toInt ≤ (rg_v g 170 ((((7 : Int32) * v3_z) + 2).toNatClampNeg)).toInt := b1152_z
        replace hm_z := rn_iload (am_cur_of (i := (44, 2, .iload 4, (0, 0, 0), 0)) (by decide +kernel)) g4_z hm_z
        replace hm_z := rn_if (am_cur_of (i := (46, 3, .ifCond .eq 32, (46, 0, 0), 0)) (by decide +kernel)) hm_z
        rcases hm_z with ⟨b1153_z, hm_z⟩ | ⟨b1153_z, hm_z⟩
        · replace b1153_z : v4_z = (0 : Int32) ∧ v4_z.toInt = (0 : Int32).toInt := b1153_z
          exact bk_t bk_r (H46 v3_z _ _ g0_z g1_z g2_z g3_z (show 0 ≤ v3_z.toInt ∧ v3_z.toInt ≤ 2147483646 by omega) hm_z)
        · replace b1153_z : ¬ v4_z = (0 : Int32) ∧ ¬ v4_z.toInt = (0 : Int32).toInt := b1153_z
          replace hm_z := rn_aload_n (am_cur_of (i := (49, 1, .aload_n 0, (0, 0, 0), 0)) (by decide +kernel)) g0_z hm_z
          replace hm_z := rn_iconst (w := 2) (am_cur_of (i := (50, 1, .iconst 2, (0, 0, 0), 0)) (by decide +kernel)) (by decide) hm_z
          replace hm_z := rn_iload_n (am_cur_of (i := (51, 1, .iload_n 3, (0, 0, 0), 0)) (by decide +kernel)) g3_z hm_z
          replace hm_z := rn_callV (M' := am_m220) (o := 164) (ar := [.int v3_z, .int 2]) (rest := []) (L := lv_args 0 [.ref 164, .int 2, .int v3_z]) (am_cur_of (i := (52, 3, .invokevirtual 476, (220, 1911, 3), 0)) (by decide +kernel)) rfl rfl rfl rfl hm_z
          obtain ⟨r1154_z, h1155_z, q1156_z, hm_z⟩ := hm_z
          have k1157_z := fk_220_2 (by omega) q1156_z
          obtain ⟨v1158_z, rfl⟩ := rn_ret (M := am_m220) rfl (by decide) q1156_z
          replace hm_z : rn _ _ _ _ [.int v1158_z] _ _ _ := hm_z
          replace hm_z := rn_istore (am_cur_of (i := (55, 2, .istore 4, (0, 0, 0), 0)) (by decide +kernel)) hm_z
          obtain ⟨_, s1159_z, s1160_z, g4_z, hm_z⟩ := hm_z
          replace g0_z := s1159_z 0 _ (by decide) rfl g0_z
          replace g1_z := s1159_z 1 _ (by decide) rfl g1_z
          replace g2_z := s1159_z 2 _ (by decide) rfl g2_z
          replace g3_z := s1159_z 3 _ (by decide) rfl g3_z
          replace g5_z := s1159_z 5 _ (by decide) rfl g5_z
          clear s1159_z s1160_z
          replace hm_z := rn_iload (am_cur_of (i := (57, 2, .iload 4, (0, 0, 0), 0)) (by decide +kernel)) g4_z hm_z
          replace hm_z := rn_if (am_cur_of (i := (59, 3, .ifCond .eq 13, (44, 0, 0), 0)) (by decide +kernel)) hm_z
          rcases hm_z with ⟨b1161_z, hm_z⟩ | ⟨b1161_z, hm_z⟩
          · replace b1161_z : v1158_z = (0 : Int32) ∧ v1158_z.toInt = (0 : Int32).toInt := b1161_z
            exact bk_t (bk_t bk_r k1157_z) (H44 v3_z v1158_z v5_z _ _ g0_z g1_z g2_z g3_z g4_z g5_z (show 0 ≤ v3_z.toInt ∧ v3_z.toInt ≤ 2147483646 by omega) hm_z)
          · replace b1161_z : ¬ v1158_z = (0 : Int32) ∧ ¬ v1158_z.toInt = (0 : Int32).toInt := b1161_z
            replace hm_z := rn_aload_n (am_cur_of (i := (62, 1, .aload_n 0, (0, 0, 0), 0)) (by decide +kernel)) g0_z hm_z
            replace hm_z := rn_iconst (w := 2) (am_cur_of (i := (63, 1, .iconst 2, (0, 0, 0), 0)) (by decide +kernel)) (by decide) hm_z
            replace hm_z := rn_iload_n (am_cur_of (i := (64, 1, .iload_n 1, (0, 0, 0), 0)) (by decide +kernel)) g1_z hm_z
            replace hm_z := rn_iload_n (am_cur_of (i := (65, 1, .iload_n 2, (0, 0, 0), 0)) (by decide +kernel)) g2_z hm_z
            replace hm_z := rn_iload_n (am_cur_of (i := (66, 1, .iload_n 3, (0, 0, 0), 0)) (by decide +kernel)) g3_z hm_z
            replace hm_z := rn_iload (am_cur_of (i := (67, 2, .iload 5, (0, 0, 0), 0)) (by decide +kernel)) g5_z hm_z
            replace hm_z := rn_callV (M' := am_m221) (o := 164) (ar := [.int v5_z, .int v3_z, .int n, .int k, .int 2]) (rest := []) (L := lv_args 0 [.ref 164, .int 2, .int k, .int n, .int v3_z, .int v5_z]) (am_cur_of (i := (69, 3, .invokevirtual 479, (221, 1915, 3), 0)) (by decide +kernel)) rfl rfl rfl rfl hm_z
            obtain ⟨r1162_z, h1163_z, q1164_z, hm_z⟩ := hm_z
            have k1165_z := fk_221 q1164_z
            have vo := rn_void rfl q1164_z
            subst vo
            replace hm_z : rn _ _ _ _ [] _ _ _ := hm_z
            exact bk_t (bk_t (bk_t bk_r k1157_z) k1165_z) (H44 v3_z v1158_z v5_z _ _ g0_z g1_z g2_z g3_z g4_z g5_z (show 0 ≤ v3_z.toInt ∧ v3_z.toInt ≤ 2147483646 by omega) hm_z)
    have H2 : ∀ (v3_z : Int32) (ls : am_L) (g : am_H), am_get ls 0 = some (.ref 164) → am_get ls 1 = some (.int k) → am_get ls 2 = some (.int n) → am_get ls 3 = some (.int v3_z) → 0 ≤ v3_z.toInt → rn (f + 1) am_m222 2 ls [] g r g' → bk g g' := by
      intro v3_z ls g g0_z g1_z g2_z g3_z i3_0 hm_z
      replace hm_z := rn_iload_n (am_cur_of (i := (2, 1, .iload_n 3, (0, 0, 0), 0)) (by decide +kernel)) g3_z hm_z
      replace hm_z := rn_aload_n (am_cur_of (i := (3, 1, .aload_n 0, (0, 0, 0), 0)) (by decide +kernel)) g0_z hm_z
      replace hm_z := rn_getI (v := rg_v g 164 12) (am_cur_of (i := (4, 3, .getfield 219, (12, 12, 1396), 0)) (by decide +kernel)) (by decide +kernel) rfl hm_z
      replace hm_z := rn_cmp (am_cur_of (i := (7, 3, .if_icmp .ge 77, (48, 0, 0), 0)) (by decide +kernel)) hm_z
      rcases hm_z with ⟨b1166_z, hm_z⟩ | ⟨b1166_z, hm_z⟩
      · replace b1166_z : (rg_v g 164 12).toInt ≤ v3_z.toInt := b1166_z
        replace hm_z := rn_vret (am_cur_of (i := (84, 1, .return_, (0, 0, 0), 0)) (by decide +kernel)) hm_z
        obtain ⟨e1167_z, e1168_z⟩ := hm_z
        rw [e1168_z]
        exact bk_r
      · replace b1166_z : v3_z.toInt < (rg_v g 164 12).toInt := b1166_z
        have cv3_z := fk_c1 b1166_z
        have dv3_z := (ab_32 (rg_v g 164 12)).2
        replace hm_z := rn_aload_n (am_cur_of (i := (10, 1, .aload_n 0, (0, 0, 0), 0)) (by decide +kernel)) g0_z hm_z
        replace hm_z := rn_iconst (w := 2) (am_cur_of (i := (11, 1, .iconst 2, (0, 0, 0), 0)) (by decide +kernel)) (by decide) hm_z
        replace hm_z := rn_iconst (w := 1) (am_cur_of (i := (12, 1, .iconst 1, (0, 0, 0), 0)) (by decide +kernel)) (by decide) hm_z
        replace hm_z := rn_callV (M' := am_m197) (o := 164) (ar := [.int 1, .int 2]) (rest := []) (L := lv_args 0 [.ref 164, .int 2, .int 1]) (am_cur_of (i := (13, 3, .invokevirtual 428, (197, 1820, 3), 0)) (by decide +kernel)) rfl rfl rfl rfl hm_z
        obtain ⟨r1169_z, h1170_z, q1171_z, hm_z⟩ := hm_z
        have k1172_z := fk_197_2_1 q1171_z
        have vo := rn_void rfl q1171_z
        subst vo
        replace hm_z : rn _ _ _ _ [] _ _ _ := hm_z
        replace hm_z := rn_aload_n (am_cur_of (i := (16, 1, .aload_n 0, (0, 0, 0), 0)) (by decide +kernel)) g0_z hm_z
        replace hm_z := rn_iconst (w := 2) (am_cur_of (i := (17, 1, .iconst 2, (0, 0, 0), 0)) (by decide +kernel)) (by decide) hm_z
        replace hm_z := rn_iload_n (am_cur_of (i := (18, 1, .iload_n 3, (0, 0, 0), 0)) (by decide +kernel)) g3_z hm_z
        replace hm_z := rn_callV (M' := am_m219) (o := 164) (ar := [.int v3_z, .int 2]) (rest := []) (L := lv_args 0 [.ref 164, .int 2, .int v3_z]) (am_cur_of (i := (19, 3, .invokevirtual 473, (219, 1907, 3), 0)) (by decide +kernel)) rfl rfl rfl rfl hm_z
        obtain ⟨r1173_z, h1174_z, q1175_z, hm_z⟩ := hm_z
        have k1176_z := fk_219_2 q1175_z
        have vo := rn_void rfl q1175_z
        subst vo
        replace hm_z : rn _ _ _ _ [] _ _ _ := hm_z
        replace hm_z := rn_iconst (w := 1) (am_cur_of (i := (22, 1, .iconst 1, (0, 0, 0), 0)) (by decide +kernel)) (by decide) hm_z
        replace hm_z := rn_istore (am_cur_of (i := (23, 2, .istore 4, (0, 0, 0), 0)) (by decide +kernel)) hm_z
        obtain ⟨_, s1177_z, s1178_z, g4_z, hm_z⟩ := hm_z
        replace g0_z := s1177_z 0 _ (by decide) rfl g0_z
        replace g1_z := s1177_z 1 _ (by decide) rfl g1_z
        replace g2_z := s1177_z 2 _ (by decide) rfl g2_z
        replace g3_z := s1177_z 3 _ (by decide) rfl g3_z
        clear s1177_z s1178_z
        replace hm_z := rn_iconst (w := 1) (am_cur_of (i := (25, 1, .iconst 1, (0, 0, 0), 0)) (by decide +kernel)) (by decide) hm_z
        replace hm_z := rn_istore (am_cur_of (i := (26, 2, .istore 5, (0, 0, 0), 0)) (by decide +kernel)) hm_z
        obtain ⟨_, s1179_z, s1180_z, g5_z, hm_z⟩ := hm_z
        replace g0_z := s1179_z 0 _ (by decide) rfl g0_z
        replace g1_z := s1179_z 1 _ (by decide) rfl g1_z
        replace g2_z := s1179_z 2 _ (by decide) rfl g2_z
        replace g3_z := s1179_z 3 _ (by decide) rfl g3_z
        replace g4_z := s1179_z 4 _ (by decide) rfl g4_z
        clear s1179_z s1180_z
        exact bk_t (bk_t (bk_t bk_r k1172_z) k1176_z) (H18 v3_z 1 1 _ _ g0_z g1_z g2_z g3_z g4_z g5_z (show 0 ≤ v3_z.toInt ∧ v3_z.toInt ≤ 2147483646 by omega) hm_z)
    exact ⟨H2, H18, H44, H46⟩
theorem fk_222 {nst : Nat} {r : Option Value} {g g' : am_H} {k : Int32} {n : Int32}  (hm_z : rn nst am_m222 0 (lv_args 0 [.ref 164, .int k, .int n]) [] g r g') : bk g g' := by
  have g0_z : am_get (lv_args 0 [.ref 164, .int k, .int n]) 0 = some (.ref 164) := rfl
  have g1_z : am_get (lv_args 0 [.ref 164, .int k, .int n]) 1 = some (.int k) := rfl
  have g2_z : am_get (lv_args 0 [.ref 164, .int k, .int n]) 2 = some (.int n) := rfl
  replace hm_z := rn_iconst (w := 0) (am_cur_of (i := (0, 1, .iconst 0, (0, 0, 0), 0)) (by decide +kernel)) (by decide) hm_z
  replace hm_z := rn_istore_n (am_cur_of (i := (1, 1, .istore_n 3, (0, 0, 0), 0)) (by decide +kernel)) hm_z
  obtain ⟨_, s1181_z, s1182_z, g3_z, hm_z⟩ := hm_z
  replace g0_z := s1181_z 0 _ (by decide) rfl g0_z
  replace g1_z := s1181_z 1 _ (by decide) rfl g1_z
  replace g2_z := s1181_z 2 _ (by decide) rfl g2_z
  clear s1181_z s1182_z
  have H2 := (fk_222_L (r := r) (g' := g') (k := k) (n := n)  nst).1
  exact bk_t bk_r (H2 0 _ _ g0_z g1_z g2_z g3_z (show 0 ≤ (0 : Int32).toInt by decide) hm_z)
theorem fk_218_L {r : Option Value} {g' : am_H} {n : Int32}  : ∀ f : Nat, (∀ (v2_z : Int32) (ls : am_L) (g : am_H), am_get ls 0 = some (.ref 164) → am_get ls 1 = some (.int n) → am_get ls 2 = some (.int v2_z) → 0 ≤ v2_z.toInt → rn f am_m218 5 ls [] g r g' → bk g g') ∧ (∀ (v2_z : Int32) (v3_z : Int32) (v4_z : Int32) (ls : am_L) (g : am_H), am_get ls 0 = some (.ref 164) → am_get ls 1 = some (.int n) → am_get ls 2 = some (.int v2_z) → am_get ls 3 = some (.int v3_z) → am_get ls 4 = some (.int v4_z) → 0 ≤ v2_z.toInt ∧ v2_z.toInt ≤ 2147483646 → rn f am_m218 21 ls [] g r g' → bk g g') ∧ (∀ (v2_z : Int32) (v3_z : Int32) (v4_z : Int32) (ls : am_L) (g : am_H), am_get ls 0 = some (.ref 164) → am_get ls 1 = some (.int n) → am_get ls 2 = some (.int v2_z) → am_get ls 3 = some (.int v3_z) → am_get ls 4 = some (.int v4_z) → 0 ≤ v2_z.toInt ∧ v2_z.toInt ≤ 2147483646 → rn f am_m218 50 ls [] g r g' → bk g g') ∧ (∀ (v2_z : Int32) (v3_z : Int32) (v4_z : Int32) (ls : am_L) (g : am_H), am_get ls 0 = some (.ref 164) → am_get ls 1 = some (.int n) → am_get ls 2 = some (.int v2_z) → am_get ls 3 = some (.int v3_z) → am_get ls 4 = some (.int v4_z) → 0 ≤ v2_z.toInt ∧ v2_z.toInt ≤ 2147483646 → rn f am_m218 59 ls [] g r g' → bk g g') ∧ (∀ (v2_z : Int32) (ls : am_L) (g : am_H), am_get ls 0 = some (.ref 164) → am_get ls 1 = some (.int n) → am_get ls 2 = some (.int v2_z) → 0 ≤ v2_z.toInt ∧ v2_z.toInt ≤ 2147483646 → rn f am_m218 61 ls [] g r g' → bk g g') := by
  intro f
  induction f with
  | zero =>
    exact ⟨fun _ _ _ _ _ _ _ hm_z => absurd hm_z rn_0, fun _ _ _ _ _ _ _ _ _ _ _ hm_z => absurd hm_z rn_0, fun _ _ _ _ _ _ _ _ _ _ _ hm_z => absurd hm_z rn_0, fun _ _ _ _ _ _ _ _ _ _ _ hm_z => absurd hm_z rn_0, fun _ _ _ _ _ _ _ hm_z => absurd hm_z rn_0⟩
  | succ f ih_z =>
    obtain ⟨I5, I21, I50, I59, I61⟩ := ih_z
    have H61 : ∀ (v2_z : Int32) (ls : am_L) (g : am_H), am_get ls 0 = some (.ref 164) → am_get ls 1 = some (.int n) → am_get ls 2 = some (.int v2_z) → 0 ≤ v2_z.toInt ∧ v2_z.toInt ≤ 2147483646 → rn (f + 1) am_m218 61 ls [] g r g' → bk g g' := by
      intro v2_z ls g g0_z g1_z g2_z i2_0 hm_z
      have cv2_z := fk_c2 (i := v2_z) (by omega)
      replace hm_z := rn_iinc (w := v2_z + 1) (am_cur_of (i := (100, 3, .iinc 2 1, (0, 0, 0), 0)) (by decide +kernel)) g2_z rfl hm_z
      obtain ⟨_, s1183_z, s1184_z, g2_z, hm_z⟩ := hm_z
      replace g0_z := s1183_z 0 _ (by decide) rfl g0_z
      replace g1_z := s1183_z 1 _ (by decide) rfl g1_z
      clear s1183_z s1184_z
      replace hm_z := rn_gotoL (am_cur_of (i := (103, 3, .goto (-96), (5, 0, 0), 0)) (by decide +kernel)) hm_z
      exact bk_t bk_r (I5 (v2_z + 1) _ _ g0_z g1_z g2_z (show 0 ≤ (v2_z + 1).toInt by omega) hm_z)
    have H59 : ∀ (v2_z : Int32) (v3_z : Int32) (v4_z : Int32) (ls : am_L) (g : am_H), am_get ls 0 = some (.ref 164) → am_get ls 1 = some (.int n) → am_get ls 2 = some (.int v2_z) → am_get ls 3 = some (.int v3_z) → am_get ls 4 = some (.int v4_z) → 0 ≤ v2_z.toInt ∧ v2_z.toInt ≤ 2147483646 → rn (f + 1) am_m218 59 ls [] g r g' → bk g g' := by
      intro v2_z v3_z v4_z ls g g0_z g1_z g2_z g3_z g4_z i2_0 hm_z
      have cv2_z := fk_c2 (i := v2_z) (by omega)
      replace hm_z := rn_iinc (w := v4_z + 1) (am_cur_of (i := (94, 3, .iinc 4 1, (0, 0, 0), 0)) (by decide +kernel)) g4_z rfl hm_z
      obtain ⟨_, s1185_z, s1186_z, g4_z, hm_z⟩ := hm_z
      replace g0_z := s1185_z 0 _ (by decide) rfl g0_z
      replace g1_z := s1185_z 1 _ (by decide) rfl g1_z
      replace g2_z := s1185_z 2 _ (by decide) rfl g2_z
      replace g3_z := s1185_z 3 _ (by decide) rfl g3_z
      clear s1185_z s1186_z
      replace hm_z := rn_gotoL (am_cur_of (i := (97, 3, .goto (-65), (21, 0, 0), 0)) (by decide +kernel)) hm_z
      exact bk_t bk_r (I21 v2_z v3_z (v4_z + 1) _ _ g0_z g1_z g2_z g3_z g4_z (show 0 ≤ v2_z.toInt ∧ v2_z.toInt ≤ 2147483646 by omega) hm_z)
    have H50 : ∀ (v2_z : Int32) (v3_z : Int32) (v4_z : Int32) (ls : am_L) (g : am_H), am_get ls 0 = some (.ref 164) → am_get ls 1 = some (.int n) → am_get ls 2 = some (.int v2_z) → am_get ls 3 = some (.int v3_z) → am_get ls 4 = some (.int v4_z) → 0 ≤ v2_z.toInt ∧ v2_z.toInt ≤ 2147483646 → rn (f + 1) am_m218 50 ls [] g r g' → bk g g' := by
      intro v2_z v3_z v4_z ls g g0_z g1_z g2_z g3_z g4_z i2_0 hm_z
      have z0_z : (0 : Int32).toInt = 0 := by decide
      have z2_z : (2 : Int32).toInt = 2 := by decide
      have cv2_z := fk_c2 (i := v2_z) (by omega)
      replace hm_z := rn_iload_n (am_cur_of (i := (78, 1, .iload_n 3, (0, 0, 0), 0)) (by decide +kernel)) g3_z hm_z
      replace hm_z := rn_if (am_cur_of (i := (79, 3, .ifCond .eq 15, (59, 0, 0), 0)) (by decide +kernel)) hm_z
      rcases hm_z with ⟨b1187_z, hm_z⟩ | ⟨b1187_z, hm_z⟩
      · replace b1187_z : v3_z = (0 : Int32) ∧ v3_z.toInt = (0 : Int32).toInt := b1187_z
        exact bk_t bk_r (H59 v2_z v3_z v4_z _ _ g0_z g1_z g2_z g3_z g4_z (show 0 ≤ v2_z.toInt ∧ v2_z.toInt ≤ 2147483646 by omega) hm_z)
      · replace b1187_z : ¬ v3_z = (0 : Int32) ∧ ¬ v3_z.toInt = (0 : Int32).toInt := b1187_z
        replace hm_z := rn_iload_n (am_cur_of (i := (82, 1, .iload_n 1, (0, 0, 0), 0)) (by decide +kernel)) g1_z hm_z
        replace hm_z := rn_iconst (w := 2) (am_cur_of (i := (83, 1, .iconst 2, (0, 0, 0), 0)) (by decide +kernel)) (by decide) hm_z
        replace hm_z := rn_cmp (am_cur_of (i := (84, 3, .if_icmp .ne 10, (59, 0, 0), 0)) (by decide +kernel)) hm_z
        rcases hm_z with ⟨b1188_z, hm_z⟩ | ⟨b1188_z, hm_z⟩
        · replace b1188_z : ¬ n = (2 : Int32) ∧ ¬ n.toInt = (2 : Int32).toInt := b1188_z
          exact bk_t bk_r (H59 v2_z v3_z v4_z _ _ g0_z g1_z g2_z g3_z g4_z (show 0 ≤ v2_z.toInt ∧ v2_z.toInt ≤ 2147483646 by omega) hm_z)
        · replace b1188_z : n = (2 : Int32) ∧ n.toInt = (2 : Int32).toInt := b1188_z
          replace hm_z := rn_aload_n (am_cur_of (i := (87, 1, .aload_n 0, (0, 0, 0), 0)) (by decide +kernel)) g0_z hm_z
          replace hm_z := rn_iload_n (am_cur_of (i := (88, 1, .iload_n 2, (0, 0, 0), 0)) (by decide +kernel)) g2_z hm_z
          replace hm_z := rn_iload (am_cur_of (i := (89, 2, .iload 4, (0, 0, 0), 0)) (by decide +kernel)) g4_z hm_z
          replace hm_z := rn_callV (M' := am_m222) (o := 164) (ar := [.int v4_z, .int v2_z]) (rest := []) (L := lv_args 0 [.ref 164, .int v2_z, .int v4_z]) (am_cur_of (i := (91, 3, .invokevirtual 483, (222, 1919, 3), 0)) (by decide +kernel)) rfl rfl rfl rfl hm_z
          obtain ⟨r1189_z, h1190_z, q1191_z, hm_z⟩ := hm_z
          have k1192_z := fk_222 q1191_z
          have vo := rn_void rfl q1191_z
          subst vo
          replace hm_z : rn _ _ _ _ [] _ _ _ := hm_z
          exact bk_t (bk_t bk_r k1192_z) (H59 v2_z v3_z v4_z _ _ g0_z g1_z g2_z g3_z g4_z (show 0 ≤ v2_z.toInt ∧ v2_z.toInt ≤ 2147483646 by omega) hm_z)
    have H21 : ∀ (v2_z : Int32) (v3_z : Int32) (v4_z : Int32) (ls : am_L) (g : am_H), am_get ls 0 = some (.ref 164) → am_get ls 1 = some (.int n) → am_get ls 2 = some (.int v2_z) → am_get ls 3 = some (.int v3_z) → am_get ls 4 = some (.int v4_z) → 0 ≤ v2_z.toInt ∧ v2_z.toInt ≤ 2147483646 → rn (f + 1) am_m218 21 ls [] g r g' → bk g g' := by
      intro v2_z v3_z v4_z ls g g0_z g1_z g2_z g3_z g4_z i2_0 hm_z
      have z0_z : (0 : Int32).toInt = 0 := by decide
      have z1_z : (1 : Int32).toInt = 1 := by decide
      have cv2_z := fk_c2 (i := v2_z) (by omega)
      replace hm_z := rn_iload (am_cur_of (i := (32, 2, .iload 4, (0, 0, 0), 0)) (by decide +kernel)) g4_z hm_z
      replace hm_z := rn_aload_n (am_cur_of (i := (34, 1, .aload_n 0, (0, 0, 0), 0)) (by decide +kernel)) g0_z hm_z
      replace hm_z := rn_getR (x := 170) (am_cur_of (i := (35, 3, .getfield 30, (12, 25, 1409), 0)) (by decide +kernel)) (by decide +kernel) hm_z
      replace hm_z := rn_bipush (w := 7) (am_cur_of (i := (38, 2, .bipush 7, (0, 0, 0), 0)) (by decide +kernel)) (by decide) hm_z
      replace hm_z := rn_iload_n (am_cur_of (i := (40, 1, .iload_n 2, (0, 0, 0), 0)) (by decide +kernel)) g2_z hm_z
      replace hm_z := rn_imul (w := (7 : Int32) * v2_z) (am_cur_of (i := (41, 1, .imul, (0, 0, 0), 0)) (by decide +kernel)) rfl hm_z
      replace hm_z := rn_iconst (w := 2) (am_cur_of (i := (42, 1, .iconst 2, (0, 0, 0), 0)) (by decide +kernel)) (by decide) hm_z
      replace hm_z := rn_iadd (w := ((7 : Int32) * v2_z) + 2) (am_cur_of (i := (43, 1, .iadd, (0, 0, 0), 0)) (by decide +kernel)) rfl hm_z
      replace hm_z := rn_iaload (N := 56) (q := (((7 : Int32) * v2_z) + 2).toNatClampNeg) (v := rg_v g 170 ((((7 : Int32) * v2_z) + 2).toNatClampNeg)) (am_cur_of (i := (44, 1, .iaload, (0, 0, 0), 0)) (by decide +kernel)) (by decide +kernel) rfl rfl hm_z
      obtain ⟨p1193_z, hm_z⟩ := hm_z
      replace hm_z := rn_cmp (am_cur_of (i := (45, 3, .if_icmp .gt 55, (61, 0, 0), 0)) (by decide +kernel)) hm_z
      rcases hm_z with ⟨b1194_z, hm_z⟩ | ⟨b1194_z, hm_z⟩
      · replace b1194_z : (rg_v g 170 ((((7 : Int32) * v2_z) + 2).toNatClampNeg)).toInt < v4_z.toInt := b1194_z
        exact bk_t bk_r (H61 v2_z _ _ g0_z g1_z g2_z (show 0 ≤ v2_z.toInt ∧ v2_z.toInt ≤ 2147483646 by omega) hm_z)
      · replace b1194_z : v4_z.toInt ≤ (rg_v g 170 ((((7 : Int32) * v2_z) + 2).toNatClampNeg)).toInt := b1194_z
        replace hm_z := rn_iload_n (am_cur_of (i := (48, 1, .iload_n 3, (0, 0, 0), 0)) (by decide +kernel)) g3_z hm_z
        replace hm_z := rn_if (am_cur_of (i := (49, 3, .ifCond .eq 51, (61, 0, 0), 0)) (by decide +kernel)) hm_z
        rcases hm_z with ⟨b1195_z, hm_z⟩ | ⟨b1195_z, hm_z⟩
        · replace b1195_z : v3_z = (0 : Int32) ∧ v3_z.toInt = (0 : Int32).toInt := b1195_z
          exact bk_t bk_r (H61 v2_z _ _ g0_z g1_z g2_z (show 0 ≤ v2_z.toInt ∧ v2_z.toInt ≤ 2147483646 by omega) hm_z)
        · replace b1195_z : ¬ v3_z = (0 : Int32) ∧ ¬ v3_z.toInt = (0 : Int32).toInt := b1195_z
          replace hm_z := rn_aload_n (am_cur_of (i := (52, 1, .aload_n 0, (0, 0, 0), 0)) (by decide +kernel)) g0_z hm_z
          replace hm_z := rn_iconst (w := 1) (am_cur_of (i := (53, 1, .iconst 1, (0, 0, 0), 0)) (by decide +kernel)) (by decide) hm_z
          replace hm_z := rn_iload_n (am_cur_of (i := (54, 1, .iload_n 2, (0, 0, 0), 0)) (by decide +kernel)) g2_z hm_z
          replace hm_z := rn_callV (M' := am_m220) (o := 164) (ar := [.int v2_z, .int 1]) (rest := []) (L := lv_args 0 [.ref 164, .int 1, .int v2_z]) (am_cur_of (i := (55, 3, .invokevirtual 476, (220, 1911, 3), 0)) (by decide +kernel)) rfl rfl rfl rfl hm_z
          obtain ⟨r1196_z, h1197_z, q1198_z, hm_z⟩ := hm_z
          have k1199_z := fk_220_1 (by omega) q1198_z
          obtain ⟨v1200_z, rfl⟩ := rn_ret (M := am_m220) rfl (by decide) q1198_z
          replace hm_z : rn _ _ _ _ [.int v1200_z] _ _ _ := hm_z
          replace hm_z := rn_istore_n (am_cur_of (i := (58, 1, .istore_n 3, (0, 0, 0), 0)) (by decide +kernel)) hm_z
          obtain ⟨_, s1201_z, s1202_z, g3_z, hm_z⟩ := hm_z
          replace g0_z := s1201_z 0 _ (by decide) rfl g0_z
          replace g1_z := s1201_z 1 _ (by decide) rfl g1_z
          replace g2_z := s1201_z 2 _ (by decide) rfl g2_z
          replace g4_z := s1201_z 4 _ (by decide) rfl g4_z
          clear s1201_z s1202_z
          replace hm_z := rn_iload_n (am_cur_of (i := (59, 1, .iload_n 3, (0, 0, 0), 0)) (by decide +kernel)) g3_z hm_z
          replace hm_z := rn_if (am_cur_of (i := (60, 3, .ifCond .eq 18, (50, 0, 0), 0)) (by decide +kernel)) hm_z
          rcases hm_z with ⟨b1203_z, hm_z⟩ | ⟨b1203_z, hm_z⟩
          · replace b1203_z : v1200_z = (0 : Int32) ∧ v1200_z.toInt = (0 : Int32).toInt := b1203_z
            exact bk_t (bk_t bk_r k1199_z) (H50 v2_z v1200_z v4_z _ _ g0_z g1_z g2_z g3_z g4_z (show 0 ≤ v2_z.toInt ∧ v2_z.toInt ≤ 2147483646 by omega) hm_z)
          · replace b1203_z : ¬ v1200_z = (0 : Int32) ∧ ¬ v1200_z.toInt = (0 : Int32).toInt := b1203_z
            replace hm_z := rn_iload_n (am_cur_of (i := (63, 1, .iload_n 1, (0, 0, 0), 0)) (by decide +kernel)) g1_z hm_z
            replace hm_z := rn_iconst (w := 1) (am_cur_of (i := (64, 1, .iconst 1, (0, 0, 0), 0)) (by decide +kernel)) (by decide) hm_z
            replace hm_z := rn_cmp (am_cur_of (i := (65, 3, .if_icmp .ne 13, (50, 0, 0), 0)) (by decide +kernel)) hm_z
            rcases hm_z with ⟨b1204_z, hm_z⟩ | ⟨b1204_z, hm_z⟩
            · replace b1204_z : ¬ n = (1 : Int32) ∧ ¬ n.toInt = (1 : Int32).toInt := b1204_z
              exact bk_t (bk_t bk_r k1199_z) (H50 v2_z v1200_z v4_z _ _ g0_z g1_z g2_z g3_z g4_z (show 0 ≤ v2_z.toInt ∧ v2_z.toInt ≤ 2147483646 by omega) hm_z)
            · replace b1204_z : n = (1 : Int32) ∧ n.toInt = (1 : Int32).toInt := b1204_z
              replace hm_z := rn_aload_n (am_cur_of (i := (68, 1, .aload_n 0, (0, 0, 0), 0)) (by decide +kernel)) g0_z hm_z
              replace hm_z := rn_iconst (w := 1) (am_cur_of (i := (69, 1, .iconst 1, (0, 0, 0), 0)) (by decide +kernel)) (by decide) hm_z
              replace hm_z := rn_iload_n (am_cur_of (i := (70, 1, .iload_n 2, (0, 0, 0), 0)) (by decide +kernel)) g2_z hm_z
              replace hm_z := rn_iload (am_cur_of (i := (71, 2, .iload 4, (0, 0, 0), 0)) (by decide +kernel)) g4_z hm_z
              replace hm_z := rn_iconst (w := 0) (am_cur_of (i := (73, 1, .iconst 0, (0, 0, 0), 0)) (by decide +kernel)) (by decide) hm_z
              replace hm_z := rn_iconst (w := 0) (am_cur_of (i := (74, 1, .iconst 0, (0, 0, 0), 0)) (by decide +kernel)) (by decide) hm_z
              replace hm_z := rn_callV (M' := am_m221) (o := 164) (ar := [.int 0, .int 0, .int v4_z, .int v2_z, .int 1]) (rest := []) (L := lv_args 0 [.ref 164, .int 1, .int v2_z, .int v4_z, .int 0, .int 0]) (am_cur_of (i := (75, 3, .invokevirtual 479, (221, 1915, 3), 0)) (by decide +kernel)) rfl rfl rfl rfl hm_z
              obtain ⟨r1205_z, h1206_z, q1207_z, hm_z⟩ := hm_z
              have k1208_z := fk_221 q1207_z
              have vo := rn_void rfl q1207_z
              subst vo
              replace hm_z : rn _ _ _ _ [] _ _ _ := hm_z
              exact bk_t (bk_t (bk_t bk_r k1199_z) k1208_z) (H50 v2_z v1200_z v4_z _ _ g0_z g1_z g2_z g3_z g4_z (show 0 ≤ v2_z.toInt ∧ v2_z.toInt ≤ 2147483646 by omega) hm_z)
    have H5 : ∀ (v2_z : Int32) (ls : am_L) (g : am_H), am_get ls 0 = some (.ref 164) → am_get ls 1 = some (.int n) → am_get ls 2 = some (.int v2_z) → 0 ≤ v2_z.toInt → rn (f + 1) am_m218 5 ls [] g r g' → bk g g' := by
      intro v2_z ls g g0_z g1_z g2_z i2_0 hm_z
      replace hm_z := rn_iload_n (am_cur_of (i := (7, 1, .iload_n 2, (0, 0, 0), 0)) (by decide +kernel)) g2_z hm_z
      replace hm_z := rn_aload_n (am_cur_of (i := (8, 1, .aload_n 0, (0, 0, 0), 0)) (by decide +kernel)) g0_z hm_z
      replace hm_z := rn_getI (v := rg_v g 164 12) (am_cur_of (i := (9, 3, .getfield 219, (12, 12, 1396), 0)) (by decide +kernel)) (by decide +kernel) rfl hm_z
      replace hm_z := rn_cmp (am_cur_of (i := (12, 3, .if_icmp .ge 94, (63, 0, 0), 0)) (by decide +kernel)) hm_z
      rcases hm_z with ⟨b1209_z, hm_z⟩ | ⟨b1209_z, hm_z⟩
      · replace b1209_z : (rg_v g 164 12).toInt ≤ v2_z.toInt := b1209_z
        replace hm_z := rn_vret (am_cur_of (i := (106, 1, .return_, (0, 0, 0), 0)) (by decide +kernel)) hm_z
        obtain ⟨e1210_z, e1211_z⟩ := hm_z
        rw [e1211_z]
        exact bk_r
      · replace b1209_z : v2_z.toInt < (rg_v g 164 12).toInt := b1209_z
        have cv2_z := fk_c1 b1209_z
        have dv2_z := (ab_32 (rg_v g 164 12)).2
        replace hm_z := rn_aload_n (am_cur_of (i := (15, 1, .aload_n 0, (0, 0, 0), 0)) (by decide +kernel)) g0_z hm_z
        replace hm_z := rn_iconst (w := 1) (am_cur_of (i := (16, 1, .iconst 1, (0, 0, 0), 0)) (by decide +kernel)) (by decide) hm_z
        replace hm_z := rn_iconst (w := 0) (am_cur_of (i := (17, 1, .iconst 0, (0, 0, 0), 0)) (by decide +kernel)) (by decide) hm_z
        replace hm_z := rn_callV (M' := am_m197) (o := 164) (ar := [.int 0, .int 1]) (rest := []) (L := lv_args 0 [.ref 164, .int 1, .int 0]) (am_cur_of (i := (18, 3, .invokevirtual 428, (197, 1820, 3), 0)) (by decide +kernel)) rfl rfl rfl rfl hm_z
        obtain ⟨r1212_z, h1213_z, q1214_z, hm_z⟩ := hm_z
        have k1215_z := fk_197_1_0 q1214_z
        have vo := rn_void rfl q1214_z
        subst vo
        replace hm_z : rn _ _ _ _ [] _ _ _ := hm_z
        replace hm_z := rn_aload_n (am_cur_of (i := (21, 1, .aload_n 0, (0, 0, 0), 0)) (by decide +kernel)) g0_z hm_z
        replace hm_z := rn_iconst (w := 1) (am_cur_of (i := (22, 1, .iconst 1, (0, 0, 0), 0)) (by decide +kernel)) (by decide) hm_z
        replace hm_z := rn_iload_n (am_cur_of (i := (23, 1, .iload_n 2, (0, 0, 0), 0)) (by decide +kernel)) g2_z hm_z
        replace hm_z := rn_callV (M' := am_m219) (o := 164) (ar := [.int v2_z, .int 1]) (rest := []) (L := lv_args 0 [.ref 164, .int 1, .int v2_z]) (am_cur_of (i := (24, 3, .invokevirtual 473, (219, 1907, 3), 0)) (by decide +kernel)) rfl rfl rfl rfl hm_z
        obtain ⟨r1216_z, h1217_z, q1218_z, hm_z⟩ := hm_z
        have k1219_z := fk_219_1 q1218_z
        have vo := rn_void rfl q1218_z
        subst vo
        replace hm_z : rn _ _ _ _ [] _ _ _ := hm_z
        replace hm_z := rn_iconst (w := 1) (am_cur_of (i := (27, 1, .iconst 1, (0, 0, 0), 0)) (by decide +kernel)) (by decide) hm_z
        replace hm_z := rn_istore_n (am_cur_of (i := (28, 1, .istore_n 3, (0, 0, 0), 0)) (by decide +kernel)) hm_z
        obtain ⟨_, s1220_z, s1221_z, g3_z, hm_z⟩ := hm_z
        replace g0_z := s1220_z 0 _ (by decide) rfl g0_z
        replace g1_z := s1220_z 1 _ (by decide) rfl g1_z
        replace g2_z := s1220_z 2 _ (by decide) rfl g2_z
        clear s1220_z s1221_z
        replace hm_z := rn_iconst (w := 1) (am_cur_of (i := (29, 1, .iconst 1, (0, 0, 0), 0)) (by decide +kernel)) (by decide) hm_z
        replace hm_z := rn_istore (am_cur_of (i := (30, 2, .istore 4, (0, 0, 0), 0)) (by decide +kernel)) hm_z
        obtain ⟨_, s1222_z, s1223_z, g4_z, hm_z⟩ := hm_z
        replace g0_z := s1222_z 0 _ (by decide) rfl g0_z
        replace g1_z := s1222_z 1 _ (by decide) rfl g1_z
        replace g2_z := s1222_z 2 _ (by decide) rfl g2_z
        replace g3_z := s1222_z 3 _ (by decide) rfl g3_z
        clear s1222_z s1223_z
        exact bk_t (bk_t (bk_t bk_r k1215_z) k1219_z) (H21 v2_z 1 1 _ _ g0_z g1_z g2_z g3_z g4_z (show 0 ≤ v2_z.toInt ∧ v2_z.toInt ≤ 2147483646 by omega) hm_z)
    exact ⟨H5, H21, H50, H59, H61⟩
theorem fk_218 {nst : Nat} {r : Option Value} {g g' : am_H} {n : Int32}  (hm_z : rn nst am_m218 0 (lv_args 0 [.ref 164, .int n]) [] g r g') : bk g g' := by
  have g0_z : am_get (lv_args 0 [.ref 164, .int n]) 0 = some (.ref 164) := rfl
  have g1_z : am_get (lv_args 0 [.ref 164, .int n]) 1 = some (.int n) := rfl
  replace hm_z := rn_aload_n (am_cur_of (i := (0, 1, .aload_n 0, (0, 0, 0), 0)) (by decide +kernel)) g0_z hm_z
  replace hm_z := rn_iconst (w := (-1)) (am_cur_of (i := (1, 1, .iconst (-1), (0, 0, 0), 0)) (by decide +kernel)) (by decide) hm_z
  replace hm_z := rn_put (am_cur_of (i := (2, 3, .putfield 467, (12, 66, 1450), 0)) (by decide +kernel)) (by decide +kernel) hm_z
  replace hm_z := rn_iconst (w := 0) (am_cur_of (i := (5, 1, .iconst 0, (0, 0, 0), 0)) (by decide +kernel)) (by decide) hm_z
  replace hm_z := rn_istore_n (am_cur_of (i := (6, 1, .istore_n 2, (0, 0, 0), 0)) (by decide +kernel)) hm_z
  obtain ⟨_, s1224_z, s1225_z, g2_z, hm_z⟩ := hm_z
  replace g0_z := s1224_z 0 _ (by decide) rfl g0_z
  replace g1_z := s1224_z 1 _ (by decide) rfl g1_z
  clear s1224_z s1225_z
  have H5 := (fk_218_L (r := r) (g' := g') (n := n)  nst).1
  exact bk_t (bk_u (by decide) bk_r) (H5 0 _ _ g0_z g1_z g2_z (show 0 ≤ (0 : Int32).toInt by decide) hm_z)
theorem fk_217_L {r : Option Value} {g' : am_H} {n : Int32} {w : Int32}  : ∀ f : Nat, (∀ (ls : am_L) (g : am_H), rn f am_m217 13 ls [] g r g' → bk g g') := by
  intro f
  induction f with
  | zero =>
    exact (fun _ _ hm_z => absurd hm_z rn_0)
  | succ f ih_z =>
    have I13 := ih_z
    have H13 : ∀ (ls : am_L) (g : am_H), rn (f + 1) am_m217 13 ls [] g r g' → bk g g' := by
      intro ls g hm_z
      replace hm_z := rn_iconst (w := (-1)) (am_cur_of (i := (25, 1, .iconst (-1), (0, 0, 0), 0)) (by decide +kernel)) (by decide) hm_z
      replace hm_z := rn_iret (am_cur_of (i := (26, 1, .ireturn, (0, 0, 0), 0)) (by decide +kernel)) hm_z
      obtain ⟨e1226_z, e1227_z⟩ := hm_z
      rw [e1227_z]
      exact bk_r
    exact H13
theorem fk_217 {nst : Nat} {r : Option Value} {g g' : am_H} {n : Int32} {w : Int32}  (hm_z : rn nst am_m217 0 (lv_args 0 [.ref 164, .int n, .int w]) [] g r g') : bk g g' := by
  have z0_z : (0 : Int32).toInt = 0 := by decide
  have z1_z : (1 : Int32).toInt = 1 := by decide
  have g0_z : am_get (lv_args 0 [.ref 164, .int n, .int w]) 0 = some (.ref 164) := rfl
  have g1_z : am_get (lv_args 0 [.ref 164, .int n, .int w]) 1 = some (.int n) := rfl
  have g2_z : am_get (lv_args 0 [.ref 164, .int n, .int w]) 2 = some (.int w) := rfl
  replace hm_z := rn_aload_n (am_cur_of (i := (0, 1, .aload_n 0, (0, 0, 0), 0)) (by decide +kernel)) g0_z hm_z
  replace hm_z := rn_iconst (w := 0) (am_cur_of (i := (1, 1, .iconst 0, (0, 0, 0), 0)) (by decide +kernel)) (by decide) hm_z
  replace hm_z := rn_put (am_cur_of (i := (2, 3, .putfield 139, (12, 2, 1386), 0)) (by decide +kernel)) (by decide +kernel) hm_z
  replace hm_z := rn_iload_n (am_cur_of (i := (5, 1, .iload_n 1, (0, 0, 0), 0)) (by decide +kernel)) g1_z hm_z
  replace hm_z := rn_iconst (w := 1) (am_cur_of (i := (6, 1, .iconst 1, (0, 0, 0), 0)) (by decide +kernel)) (by decide) hm_z
  replace hm_z := rn_iconst (w := 2) (am_cur_of (i := (7, 1, .iconst 2, (0, 0, 0), 0)) (by decide +kernel)) (by decide) hm_z
  replace hm_z := rn_callS (M' := am_m162) (ar := [.int 2, .int 1, .int n]) (rest := []) (L := lv_args 0 [.int n, .int 1, .int 2]) (am_cur_of (i := (8, 3, .invokestatic 184, (162, 1681, 3), 0)) (by decide +kernel)) rfl rfl rfl rfl hm_z
  obtain ⟨r1228_z, h1229_z, q1230_z, hm_z⟩ := hm_z
  have k1231_z := nq_162 q1230_z
  obtain ⟨v1232_z, rfl⟩ := rn_ret (M := am_m162) rfl (by decide) q1230_z
  replace hm_z : rn _ _ _ _ [.int v1232_z] _ _ _ := hm_z
  replace hm_z := rn_if (am_cur_of (i := (11, 3, .ifCond .eq 14, (13, 0, 0), 0)) (by decide +kernel)) hm_z
  rcases hm_z with ⟨b1233_z, hm_z⟩ | ⟨b1233_z, hm_z⟩
  · replace b1233_z : v1232_z = (0 : Int32) ∧ v1232_z.toInt = (0 : Int32).toInt := b1233_z
    have H13 := (fk_217_L (r := r) (g' := g') (n := n) (w := w)  nst)
    exact bk_t (bk_t (bk_u (by decide) bk_r) (bk_n k1231_z)) (H13 _ _ hm_z)
  · replace b1233_z : ¬ v1232_z = (0 : Int32) ∧ ¬ v1232_z.toInt = (0 : Int32).toInt := b1233_z
    replace hm_z := rn_iload_n (am_cur_of (i := (14, 1, .iload_n 2, (0, 0, 0), 0)) (by decide +kernel)) g2_z hm_z
    replace hm_z := rn_if (am_cur_of (i := (15, 3, .ifCond .lt 10, (13, 0, 0), 0)) (by decide +kernel)) hm_z
    rcases hm_z with ⟨b1234_z, hm_z⟩ | ⟨b1234_z, hm_z⟩
    · replace b1234_z : w.toInt < (0 : Int32).toInt := b1234_z
      have H13 := (fk_217_L (r := r) (g' := g') (n := n) (w := w)  nst)
      exact bk_t (bk_t (bk_u (by decide) bk_r) (bk_n k1231_z)) (H13 _ _ hm_z)
    · replace b1234_z : (0 : Int32).toInt ≤ w.toInt := b1234_z
      replace hm_z := rn_aload_n (am_cur_of (i := (18, 1, .aload_n 0, (0, 0, 0), 0)) (by decide +kernel)) g0_z hm_z
      replace hm_z := rn_getI (v := rg_v h1229_z 164 12) (am_cur_of (i := (19, 3, .getfield 219, (12, 12, 1396), 0)) (by decide +kernel)) (by decide +kernel) rfl hm_z
      replace hm_z := rn_if (am_cur_of (i := (22, 3, .ifCond .ne 5, (15, 0, 0), 0)) (by decide +kernel)) hm_z
      rcases hm_z with ⟨b1235_z, hm_z⟩ | ⟨b1235_z, hm_z⟩
      · replace b1235_z : ¬ (rg_v h1229_z 164 12) = (0 : Int32) ∧ ¬ (rg_v h1229_z 164 12).toInt = (0 : Int32).toInt := b1235_z
        replace hm_z := rn_iload_n (am_cur_of (i := (27, 1, .iload_n 2, (0, 0, 0), 0)) (by decide +kernel)) g2_z hm_z
        replace hm_z := rn_iconst (w := 1) (am_cur_of (i := (28, 1, .iconst 1, (0, 0, 0), 0)) (by decide +kernel)) (by decide) hm_z
        replace hm_z := rn_iconst (w := 2) (am_cur_of (i := (29, 1, .iconst 2, (0, 0, 0), 0)) (by decide +kernel)) (by decide) hm_z
        replace hm_z := rn_iload_n (am_cur_of (i := (30, 1, .iload_n 1, (0, 0, 0), 0)) (by decide +kernel)) g1_z hm_z
        replace hm_z := rn_imul (w := (2 : Int32) * n) (am_cur_of (i := (31, 1, .imul, (0, 0, 0), 0)) (by decide +kernel)) rfl hm_z
        replace hm_z := rn_iadd (w := (1 : Int32) + ((2 : Int32) * n)) (am_cur_of (i := (32, 1, .iadd, (0, 0, 0), 0)) (by decide +kernel)) rfl hm_z
        replace hm_z := rn_cmp (am_cur_of (i := (33, 3, .if_icmp .le 6, (24, 0, 0), 0)) (by decide +kernel)) hm_z
        rcases hm_z with ⟨b1236_z, hm_z⟩ | ⟨b1236_z, hm_z⟩
        · replace b1236_z : w.toInt ≤ ((1 : Int32) + ((2 : Int32) * n)).toInt := b1236_z
          replace hm_z := rn_aload_n (am_cur_of (i := (39, 1, .aload_n 0, (0, 0, 0), 0)) (by decide +kernel)) g0_z hm_z
          replace hm_z := rn_iload_n (am_cur_of (i := (40, 1, .iload_n 1, (0, 0, 0), 0)) (by decide +kernel)) g1_z hm_z
          replace hm_z := rn_callV (M' := am_m218) (o := 164) (ar := [.int n]) (rest := []) (L := lv_args 0 [.ref 164, .int n]) (am_cur_of (i := (41, 3, .invokevirtual 486, (218, 1903, 3), 0)) (by decide +kernel)) rfl rfl rfl rfl hm_z
          obtain ⟨r1237_z, h1238_z, q1239_z, hm_z⟩ := hm_z
          have k1240_z := fk_218 q1239_z
          have vo := rn_void rfl q1239_z
          subst vo
          replace hm_z : rn _ _ _ _ [] _ _ _ := hm_z
          replace hm_z := rn_aload_n (am_cur_of (i := (44, 1, .aload_n 0, (0, 0, 0), 0)) (by decide +kernel)) g0_z hm_z
          replace hm_z := rn_getI (v := rg_v h1238_z 164 66) (am_cur_of (i := (45, 3, .getfield 467, (12, 66, 1450), 0)) (by decide +kernel)) (by decide +kernel) rfl hm_z
          replace hm_z := rn_if (am_cur_of (i := (48, 3, .ifCond .ge 6, (32, 0, 0), 0)) (by decide +kernel)) hm_z
          rcases hm_z with ⟨b1241_z, hm_z⟩ | ⟨b1241_z, hm_z⟩
          · replace b1241_z : (0 : Int32).toInt ≤ (rg_v h1238_z 164 66).toInt := b1241_z
            replace hm_z := rn_iload_n (am_cur_of (i := (54, 1, .iload_n 2, (0, 0, 0), 0)) (by decide +kernel)) g2_z hm_z
            replace hm_z := rn_if (am_cur_of (i := (55, 3, .ifCond .ne 10, (37, 0, 0), 0)) (by decide +kernel)) hm_z
            rcases hm_z with ⟨b1242_z, hm_z⟩ | ⟨b1242_z, hm_z⟩
            · replace b1242_z : ¬ w = (0 : Int32) ∧ ¬ w.toInt = (0 : Int32).toInt := b1242_z
              replace hm_z := rn_iload_n (am_cur_of (i := (65, 1, .iload_n 2, (0, 0, 0), 0)) (by decide +kernel)) g2_z hm_z
              replace hm_z := rn_iconst (w := 1) (am_cur_of (i := (66, 1, .iconst 1, (0, 0, 0), 0)) (by decide +kernel)) (by decide) hm_z
              replace hm_z := rn_cmp (am_cur_of (i := (67, 3, .if_icmp .ne 10, (43, 0, 0), 0)) (by decide +kernel)) hm_z
              rcases hm_z with ⟨b1243_z, hm_z⟩ | ⟨b1243_z, hm_z⟩
              · replace b1243_z : ¬ w = (1 : Int32) ∧ ¬ w.toInt = (1 : Int32).toInt := b1243_z
                replace hm_z := rn_aload_n (am_cur_of (i := (77, 1, .aload_n 0, (0, 0, 0), 0)) (by decide +kernel)) g0_z hm_z
                replace hm_z := rn_getR (x := 195) (am_cur_of (i := (78, 3, .getfield 109, (12, 68, 1452), 0)) (by decide +kernel)) (by decide +kernel) hm_z
                replace hm_z := rn_iload_n (am_cur_of (i := (81, 1, .iload_n 2, (0, 0, 0), 0)) (by decide +kernel)) g2_z hm_z
                replace hm_z := rn_iconst (w := 2) (am_cur_of (i := (82, 1, .iconst 2, (0, 0, 0), 0)) (by decide +kernel)) (by decide) hm_z
                replace hm_z := rn_isub (w := w - 2) (am_cur_of (i := (83, 1, .isub, (0, 0, 0), 0)) (by decide +kernel)) rfl hm_z
                replace hm_z := rn_iaload (N := 4) (q := (w - 2).toNatClampNeg) (v := rg_v h1238_z 195 ((w - 2).toNatClampNeg)) (am_cur_of (i := (84, 1, .iaload, (0, 0, 0), 0)) (by decide +kernel)) (by decide +kernel) rfl rfl hm_z
                obtain ⟨p1244_z, hm_z⟩ := hm_z
                replace hm_z := rn_iret (am_cur_of (i := (85, 1, .ireturn, (0, 0, 0), 0)) (by decide +kernel)) hm_z
                obtain ⟨e1245_z, e1246_z⟩ := hm_z
                rw [e1246_z]
                exact (bk_t (bk_t (bk_u (by decide) bk_r) (bk_n k1231_z)) k1240_z)
              · replace b1243_z : w = (1 : Int32) ∧ w.toInt = (1 : Int32).toInt := b1243_z
                replace hm_z := rn_aload_n (am_cur_of (i := (70, 1, .aload_n 0, (0, 0, 0), 0)) (by decide +kernel)) g0_z hm_z
                replace hm_z := rn_getI (v := rg_v h1238_z 164 67) (am_cur_of (i := (71, 3, .getfield 470, (12, 67, 1451), 0)) (by decide +kernel)) (by decide +kernel) rfl hm_z
                replace hm_z := rn_goto (am_cur_of (i := (74, 3, .goto 11, (49, 0, 0), 0)) (by decide +kernel)) hm_z
                replace hm_z := rn_iret (am_cur_of (i := (85, 1, .ireturn, (0, 0, 0), 0)) (by decide +kernel)) hm_z
                obtain ⟨e1247_z, e1248_z⟩ := hm_z
                rw [e1248_z]
                exact (bk_t (bk_t (bk_u (by decide) bk_r) (bk_n k1231_z)) k1240_z)
            · replace b1242_z : w = (0 : Int32) ∧ w.toInt = (0 : Int32).toInt := b1242_z
              replace hm_z := rn_aload_n (am_cur_of (i := (58, 1, .aload_n 0, (0, 0, 0), 0)) (by decide +kernel)) g0_z hm_z
              replace hm_z := rn_getI (v := rg_v h1238_z 164 66) (am_cur_of (i := (59, 3, .getfield 467, (12, 66, 1450), 0)) (by decide +kernel)) (by decide +kernel) rfl hm_z
              replace hm_z := rn_goto (am_cur_of (i := (62, 3, .goto 23, (49, 0, 0), 0)) (by decide +kernel)) hm_z
              replace hm_z := rn_iret (am_cur_of (i := (85, 1, .ireturn, (0, 0, 0), 0)) (by decide +kernel)) hm_z
              obtain ⟨e1249_z, e1250_z⟩ := hm_z
              rw [e1250_z]
              exact (bk_t (bk_t (bk_u (by decide) bk_r) (bk_n k1231_z)) k1240_z)
          · replace b1241_z : (rg_v h1238_z 164 66).toInt < (0 : Int32).toInt := b1241_z
            replace hm_z := rn_bipush (w := (-2)) (am_cur_of (i := (51, 2, .bipush (-2), (0, 0, 0), 0)) (by decide +kernel)) (by decide) hm_z
            replace hm_z := rn_iret (am_cur_of (i := (53, 1, .ireturn, (0, 0, 0), 0)) (by decide +kernel)) hm_z
            obtain ⟨e1251_z, e1252_z⟩ := hm_z
            rw [e1252_z]
            exact (bk_t (bk_t (bk_u (by decide) bk_r) (bk_n k1231_z)) k1240_z)
        · replace b1236_z : ((1 : Int32) + ((2 : Int32) * n)).toInt < w.toInt := b1236_z
          replace hm_z := rn_bipush (w := (-2)) (am_cur_of (i := (36, 2, .bipush (-2), (0, 0, 0), 0)) (by decide +kernel)) (by decide) hm_z
          replace hm_z := rn_iret (am_cur_of (i := (38, 1, .ireturn, (0, 0, 0), 0)) (by decide +kernel)) hm_z
          obtain ⟨e1253_z, e1254_z⟩ := hm_z
          rw [e1254_z]
          exact (bk_t (bk_u (by decide) bk_r) (bk_n k1231_z))
      · replace b1235_z : (rg_v h1229_z 164 12) = (0 : Int32) ∧ (rg_v h1229_z 164 12).toInt = (0 : Int32).toInt := b1235_z
        have H13 := (fk_217_L (r := r) (g' := g') (n := n) (w := w)  nst)
        exact bk_t (bk_t (bk_u (by decide) bk_r) (bk_n k1231_z)) (H13 _ _ hm_z)
theorem fk_224_L {r : Option Value} {g' : am_H} {x : Int32} {y : Int32} {z : Int32}  : ∀ f : Nat, (∀ (v4_z : Int32) (ls : am_L) (g : am_H), am_get ls 0 = some (.ref 164) → am_get ls 2 = some (.int y) → am_get ls 3 = some (.int z) → am_get ls 4 = some (.int v4_z) → rn f am_m224 11 ls [] g r g' → bk g g') ∧ (∀ (v4_z : Int32) (ls : am_L) (g : am_H), am_get ls 4 = some (.int v4_z) → rn f am_m224 27 ls [] g r g' → bk g g') := by
  intro f
  induction f with
  | zero =>
    exact ⟨fun _ _ _ _ _ _ _ hm_z => absurd hm_z rn_0, fun _ _ _ _ hm_z => absurd hm_z rn_0⟩
  | succ f ih_z =>
    obtain ⟨I11, I27⟩ := ih_z
    have H27 : ∀ (v4_z : Int32) (ls : am_L) (g : am_H), am_get ls 4 = some (.int v4_z) → rn (f + 1) am_m224 27 ls [] g r g' → bk g g' := by
      intro v4_z ls g g4_z hm_z
      replace hm_z := rn_iload (am_cur_of (i := (45, 2, .iload 4, (0, 0, 0), 0)) (by decide +kernel)) g4_z hm_z
      replace hm_z := rn_iret (am_cur_of (i := (47, 1, .ireturn, (0, 0, 0), 0)) (by decide +kernel)) hm_z
      obtain ⟨e1255_z, e1256_z⟩ := hm_z
      rw [e1256_z]
      exact bk_r
    have H11 : ∀ (v4_z : Int32) (ls : am_L) (g : am_H), am_get ls 0 = some (.ref 164) → am_get ls 2 = some (.int y) → am_get ls 3 = some (.int z) → am_get ls 4 = some (.int v4_z) → rn (f + 1) am_m224 11 ls [] g r g' → bk g g' := by
      intro v4_z ls g g0_z g2_z g3_z g4_z hm_z
      replace hm_z := rn_iload (am_cur_of (i := (16, 2, .iload 4, (0, 0, 0), 0)) (by decide +kernel)) g4_z hm_z
      replace hm_z := rn_iload_n (am_cur_of (i := (18, 1, .iload_n 3, (0, 0, 0), 0)) (by decide +kernel)) g3_z hm_z
      replace hm_z := rn_cmp (am_cur_of (i := (19, 3, .if_icmp .ge 26, (27, 0, 0), 0)) (by decide +kernel)) hm_z
      rcases hm_z with ⟨b1257_z, hm_z⟩ | ⟨b1257_z, hm_z⟩
      · replace b1257_z : z.toInt ≤ v4_z.toInt := b1257_z
        exact bk_t bk_r (H27 v4_z _ _ g4_z hm_z)
      · replace b1257_z : v4_z.toInt < z.toInt := b1257_z
        replace hm_z := rn_aload_n (am_cur_of (i := (22, 1, .aload_n 0, (0, 0, 0), 0)) (by decide +kernel)) g0_z hm_z
        replace hm_z := rn_getR (x := 188) (am_cur_of (i := (23, 3, .getfield 85, (12, 50, 1434), 0)) (by decide +kernel)) (by decide +kernel) hm_z
        replace hm_z := rn_iconst (w := 1) (am_cur_of (i := (26, 1, .iconst 1, (0, 0, 0), 0)) (by decide +kernel)) (by decide) hm_z
        replace hm_z := rn_iaload (N := 4) (q := 1) (v := rg_v g 188 1) (am_cur_of (i := (27, 1, .iaload, (0, 0, 0), 0)) (by decide +kernel)) (by decide +kernel) rfl rfl hm_z
        obtain ⟨p1258_z, hm_z⟩ := hm_z
        replace hm_z := rn_iload_n (am_cur_of (i := (28, 1, .iload_n 2, (0, 0, 0), 0)) (by decide +kernel)) g2_z hm_z
        replace hm_z := rn_cmp (am_cur_of (i := (29, 3, .if_icmp .lt 16, (27, 0, 0), 0)) (by decide +kernel)) hm_z
        rcases hm_z with ⟨b1259_z, hm_z⟩ | ⟨b1259_z, hm_z⟩
        · replace b1259_z : (rg_v g 188 1).toInt < y.toInt := b1259_z
          exact bk_t bk_r (H27 v4_z _ _ g4_z hm_z)
        · replace b1259_z : y.toInt ≤ (rg_v g 188 1).toInt := b1259_z
          replace hm_z := rn_aload_n (am_cur_of (i := (32, 1, .aload_n 0, (0, 0, 0), 0)) (by decide +kernel)) g0_z hm_z
          replace hm_z := rn_iconst (w := 1) (am_cur_of (i := (33, 1, .iconst 1, (0, 0, 0), 0)) (by decide +kernel)) (by decide) hm_z
          replace hm_z := rn_iconst (w := 0) (am_cur_of (i := (34, 1, .iconst 0, (0, 0, 0), 0)) (by decide +kernel)) (by decide) hm_z
          replace hm_z := rn_iconst (w := 0) (am_cur_of (i := (35, 1, .iconst 0, (0, 0, 0), 0)) (by decide +kernel)) (by decide) hm_z
          replace hm_z := rn_callV (M' := am_m199) (o := 164) (ar := [.int 0, .int 0, .int 1]) (rest := []) (L := lv_args 0 [.ref 164, .int 1, .int 0, .int 0]) (am_cur_of (i := (36, 3, .invokevirtual 434, (199, 1828, 3), 0)) (by decide +kernel)) rfl rfl rfl rfl hm_z
          obtain ⟨r1260_z, h1261_z, q1262_z, hm_z⟩ := hm_z
          have k1263_z := fk_199_1 q1262_z
          have vo := rn_void rfl q1262_z
          subst vo
          replace hm_z : rn _ _ _ _ [] _ _ _ := hm_z
          replace hm_z := rn_iinc (w := v4_z + 1) (am_cur_of (i := (39, 3, .iinc 4 1, (0, 0, 0), 0)) (by decide +kernel)) g4_z rfl hm_z
          obtain ⟨_, s1264_z, s1265_z, g4_z, hm_z⟩ := hm_z
          replace g0_z := s1264_z 0 _ (by decide) rfl g0_z
          replace g2_z := s1264_z 2 _ (by decide) rfl g2_z
          replace g3_z := s1264_z 3 _ (by decide) rfl g3_z
          clear s1264_z s1265_z
          replace hm_z := rn_gotoL (am_cur_of (i := (42, 3, .goto (-26), (11, 0, 0), 0)) (by decide +kernel)) hm_z
          exact bk_t (bk_t bk_r k1263_z) (I11 (v4_z + 1) _ _ g0_z g2_z g3_z g4_z hm_z)
    exact ⟨H11, H27⟩
theorem fk_224 {nst : Nat} {r : Option Value} {g g' : am_H} {x : Int32} {y : Int32} {z : Int32}  (hm_z : rn nst am_m224 0 (lv_args 0 [.ref 164, .int x, .int y, .int z]) [] g r g') : bk g g' := by
  have g0_z : am_get (lv_args 0 [.ref 164, .int x, .int y, .int z]) 0 = some (.ref 164) := rfl
  have g1_z : am_get (lv_args 0 [.ref 164, .int x, .int y, .int z]) 1 = some (.int x) := rfl
  have g2_z : am_get (lv_args 0 [.ref 164, .int x, .int y, .int z]) 2 = some (.int y) := rfl
  have g3_z : am_get (lv_args 0 [.ref 164, .int x, .int y, .int z]) 3 = some (.int z) := rfl
  replace hm_z := rn_aload_n (am_cur_of (i := (0, 1, .aload_n 0, (0, 0, 0), 0)) (by decide +kernel)) g0_z hm_z
  replace hm_z := rn_iconst (w := 1) (am_cur_of (i := (1, 1, .iconst 1, (0, 0, 0), 0)) (by decide +kernel)) (by decide) hm_z
  replace hm_z := rn_iconst (w := 0) (am_cur_of (i := (2, 1, .iconst 0, (0, 0, 0), 0)) (by decide +kernel)) (by decide) hm_z
  replace hm_z := rn_callV (M' := am_m197) (o := 164) (ar := [.int 0, .int 1]) (rest := []) (L := lv_args 0 [.ref 164, .int 1, .int 0]) (am_cur_of (i := (3, 3, .invokevirtual 428, (197, 1820, 3), 0)) (by decide +kernel)) rfl rfl rfl rfl hm_z
  obtain ⟨r1266_z, h1267_z, q1268_z, hm_z⟩ := hm_z
  have k1269_z := fk_197_1_0 q1268_z
  have vo := rn_void rfl q1268_z
  subst vo
  replace hm_z : rn _ _ _ _ [] _ _ _ := hm_z
  replace hm_z := rn_aload_n (am_cur_of (i := (6, 1, .aload_n 0, (0, 0, 0), 0)) (by decide +kernel)) g0_z hm_z
  replace hm_z := rn_getR (x := 188) (am_cur_of (i := (7, 3, .getfield 85, (12, 50, 1434), 0)) (by decide +kernel)) (by decide +kernel) hm_z
  replace hm_z := rn_iconst (w := 1) (am_cur_of (i := (10, 1, .iconst 1, (0, 0, 0), 0)) (by decide +kernel)) (by decide) hm_z
  replace hm_z := rn_iload_n (am_cur_of (i := (11, 1, .iload_n 1, (0, 0, 0), 0)) (by decide +kernel)) g1_z hm_z
  replace hm_z := rn_iastore (N := 4) (q := 1) (am_cur_of (i := (12, 1, .iastore, (0, 0, 0), 0)) (by decide +kernel)) (by decide +kernel) rfl hm_z
  obtain ⟨p1270_z, hm_z⟩ := hm_z
  replace hm_z := rn_iconst (w := 0) (am_cur_of (i := (13, 1, .iconst 0, (0, 0, 0), 0)) (by decide +kernel)) (by decide) hm_z
  replace hm_z := rn_istore (am_cur_of (i := (14, 2, .istore 4, (0, 0, 0), 0)) (by decide +kernel)) hm_z
  obtain ⟨_, s1271_z, s1272_z, g4_z, hm_z⟩ := hm_z
  replace g0_z := s1271_z 0 _ (by decide) rfl g0_z
  replace g1_z := s1271_z 1 _ (by decide) rfl g1_z
  replace g2_z := s1271_z 2 _ (by decide) rfl g2_z
  replace g3_z := s1271_z 3 _ (by decide) rfl g3_z
  clear s1271_z s1272_z
  have H11 := (fk_224_L (r := r) (g' := g') (x := x) (y := y) (z := z)  nst).1
  exact bk_t (bk_u (by decide) (bk_t bk_r k1269_z)) (H11 0 _ _ g0_z g2_z g3_z g4_z hm_z)
theorem fk_223_L {r : Option Value} {g' : am_H} {x : Int32} {y : Int32}  : ∀ f : Nat, (∀ (ls : am_L) (g : am_H), rn f am_m223 22 ls [] g r g' → bk g g') := by
  intro f
  induction f with
  | zero =>
    exact (fun _ _ hm_z => absurd hm_z rn_0)
  | succ f ih_z =>
    have I22 := ih_z
    have H22 : ∀ (ls : am_L) (g : am_H), rn (f + 1) am_m223 22 ls [] g r g' → bk g g' := by
      intro ls g hm_z
      replace hm_z := rn_iconst (w := (-1)) (am_cur_of (i := (42, 1, .iconst (-1), (0, 0, 0), 0)) (by decide +kernel)) (by decide) hm_z
      replace hm_z := rn_iret (am_cur_of (i := (43, 1, .ireturn, (0, 0, 0), 0)) (by decide +kernel)) hm_z
      obtain ⟨e1273_z, e1274_z⟩ := hm_z
      rw [e1274_z]
      exact bk_r
    exact H22
theorem fk_223 {nst : Nat} {r : Option Value} {g g' : am_H} {x : Int32} {y : Int32}  (hm_z : rn nst am_m223 0 (lv_args 0 [.ref 164, .int x, .int y]) [] g r g') : bk g g' := by
  have z0_z : (0 : Int32).toInt = 0 := by decide
  have g0_z : am_get (lv_args 0 [.ref 164, .int x, .int y]) 0 = some (.ref 164) := rfl
  have g1_z : am_get (lv_args 0 [.ref 164, .int x, .int y]) 1 = some (.int x) := rfl
  have g2_z : am_get (lv_args 0 [.ref 164, .int x, .int y]) 2 = some (.int y) := rfl
  replace hm_z := rn_aload_n (am_cur_of (i := (0, 1, .aload_n 0, (0, 0, 0), 0)) (by decide +kernel)) g0_z hm_z
  replace hm_z := rn_iconst (w := 0) (am_cur_of (i := (1, 1, .iconst 0, (0, 0, 0), 0)) (by decide +kernel)) (by decide) hm_z
  replace hm_z := rn_put (am_cur_of (i := (2, 3, .putfield 139, (12, 2, 1386), 0)) (by decide +kernel)) (by decide +kernel) hm_z
  replace hm_z := rn_iload_n (am_cur_of (i := (5, 1, .iload_n 1, (0, 0, 0), 0)) (by decide +kernel)) g1_z hm_z
  replace hm_z := rn_iconst (w := 0) (am_cur_of (i := (6, 1, .iconst 0, (0, 0, 0), 0)) (by decide +kernel)) (by decide) hm_z
  replace hm_z := rn_aload_n (am_cur_of (i := (7, 1, .aload_n 0, (0, 0, 0), 0)) (by decide +kernel)) g0_z hm_z
  replace hm_z := rn_getR (x := 168) (am_cur_of (i := (8, 3, .getfield 24, (12, 23, 1407), 0)) (by decide +kernel)) (by decide +kernel) hm_z
  replace hm_z := rn_iconst (w := 0) (am_cur_of (i := (11, 1, .iconst 0, (0, 0, 0), 0)) (by decide +kernel)) (by decide) hm_z
  replace hm_z := rn_iaload (N := 12) (q := 0) (v := rg_v g 168 0) (am_cur_of (i := (12, 1, .iaload, (0, 0, 0), 0)) (by decide +kernel)) (by decide +kernel) rfl (show rg_v (am_up g 164 2 (.int 0)) 168 0 = rg_v g 168 0 from rfl) hm_z
  obtain ⟨p1275_z, hm_z⟩ := hm_z
  replace hm_z := rn_callS (M' := am_m162) (ar := [.int (rg_v g 168 0), .int 0, .int x]) (rest := []) (L := lv_args 0 [.int x, .int 0, .int (rg_v g 168 0)]) (am_cur_of (i := (13, 3, .invokestatic 184, (162, 1681, 3), 0)) (by decide +kernel)) rfl rfl rfl rfl hm_z
  obtain ⟨r1276_z, h1277_z, q1278_z, hm_z⟩ := hm_z
  have k1279_z := nq_162 q1278_z
  obtain ⟨v1280_z, rfl⟩ := rn_ret (M := am_m162) rfl (by decide) q1278_z
  replace hm_z : rn _ _ _ _ [.int v1280_z] _ _ _ := hm_z
  replace hm_z := rn_if (am_cur_of (i := (16, 3, .ifCond .eq 26, (22, 0, 0), 0)) (by decide +kernel)) hm_z
  rcases hm_z with ⟨b1281_z, hm_z⟩ | ⟨b1281_z, hm_z⟩
  · replace b1281_z : v1280_z = (0 : Int32) ∧ v1280_z.toInt = (0 : Int32).toInt := b1281_z
    have H22 := (fk_223_L (r := r) (g' := g') (x := x) (y := y)  nst)
    exact bk_t (bk_t (bk_u (by decide) bk_r) (bk_n k1279_z)) (H22 _ _ hm_z)
  · replace b1281_z : ¬ v1280_z = (0 : Int32) ∧ ¬ v1280_z.toInt = (0 : Int32).toInt := b1281_z
    replace hm_z := rn_iload_n (am_cur_of (i := (19, 1, .iload_n 2, (0, 0, 0), 0)) (by decide +kernel)) g2_z hm_z
    replace hm_z := rn_iconst (w := 0) (am_cur_of (i := (20, 1, .iconst 0, (0, 0, 0), 0)) (by decide +kernel)) (by decide) hm_z
    replace hm_z := rn_sipush (w := 9999) (am_cur_of (i := (21, 3, .sipush 9999, (0, 0, 0), 0)) (by decide +kernel)) (by decide) hm_z
    replace hm_z := rn_callS (M' := am_m162) (ar := [.int 9999, .int 0, .int y]) (rest := []) (L := lv_args 0 [.int y, .int 0, .int 9999]) (am_cur_of (i := (24, 3, .invokestatic 184, (162, 1681, 3), 0)) (by decide +kernel)) rfl rfl rfl rfl hm_z
    obtain ⟨r1282_z, h1283_z, q1284_z, hm_z⟩ := hm_z
    have k1285_z := nq_162 q1284_z
    obtain ⟨v1286_z, rfl⟩ := rn_ret (M := am_m162) rfl (by decide) q1284_z
    replace hm_z : rn _ _ _ _ [.int v1286_z] _ _ _ := hm_z
    replace hm_z := rn_if (am_cur_of (i := (27, 3, .ifCond .eq 15, (22, 0, 0), 0)) (by decide +kernel)) hm_z
    rcases hm_z with ⟨b1287_z, hm_z⟩ | ⟨b1287_z, hm_z⟩
    · replace b1287_z : v1286_z = (0 : Int32) ∧ v1286_z.toInt = (0 : Int32).toInt := b1287_z
      have H22 := (fk_223_L (r := r) (g' := g') (x := x) (y := y)  nst)
      exact bk_t (bk_t (bk_t (bk_u (by decide) bk_r) (bk_n k1279_z)) (bk_n k1285_z)) (H22 _ _ hm_z)
    · replace b1287_z : ¬ v1286_z = (0 : Int32) ∧ ¬ v1286_z.toInt = (0 : Int32).toInt := b1287_z
      replace hm_z := rn_aload_n (am_cur_of (i := (30, 1, .aload_n 0, (0, 0, 0), 0)) (by decide +kernel)) g0_z hm_z
      replace hm_z := rn_iload_n (am_cur_of (i := (31, 1, .iload_n 1, (0, 0, 0), 0)) (by decide +kernel)) g1_z hm_z
      replace hm_z := rn_iload_n (am_cur_of (i := (32, 1, .iload_n 2, (0, 0, 0), 0)) (by decide +kernel)) g2_z hm_z
      replace hm_z := rn_sipush (w := 3600) (am_cur_of (i := (33, 3, .sipush 3600, (0, 0, 0), 0)) (by decide +kernel)) (by decide) hm_z
      replace hm_z := rn_callV (M' := am_m224) (o := 164) (ar := [.int 3600, .int y, .int x]) (rest := []) (L := lv_args 0 [.ref 164, .int x, .int y, .int 3600]) (am_cur_of (i := (36, 3, .invokevirtual 489, (224, 1927, 3), 0)) (by decide +kernel)) rfl rfl rfl rfl hm_z
      obtain ⟨r1288_z, h1289_z, q1290_z, hm_z⟩ := hm_z
      have k1291_z := fk_224 q1290_z
      obtain ⟨v1292_z, rfl⟩ := rn_ret (M := am_m224) rfl (by decide) q1290_z
      replace hm_z : rn _ _ _ _ [.int v1292_z] _ _ _ := hm_z
      replace hm_z := rn_goto (am_cur_of (i := (39, 3, .goto 4, (23, 0, 0), 0)) (by decide +kernel)) hm_z
      replace hm_z := rn_iret (am_cur_of (i := (43, 1, .ireturn, (0, 0, 0), 0)) (by decide +kernel)) hm_z
      obtain ⟨e1293_z, e1294_z⟩ := hm_z
      rw [e1294_z]
      exact (bk_t (bk_t (bk_t (bk_u (by decide) bk_r) (bk_n k1279_z)) (bk_n k1285_z)) k1291_z)
theorem fk_225_L {r : Option Value} {g' : am_H} {x : Int32} {y : Int32}  : ∀ f : Nat, (∀ (ls : am_L) (g : am_H), rn f am_m225 13 ls [] g r g' → bk g g') ∧ (∀ (v3_z : Int32) (ls : am_L) (g : am_H), am_get ls 0 = some (.ref 164) → am_get ls 1 = some (.int x) → am_get ls 2 = some (.int y) → am_get ls 3 = some (.int v3_z) → rn f am_m225 17 ls [] g r g' → bk g g') := by
  intro f
  induction f with
  | zero =>
    exact ⟨fun _ _ hm_z => absurd hm_z rn_0, fun _ _ _ _ _ _ _ hm_z => absurd hm_z rn_0⟩
  | succ f ih_z =>
    obtain ⟨I13, I17⟩ := ih_z
    have H17 : ∀ (v3_z : Int32) (ls : am_L) (g : am_H), am_get ls 0 = some (.ref 164) → am_get ls 1 = some (.int x) → am_get ls 2 = some (.int y) → am_get ls 3 = some (.int v3_z) → rn (f + 1) am_m225 17 ls [] g r g' → bk g g' := by
      intro v3_z ls g g0_z g1_z g2_z g3_z hm_z
      replace hm_z := rn_iload_n (am_cur_of (i := (30, 1, .iload_n 3, (0, 0, 0), 0)) (by decide +kernel)) g3_z hm_z
      replace hm_z := rn_aload_n (am_cur_of (i := (31, 1, .aload_n 0, (0, 0, 0), 0)) (by decide +kernel)) g0_z hm_z
      replace hm_z := rn_getR (x := 168) (am_cur_of (i := (32, 3, .getfield 24, (12, 23, 1407), 0)) (by decide +kernel)) (by decide +kernel) hm_z
      replace hm_z := rn_iconst (w := 0) (am_cur_of (i := (35, 1, .iconst 0, (0, 0, 0), 0)) (by decide +kernel)) (by decide) hm_z
      replace hm_z := rn_iaload (N := 12) (q := 0) (v := rg_v g 168 0) (am_cur_of (i := (36, 1, .iaload, (0, 0, 0), 0)) (by decide +kernel)) (by decide +kernel) rfl rfl hm_z
      obtain ⟨p1295_z, hm_z⟩ := hm_z
      replace hm_z := rn_cmp (am_cur_of (i := (37, 3, .if_icmp .gt 22, (34, 0, 0), 0)) (by decide +kernel)) hm_z
      rcases hm_z with ⟨b1296_z, hm_z⟩ | ⟨b1296_z, hm_z⟩
      · replace b1296_z : (rg_v g 168 0).toInt < v3_z.toInt := b1296_z
        replace hm_z := rn_bipush (w := (-2)) (am_cur_of (i := (59, 2, .bipush (-2), (0, 0, 0), 0)) (by decide +kernel)) (by decide) hm_z
        replace hm_z := rn_iret (am_cur_of (i := (61, 1, .ireturn, (0, 0, 0), 0)) (by decide +kernel)) hm_z
        obtain ⟨e1297_z, e1298_z⟩ := hm_z
        rw [e1298_z]
        exact bk_r
      · replace b1296_z : v3_z.toInt ≤ (rg_v g 168 0).toInt := b1296_z
        replace hm_z := rn_aload_n (am_cur_of (i := (40, 1, .aload_n 0, (0, 0, 0), 0)) (by decide +kernel)) g0_z hm_z
        replace hm_z := rn_iload_n (am_cur_of (i := (41, 1, .iload_n 3, (0, 0, 0), 0)) (by decide +kernel)) g3_z hm_z
        replace hm_z := rn_iload_n (am_cur_of (i := (42, 1, .iload_n 2, (0, 0, 0), 0)) (by decide +kernel)) g2_z hm_z
        replace hm_z := rn_iload_n (am_cur_of (i := (43, 1, .iload_n 1, (0, 0, 0), 0)) (by decide +kernel)) g1_z hm_z
        replace hm_z := rn_callV (M' := am_m224) (o := 164) (ar := [.int x, .int y, .int v3_z]) (rest := []) (L := lv_args 0 [.ref 164, .int v3_z, .int y, .int x]) (am_cur_of (i := (44, 3, .invokevirtual 489, (224, 1927, 3), 0)) (by decide +kernel)) rfl rfl rfl rfl hm_z
        obtain ⟨r1299_z, h1300_z, q1301_z, hm_z⟩ := hm_z
        have k1302_z := fk_224 q1301_z
        obtain ⟨v1303_z, rfl⟩ := rn_ret (M := am_m224) rfl (by decide) q1301_z
        replace hm_z : rn _ _ _ _ [.int v1303_z] _ _ _ := hm_z
        replace hm_z := rn_iload_n (am_cur_of (i := (47, 1, .iload_n 1, (0, 0, 0), 0)) (by decide +kernel)) g1_z hm_z
        replace hm_z := rn_cmp (am_cur_of (i := (48, 3, .if_icmp .lt 5, (32, 0, 0), 0)) (by decide +kernel)) hm_z
        rcases hm_z with ⟨b1304_z, hm_z⟩ | ⟨b1304_z, hm_z⟩
        · replace b1304_z : v1303_z.toInt < x.toInt := b1304_z
          replace hm_z := rn_iinc (w := v3_z + 1) (am_cur_of (i := (53, 3, .iinc 3 1, (0, 0, 0), 0)) (by decide +kernel)) g3_z rfl hm_z
          obtain ⟨_, s1305_z, s1306_z, g3_z, hm_z⟩ := hm_z
          replace g0_z := s1305_z 0 _ (by decide) rfl g0_z
          replace g1_z := s1305_z 1 _ (by decide) rfl g1_z
          replace g2_z := s1305_z 2 _ (by decide) rfl g2_z
          clear s1305_z s1306_z
          replace hm_z := rn_gotoL (am_cur_of (i := (56, 3, .goto (-26), (17, 0, 0), 0)) (by decide +kernel)) hm_z
          exact bk_t (bk_t bk_r k1302_z) (I17 (v3_z + 1) _ _ g0_z g1_z g2_z g3_z hm_z)
        · replace b1304_z : x.toInt ≤ v1303_z.toInt := b1304_z
          replace hm_z := rn_iload_n (am_cur_of (i := (51, 1, .iload_n 3, (0, 0, 0), 0)) (by decide +kernel)) g3_z hm_z
          replace hm_z := rn_iret (am_cur_of (i := (52, 1, .ireturn, (0, 0, 0), 0)) (by decide +kernel)) hm_z
          obtain ⟨e1307_z, e1308_z⟩ := hm_z
          rw [e1308_z]
          exact (bk_t bk_r k1302_z)
    have H13 : ∀ (ls : am_L) (g : am_H), rn (f + 1) am_m225 13 ls [] g r g' → bk g g' := by
      intro ls g hm_z
      replace hm_z := rn_iconst (w := (-1)) (am_cur_of (i := (26, 1, .iconst (-1), (0, 0, 0), 0)) (by decide +kernel)) (by decide) hm_z
      replace hm_z := rn_iret (am_cur_of (i := (27, 1, .ireturn, (0, 0, 0), 0)) (by decide +kernel)) hm_z
      obtain ⟨e1309_z, e1310_z⟩ := hm_z
      rw [e1310_z]
      exact bk_r
    exact ⟨H13, H17⟩
theorem fk_225 {nst : Nat} {r : Option Value} {g g' : am_H} {x : Int32} {y : Int32}  (hm_z : rn nst am_m225 0 (lv_args 0 [.ref 164, .int x, .int y]) [] g r g') : bk g g' := by
  have z0_z : (0 : Int32).toInt = 0 := by decide
  have g0_z : am_get (lv_args 0 [.ref 164, .int x, .int y]) 0 = some (.ref 164) := rfl
  have g1_z : am_get (lv_args 0 [.ref 164, .int x, .int y]) 1 = some (.int x) := rfl
  have g2_z : am_get (lv_args 0 [.ref 164, .int x, .int y]) 2 = some (.int y) := rfl
  replace hm_z := rn_aload_n (am_cur_of (i := (0, 1, .aload_n 0, (0, 0, 0), 0)) (by decide +kernel)) g0_z hm_z
  replace hm_z := rn_iconst (w := 0) (am_cur_of (i := (1, 1, .iconst 0, (0, 0, 0), 0)) (by decide +kernel)) (by decide) hm_z
  replace hm_z := rn_put (am_cur_of (i := (2, 3, .putfield 139, (12, 2, 1386), 0)) (by decide +kernel)) (by decide +kernel) hm_z
  replace hm_z := rn_iload_n (am_cur_of (i := (5, 1, .iload_n 1, (0, 0, 0), 0)) (by decide +kernel)) g1_z hm_z
  replace hm_z := rn_iconst (w := 0) (am_cur_of (i := (6, 1, .iconst 0, (0, 0, 0), 0)) (by decide +kernel)) (by decide) hm_z
  replace hm_z := rn_bipush (w := 60) (am_cur_of (i := (7, 2, .bipush 60, (0, 0, 0), 0)) (by decide +kernel)) (by decide) hm_z
  replace hm_z := rn_callS (M' := am_m162) (ar := [.int 60, .int 0, .int x]) (rest := []) (L := lv_args 0 [.int x, .int 0, .int 60]) (am_cur_of (i := (9, 3, .invokestatic 184, (162, 1681, 3), 0)) (by decide +kernel)) rfl rfl rfl rfl hm_z
  obtain ⟨r1311_z, h1312_z, q1313_z, hm_z⟩ := hm_z
  have k1314_z := nq_162 q1313_z
  obtain ⟨v1315_z, rfl⟩ := rn_ret (M := am_m162) rfl (by decide) q1313_z
  replace hm_z : rn _ _ _ _ [.int v1315_z] _ _ _ := hm_z
  replace hm_z := rn_if (am_cur_of (i := (12, 3, .ifCond .eq 14, (13, 0, 0), 0)) (by decide +kernel)) hm_z
  rcases hm_z with ⟨b1316_z, hm_z⟩ | ⟨b1316_z, hm_z⟩
  · replace b1316_z : v1315_z = (0 : Int32) ∧ v1315_z.toInt = (0 : Int32).toInt := b1316_z
    have H13 := (fk_225_L (r := r) (g' := g') (x := x) (y := y)  nst).1
    exact bk_t (bk_t (bk_u (by decide) bk_r) (bk_n k1314_z)) (H13 _ _ hm_z)
  · replace b1316_z : ¬ v1315_z = (0 : Int32) ∧ ¬ v1315_z.toInt = (0 : Int32).toInt := b1316_z
    replace hm_z := rn_iload_n (am_cur_of (i := (15, 1, .iload_n 2, (0, 0, 0), 0)) (by decide +kernel)) g2_z hm_z
    replace hm_z := rn_iconst (w := 0) (am_cur_of (i := (16, 1, .iconst 0, (0, 0, 0), 0)) (by decide +kernel)) (by decide) hm_z
    replace hm_z := rn_sipush (w := 9999) (am_cur_of (i := (17, 3, .sipush 9999, (0, 0, 0), 0)) (by decide +kernel)) (by decide) hm_z
    replace hm_z := rn_callS (M' := am_m162) (ar := [.int 9999, .int 0, .int y]) (rest := []) (L := lv_args 0 [.int y, .int 0, .int 9999]) (am_cur_of (i := (20, 3, .invokestatic 184, (162, 1681, 3), 0)) (by decide +kernel)) rfl rfl rfl rfl hm_z
    obtain ⟨r1317_z, h1318_z, q1319_z, hm_z⟩ := hm_z
    have k1320_z := nq_162 q1319_z
    obtain ⟨v1321_z, rfl⟩ := rn_ret (M := am_m162) rfl (by decide) q1319_z
    replace hm_z : rn _ _ _ _ [.int v1321_z] _ _ _ := hm_z
    replace hm_z := rn_if (am_cur_of (i := (23, 3, .ifCond .ne 5, (15, 0, 0), 0)) (by decide +kernel)) hm_z
    rcases hm_z with ⟨b1322_z, hm_z⟩ | ⟨b1322_z, hm_z⟩
    · replace b1322_z : ¬ v1321_z = (0 : Int32) ∧ ¬ v1321_z.toInt = (0 : Int32).toInt := b1322_z
      replace hm_z := rn_iconst (w := 0) (am_cur_of (i := (28, 1, .iconst 0, (0, 0, 0), 0)) (by decide +kernel)) (by decide) hm_z
      replace hm_z := rn_istore_n (am_cur_of (i := (29, 1, .istore_n 3, (0, 0, 0), 0)) (by decide +kernel)) hm_z
      obtain ⟨_, s1323_z, s1324_z, g3_z, hm_z⟩ := hm_z
      replace g0_z := s1323_z 0 _ (by decide) rfl g0_z
      replace g1_z := s1323_z 1 _ (by decide) rfl g1_z
      replace g2_z := s1323_z 2 _ (by decide) rfl g2_z
      clear s1323_z s1324_z
      have H17 := (fk_225_L (r := r) (g' := g') (x := x) (y := y)  nst).2
      exact bk_t (bk_t (bk_t (bk_u (by decide) bk_r) (bk_n k1314_z)) (bk_n k1320_z)) (H17 0 _ _ g0_z g1_z g2_z g3_z hm_z)
    · replace b1322_z : v1321_z = (0 : Int32) ∧ v1321_z.toInt = (0 : Int32).toInt := b1322_z
      have H13 := (fk_225_L (r := r) (g' := g') (x := x) (y := y)  nst).1
      exact bk_t (bk_t (bk_t (bk_u (by decide) bk_r) (bk_n k1314_z)) (bk_n k1320_z)) (H13 _ _ hm_z)
theorem fk_229_1_L {r : Option Value} {g' : am_H} {k : Int32} {y : Int32} (k0_z : 0 ≤ k.toInt) : ∀ f : Nat, (∀ (v4_z : Int32) (v5_z : Int32) (ls : am_L) (g : am_H), am_get ls 0 = some (.ref 164) → am_get ls 1 = some (.int 1) → am_get ls 2 = some (.int k) → am_get ls 3 = some (.int y) → am_get ls 4 = some (.int v4_z) → am_get ls 5 = some (.int v5_z) → rn f am_m229 13 ls [] g r g' → bk g g') ∧ (∀ (v4_z : Int32) (ls : am_L) (g : am_H), am_get ls 0 = some (.ref 164) → am_get ls 1 = some (.int 1) → am_get ls 2 = some (.int k) → am_get ls 3 = some (.int y) → am_get ls 4 = some (.int v4_z) → rn f am_m229 42 ls [] g r g' → bk g g') ∧ (∀ (v4_z : Int32) (v5_z : Int32) (ls : am_L) (g : am_H), am_get ls 0 = some (.ref 164) → am_get ls 1 = some (.int 1) → am_get ls 2 = some (.int k) → am_get ls 3 = some (.int y) → am_get ls 4 = some (.int v4_z) → am_get ls 5 = some (.int v5_z) → rn f am_m229 44 ls [] g r g' → bk g g') ∧ (∀ (v4_z : Int32) (v5_z : Int32) (v6_z : Int32) (ls : am_L) (g : am_H), am_get ls 0 = some (.ref 164) → am_get ls 1 = some (.int 1) → am_get ls 2 = some (.int k) → am_get ls 3 = some (.int y) → am_get ls 4 = some (.int v4_z) → am_get ls 5 = some (.int v5_z) → am_get ls 6 = some (.int v6_z) → rn f am_m229 62 ls [] g r g' → bk g g') ∧ (∀ (v4_z : Int32) (v5_z : Int32) (ls : am_L) (g : am_H), am_get ls 0 = some (.ref 164) → am_get ls 1 = some (.int 1) → am_get ls 2 = some (.int k) → am_get ls 3 = some (.int y) → am_get ls 4 = some (.int v4_z) → am_get ls 5 = some (.int v5_z) → rn f am_m229 91 ls [] g r g' → bk g g') ∧ (∀ (v4_z : Int32) (v5_z : Int32) (ls : am_L) (g : am_H), am_get ls 0 = some (.ref 164) → am_get ls 1 = some (.int 1) → am_get ls 2 = some (.int k) → am_get ls 3 = some (.int y) → am_get ls 4 = some (.int v4_z) → am_get ls 5 = some (.int v5_z) → rn f am_m229 97 ls [] g r g' → bk g g') ∧ (∀ (v4_z : Int32) (ls : am_L) (g : am_H), am_get ls 4 = some (.int v4_z) → rn f am_m229 99 ls [] g r g' → bk g g') := by
  intro f
  induction f with
  | zero =>
    exact ⟨fun _ _ _ _ _ _ _ _ _ _ hm_z => absurd hm_z rn_0, fun _ _ _ _ _ _ _ _ hm_z => absurd hm_z rn_0, fun _ _ _ _ _ _ _ _ _ _ hm_z => absurd hm_z rn_0, fun _ _ _ _ _ _ _ _ _ _ _ _ hm_z => absurd hm_z rn_0, fun _ _ _ _ _ _ _ _ _ _ hm_z => absurd hm_z rn_0, fun _ _ _ _ _ _ _ _ _ _ hm_z => absurd hm_z rn_0, fun _ _ _ _ hm_z => absurd hm_z rn_0⟩
  | succ f ih_z =>
    obtain ⟨I13, I42, I44, I62, I91, I97, I99⟩ := ih_z
    have H99 : ∀ (v4_z : Int32) (ls : am_L) (g : am_H), am_get ls 4 = some (.int v4_z) → rn (f + 1) am_m229 99 ls [] g r g' → bk g g' := by
      intro v4_z ls g g4_z hm_z
      replace hm_z := rn_iload (am_cur_of (i := (169, 2, .iload 4, (0, 0, 0), 0)) (by decide +kernel)) g4_z hm_z
      replace hm_z := rn_iret (am_cur_of (i := (171, 1, .ireturn, (0, 0, 0), 0)) (by decide +kernel)) hm_z
      obtain ⟨e1325_z, e1326_z⟩ := hm_z
      rw [e1326_z]
      exact bk_r
    have H97 : ∀ (v4_z : Int32) (v5_z : Int32) (ls : am_L) (g : am_H), am_get ls 0 = some (.ref 164) → am_get ls 1 = some (.int 1) → am_get ls 2 = some (.int k) → am_get ls 3 = some (.int y) → am_get ls 4 = some (.int v4_z) → am_get ls 5 = some (.int v5_z) → rn (f + 1) am_m229 97 ls [] g r g' → bk g g' := by
      intro v4_z v5_z ls g g0_z g1_z g2_z g3_z g4_z g5_z hm_z
      replace hm_z := rn_iinc (w := v5_z + 1) (am_cur_of (i := (163, 3, .iinc 5 1, (0, 0, 0), 0)) (by decide +kernel)) g5_z rfl hm_z
      obtain ⟨_, s1327_z, s1328_z, g5_z, hm_z⟩ := hm_z
      replace g0_z := s1327_z 0 _ (by decide) rfl g0_z
      replace g1_z := s1327_z 1 _ (by decide) rfl g1_z
      replace g2_z := s1327_z 2 _ (by decide) rfl g2_z
      replace g3_z := s1327_z 3 _ (by decide) rfl g3_z
      replace g4_z := s1327_z 4 _ (by decide) rfl g4_z
      clear s1327_z s1328_z
      replace hm_z := rn_gotoL (am_cur_of (i := (166, 3, .goto (-95), (44, 0, 0), 0)) (by decide +kernel)) hm_z
      exact bk_t bk_r (I44 v4_z (v5_z + 1) _ _ g0_z g1_z g2_z g3_z g4_z g5_z hm_z)
    have H91 : ∀ (v4_z : Int32) (v5_z : Int32) (ls : am_L) (g : am_H), am_get ls 0 = some (.ref 164) → am_get ls 1 = some (.int 1) → am_get ls 2 = some (.int k) → am_get ls 3 = some (.int y) → am_get ls 4 = some (.int v4_z) → am_get ls 5 = some (.int v5_z) → rn (f + 1) am_m229 91 ls [] g r g' → bk g g' := by
      intro v4_z v5_z ls g g0_z g1_z g2_z g3_z g4_z g5_z hm_z
      have z0_z : (0 : Int32).toInt = 0 := by decide
      replace hm_z := rn_iload (am_cur_of (i := (152, 2, .iload 4, (0, 0, 0), 0)) (by decide +kernel)) g4_z hm_z
      replace hm_z := rn_if (am_cur_of (i := (154, 3, .ifCond .eq 9, (97, 0, 0), 0)) (by decide +kernel)) hm_z
      rcases hm_z with ⟨b1329_z, hm_z⟩ | ⟨b1329_z, hm_z⟩
      · replace b1329_z : v4_z = (0 : Int32) ∧ v4_z.toInt = (0 : Int32).toInt := b1329_z
        exact bk_t bk_r (H97 v4_z v5_z _ _ g0_z g1_z g2_z g3_z g4_z g5_z hm_z)
      · replace b1329_z : ¬ v4_z = (0 : Int32) ∧ ¬ v4_z.toInt = (0 : Int32).toInt := b1329_z
        replace hm_z := rn_aload_n (am_cur_of (i := (157, 1, .aload_n 0, (0, 0, 0), 0)) (by decide +kernel)) g0_z hm_z
        replace hm_z := rn_iload_n (am_cur_of (i := (158, 1, .iload_n 1, (0, 0, 0), 0)) (by decide +kernel)) g1_z hm_z
        replace hm_z := rn_iload_n (am_cur_of (i := (159, 1, .iload_n 2, (0, 0, 0), 0)) (by decide +kernel)) g2_z hm_z
        replace hm_z := rn_callV (M' := am_m205) (o := 164) (ar := [.int k, .int 1]) (rest := []) (L := lv_args 0 [.ref 164, .int 1, .int k]) (am_cur_of (i := (160, 3, .invokevirtual 441, (205, 1851, 3), 0)) (by decide +kernel)) rfl rfl rfl rfl hm_z
        obtain ⟨r1330_z, h1331_z, q1332_z, hm_z⟩ := hm_z
        have k1333_z := fk_205_1 k0_z q1332_z
        have vo := rn_void rfl q1332_z
        subst vo
        replace hm_z : rn _ _ _ _ [] _ _ _ := hm_z
        exact bk_t (bk_t bk_r k1333_z) (H97 v4_z v5_z _ _ g0_z g1_z g2_z g3_z g4_z g5_z hm_z)
    have H62 : ∀ (v4_z : Int32) (v5_z : Int32) (v6_z : Int32) (ls : am_L) (g : am_H), am_get ls 0 = some (.ref 164) → am_get ls 1 = some (.int 1) → am_get ls 2 = some (.int k) → am_get ls 3 = some (.int y) → am_get ls 4 = some (.int v4_z) → am_get ls 5 = some (.int v5_z) → am_get ls 6 = some (.int v6_z) → rn (f + 1) am_m229 62 ls [] g r g' → bk g g' := by
      intro v4_z v5_z v6_z ls g g0_z g1_z g2_z g3_z g4_z g5_z g6_z hm_z
      have z0_z : (0 : Int32).toInt = 0 := by decide
      replace hm_z := rn_iload (am_cur_of (i := (101, 2, .iload 6, (0, 0, 0), 0)) (by decide +kernel)) g6_z hm_z
      replace hm_z := rn_aload_n (am_cur_of (i := (103, 1, .aload_n 0, (0, 0, 0), 0)) (by decide +kernel)) g0_z hm_z
      replace hm_z := rn_getR (x := 170) (am_cur_of (i := (104, 3, .getfield 30, (12, 25, 1409), 0)) (by decide +kernel)) (by decide +kernel) hm_z
      replace hm_z := rn_bipush (w := 7) (am_cur_of (i := (107, 2, .bipush 7, (0, 0, 0), 0)) (by decide +kernel)) (by decide) hm_z
      replace hm_z := rn_iload_n (am_cur_of (i := (109, 1, .iload_n 2, (0, 0, 0), 0)) (by decide +kernel)) g2_z hm_z
      replace hm_z := rn_imul (w := (7 : Int32) * k) (am_cur_of (i := (110, 1, .imul, (0, 0, 0), 0)) (by decide +kernel)) rfl hm_z
      replace hm_z := rn_iconst (w := 3) (am_cur_of (i := (111, 1, .iconst 3, (0, 0, 0), 0)) (by decide +kernel)) (by decide) hm_z
      replace hm_z := rn_iadd (w := ((7 : Int32) * k) + 3) (am_cur_of (i := (112, 1, .iadd, (0, 0, 0), 0)) (by decide +kernel)) rfl hm_z
      replace hm_z := rn_iaload (N := 56) (q := (((7 : Int32) * k) + 3).toNatClampNeg) (v := rg_v g 170 ((((7 : Int32) * k) + 3).toNatClampNeg)) (am_cur_of (i := (113, 1, .iaload, (0, 0, 0), 0)) (by decide +kernel)) (by decide +kernel) rfl rfl hm_z
      obtain ⟨p1334_z, hm_z⟩ := hm_z
      replace hm_z := rn_cmp (am_cur_of (i := (114, 3, .if_icmp .ge 38, (91, 0, 0), 0)) (by decide +kernel)) hm_z
      rcases hm_z with ⟨b1335_z, hm_z⟩ | ⟨b1335_z, hm_z⟩
      · replace b1335_z : (rg_v g 170 ((((7 : Int32) * k) + 3).toNatClampNeg)).toInt ≤ v6_z.toInt := b1335_z
        exact bk_t bk_r (H91 v4_z v5_z _ _ g0_z g1_z g2_z g3_z g4_z g5_z hm_z)
      · replace b1335_z : v6_z.toInt < (rg_v g 170 ((((7 : Int32) * k) + 3).toNatClampNeg)).toInt := b1335_z
        replace hm_z := rn_iload (am_cur_of (i := (117, 2, .iload 4, (0, 0, 0), 0)) (by decide +kernel)) g4_z hm_z
        replace hm_z := rn_if (am_cur_of (i := (119, 3, .ifCond .eq 33, (91, 0, 0), 0)) (by decide +kernel)) hm_z
        rcases hm_z with ⟨b1336_z, hm_z⟩ | ⟨b1336_z, hm_z⟩
        · replace b1336_z : v4_z = (0 : Int32) ∧ v4_z.toInt = (0 : Int32).toInt := b1336_z
          exact bk_t bk_r (H91 v4_z v5_z _ _ g0_z g1_z g2_z g3_z g4_z g5_z hm_z)
        · replace b1336_z : ¬ v4_z = (0 : Int32) ∧ ¬ v4_z.toInt = (0 : Int32).toInt := b1336_z
          replace hm_z := rn_aload_n (am_cur_of (i := (122, 1, .aload_n 0, (0, 0, 0), 0)) (by decide +kernel)) g0_z hm_z
          replace hm_z := rn_iload_n (am_cur_of (i := (123, 1, .iload_n 1, (0, 0, 0), 0)) (by decide +kernel)) g1_z hm_z
          replace hm_z := rn_iconst (w := 0) (am_cur_of (i := (124, 1, .iconst 0, (0, 0, 0), 0)) (by decide +kernel)) (by decide) hm_z
          replace hm_z := rn_iconst (w := 0) (am_cur_of (i := (125, 1, .iconst 0, (0, 0, 0), 0)) (by decide +kernel)) (by decide) hm_z
          replace hm_z := rn_callV (M' := am_m199) (o := 164) (ar := [.int 0, .int 0, .int 1]) (rest := []) (L := lv_args 0 [.ref 164, .int 1, .int 0, .int 0]) (am_cur_of (i := (126, 3, .invokevirtual 434, (199, 1828, 3), 0)) (by decide +kernel)) rfl rfl rfl rfl hm_z
          obtain ⟨r1337_z, h1338_z, q1339_z, hm_z⟩ := hm_z
          have k1340_z := fk_199_1 q1339_z
          have vo := rn_void rfl q1339_z
          subst vo
          replace hm_z : rn _ _ _ _ [] _ _ _ := hm_z
          replace hm_z := rn_aload_n (am_cur_of (i := (129, 1, .aload_n 0, (0, 0, 0), 0)) (by decide +kernel)) g0_z hm_z
          replace hm_z := rn_getR (x := 188) (am_cur_of (i := (130, 3, .getfield 85, (12, 50, 1434), 0)) (by decide +kernel)) (by decide +kernel) hm_z
          replace hm_z := rn_iload_n (am_cur_of (i := (133, 1, .iload_n 1, (0, 0, 0), 0)) (by decide +kernel)) g1_z hm_z
          replace hm_z := rn_iaload (N := 4) (q := 1) (v := rg_v h1338_z 188 1) (am_cur_of (i := (134, 1, .iaload, (0, 0, 0), 0)) (by decide +kernel)) (by decide +kernel) rfl rfl hm_z
          obtain ⟨p1341_z, hm_z⟩ := hm_z
          replace hm_z := rn_iload_n (am_cur_of (i := (135, 1, .iload_n 3, (0, 0, 0), 0)) (by decide +kernel)) g3_z hm_z
          replace hm_z := rn_cmp (am_cur_of (i := (136, 3, .if_icmp .lt 7, (87, 0, 0), 0)) (by decide +kernel)) hm_z
          rcases hm_z with ⟨b1342_z, hm_z⟩ | ⟨b1342_z, hm_z⟩
          · replace b1342_z : (rg_v h1338_z 188 1).toInt < y.toInt := b1342_z
            replace hm_z := rn_iconst (w := 0) (am_cur_of (i := (143, 1, .iconst 0, (0, 0, 0), 0)) (by decide +kernel)) (by decide) hm_z
            replace hm_z := rn_istore (am_cur_of (i := (144, 2, .istore 4, (0, 0, 0), 0)) (by decide +kernel)) hm_z
            obtain ⟨_, s1343_z, s1344_z, g4_z, hm_z⟩ := hm_z
            replace g0_z := s1343_z 0 _ (by decide) rfl g0_z
            replace g1_z := s1343_z 1 _ (by decide) rfl g1_z
            replace g2_z := s1343_z 2 _ (by decide) rfl g2_z
            replace g3_z := s1343_z 3 _ (by decide) rfl g3_z
            replace g5_z := s1343_z 5 _ (by decide) rfl g5_z
            replace g6_z := s1343_z 6 _ (by decide) rfl g6_z
            clear s1343_z s1344_z
            replace hm_z := rn_iinc (w := v6_z + 1) (am_cur_of (i := (146, 3, .iinc 6 1, (0, 0, 0), 0)) (by decide +kernel)) g6_z rfl hm_z
            obtain ⟨_, s1345_z, s1346_z, g6_z, hm_z⟩ := hm_z
            replace g0_z := s1345_z 0 _ (by decide) rfl g0_z
            replace g1_z := s1345_z 1 _ (by decide) rfl g1_z
            replace g2_z := s1345_z 2 _ (by decide) rfl g2_z
            replace g3_z := s1345_z 3 _ (by decide) rfl g3_z
            replace g4_z := s1345_z 4 _ (by decide) rfl g4_z
            replace g5_z := s1345_z 5 _ (by decide) rfl g5_z
            clear s1345_z s1346_z
            replace hm_z := rn_gotoL (am_cur_of (i := (149, 3, .goto (-48), (62, 0, 0), 0)) (by decide +kernel)) hm_z
            exact bk_t (bk_t bk_r k1340_z) (I62 0 v5_z (v6_z + 1) _ _ g0_z g1_z g2_z g3_z g4_z g5_z g6_z hm_z)
          · replace b1342_z : y.toInt ≤ (rg_v h1338_z 188 1).toInt := b1342_z
            replace hm_z := rn_iconst (w := 1) (am_cur_of (i := (139, 1, .iconst 1, (0, 0, 0), 0)) (by decide +kernel)) (by decide) hm_z
            replace hm_z := rn_goto (am_cur_of (i := (140, 3, .goto 4, (88, 0, 0), 0)) (by decide +kernel)) hm_z
            replace hm_z := rn_istore (am_cur_of (i := (144, 2, .istore 4, (0, 0, 0), 0)) (by decide +kernel)) hm_z
            obtain ⟨_, s1347_z, s1348_z, g4_z, hm_z⟩ := hm_z
            replace g0_z := s1347_z 0 _ (by decide) rfl g0_z
            replace g1_z := s1347_z 1 _ (by decide) rfl g1_z
            replace g2_z := s1347_z 2 _ (by decide) rfl g2_z
            replace g3_z := s1347_z 3 _ (by decide) rfl g3_z
            replace g5_z := s1347_z 5 _ (by decide) rfl g5_z
            replace g6_z := s1347_z 6 _ (by decide) rfl g6_z
            clear s1347_z s1348_z
            replace hm_z := rn_iinc (w := v6_z + 1) (am_cur_of (i := (146, 3, .iinc 6 1, (0, 0, 0), 0)) (by decide +kernel)) g6_z rfl hm_z
            obtain ⟨_, s1349_z, s1350_z, g6_z, hm_z⟩ := hm_z
            replace g0_z := s1349_z 0 _ (by decide) rfl g0_z
            replace g1_z := s1349_z 1 _ (by decide) rfl g1_z
            replace g2_z := s1349_z 2 _ (by decide) rfl g2_z
            replace g3_z := s1349_z 3 _ (by decide) rfl g3_z
            replace g4_z := s1349_z 4 _ (by decide) rfl g4_z
            replace g5_z := s1349_z 5 _ (by decide) rfl g5_z
            clear s1349_z s1350_z
            replace hm_z := rn_gotoL (am_cur_of (i := (149, 3, .goto (-48), (62, 0, 0), 0)) (by decide +kernel)) hm_z
            exact bk_t (bk_t bk_r k1340_z) (I62 1 v5_z (v6_z + 1) _ _ g0_z g1_z g2_z g3_z g4_z g5_z g6_z hm_z)
    have H44 : ∀ (v4_z : Int32) (v5_z : Int32) (ls : am_L) (g : am_H), am_get ls 0 = some (.ref 164) → am_get ls 1 = some (.int 1) → am_get ls 2 = some (.int k) → am_get ls 3 = some (.int y) → am_get ls 4 = some (.int v4_z) → am_get ls 5 = some (.int v5_z) → rn (f + 1) am_m229 44 ls [] g r g' → bk g g' := by
      intro v4_z v5_z ls g g0_z g1_z g2_z g3_z g4_z g5_z hm_z
      have z0_z : (0 : Int32).toInt = 0 := by decide
      replace hm_z := rn_iload (am_cur_of (i := (71, 2, .iload 5, (0, 0, 0), 0)) (by decide +kernel)) g5_z hm_z
      replace hm_z := rn_aload_n (am_cur_of (i := (73, 1, .aload_n 0, (0, 0, 0), 0)) (by decide +kernel)) g0_z hm_z
      replace hm_z := rn_getR (x := 170) (am_cur_of (i := (74, 3, .getfield 30, (12, 25, 1409), 0)) (by decide +kernel)) (by decide +kernel) hm_z
      replace hm_z := rn_bipush (w := 7) (am_cur_of (i := (77, 2, .bipush 7, (0, 0, 0), 0)) (by decide +kernel)) (by decide) hm_z
      replace hm_z := rn_iload_n (am_cur_of (i := (79, 1, .iload_n 2, (0, 0, 0), 0)) (by decide +kernel)) g2_z hm_z
      replace hm_z := rn_imul (w := (7 : Int32) * k) (am_cur_of (i := (80, 1, .imul, (0, 0, 0), 0)) (by decide +kernel)) rfl hm_z
      replace hm_z := rn_iconst (w := 2) (am_cur_of (i := (81, 1, .iconst 2, (0, 0, 0), 0)) (by decide +kernel)) (by decide) hm_z
      replace hm_z := rn_iadd (w := ((7 : Int32) * k) + 2) (am_cur_of (i := (82, 1, .iadd, (0, 0, 0), 0)) (by decide +kernel)) rfl hm_z
      replace hm_z := rn_iaload (N := 56) (q := (((7 : Int32) * k) + 2).toNatClampNeg) (v := rg_v g 170 ((((7 : Int32) * k) + 2).toNatClampNeg)) (am_cur_of (i := (83, 1, .iaload, (0, 0, 0), 0)) (by decide +kernel)) (by decide +kernel) rfl rfl hm_z
      obtain ⟨p1351_z, hm_z⟩ := hm_z
      replace hm_z := rn_cmp (am_cur_of (i := (84, 3, .if_icmp .ge 85, (99, 0, 0), 0)) (by decide +kernel)) hm_z
      rcases hm_z with ⟨b1352_z, hm_z⟩ | ⟨b1352_z, hm_z⟩
      · replace b1352_z : (rg_v g 170 ((((7 : Int32) * k) + 2).toNatClampNeg)).toInt ≤ v5_z.toInt := b1352_z
        exact bk_t bk_r (H99 v4_z _ _ g4_z hm_z)
      · replace b1352_z : v5_z.toInt < (rg_v g 170 ((((7 : Int32) * k) + 2).toNatClampNeg)).toInt := b1352_z
        replace hm_z := rn_iload (am_cur_of (i := (87, 2, .iload 4, (0, 0, 0), 0)) (by decide +kernel)) g4_z hm_z
        replace hm_z := rn_if (am_cur_of (i := (89, 3, .ifCond .eq 80, (99, 0, 0), 0)) (by decide +kernel)) hm_z
        rcases hm_z with ⟨b1353_z, hm_z⟩ | ⟨b1353_z, hm_z⟩
        · replace b1353_z : v4_z = (0 : Int32) ∧ v4_z.toInt = (0 : Int32).toInt := b1353_z
          exact bk_t bk_r (H99 v4_z _ _ g4_z hm_z)
        · replace b1353_z : ¬ v4_z = (0 : Int32) ∧ ¬ v4_z.toInt = (0 : Int32).toInt := b1353_z
          replace hm_z := rn_aload_n (am_cur_of (i := (92, 1, .aload_n 0, (0, 0, 0), 0)) (by decide +kernel)) g0_z hm_z
          replace hm_z := rn_iload_n (am_cur_of (i := (93, 1, .iload_n 1, (0, 0, 0), 0)) (by decide +kernel)) g1_z hm_z
          replace hm_z := rn_iload_n (am_cur_of (i := (94, 1, .iload_n 2, (0, 0, 0), 0)) (by decide +kernel)) g2_z hm_z
          replace hm_z := rn_callV (M' := am_m204) (o := 164) (ar := [.int k, .int 1]) (rest := []) (L := lv_args 0 [.ref 164, .int 1, .int k]) (am_cur_of (i := (95, 3, .invokevirtual 413, (204, 1847, 3), 0)) (by decide +kernel)) rfl rfl rfl rfl hm_z
          obtain ⟨r1354_z, h1355_z, q1356_z, hm_z⟩ := hm_z
          have k1357_z := fk_204_1 k0_z q1356_z
          have vo := rn_void rfl q1356_z
          subst vo
          replace hm_z : rn _ _ _ _ [] _ _ _ := hm_z
          replace hm_z := rn_iconst (w := 0) (am_cur_of (i := (98, 1, .iconst 0, (0, 0, 0), 0)) (by decide +kernel)) (by decide) hm_z
          replace hm_z := rn_istore (am_cur_of (i := (99, 2, .istore 6, (0, 0, 0), 0)) (by decide +kernel)) hm_z
          obtain ⟨_, s1358_z, s1359_z, g6_z, hm_z⟩ := hm_z
          replace g0_z := s1358_z 0 _ (by decide) rfl g0_z
          replace g1_z := s1358_z 1 _ (by decide) rfl g1_z
          replace g2_z := s1358_z 2 _ (by decide) rfl g2_z
          replace g3_z := s1358_z 3 _ (by decide) rfl g3_z
          replace g4_z := s1358_z 4 _ (by decide) rfl g4_z
          replace g5_z := s1358_z 5 _ (by decide) rfl g5_z
          clear s1358_z s1359_z
          exact bk_t (bk_t bk_r k1357_z) (H62 v4_z v5_z 0 _ _ g0_z g1_z g2_z g3_z g4_z g5_z g6_z hm_z)
    have H42 : ∀ (v4_z : Int32) (ls : am_L) (g : am_H), am_get ls 0 = some (.ref 164) → am_get ls 1 = some (.int 1) → am_get ls 2 = some (.int k) → am_get ls 3 = some (.int y) → am_get ls 4 = some (.int v4_z) → rn (f + 1) am_m229 42 ls [] g r g' → bk g g' := by
      intro v4_z ls g g0_z g1_z g2_z g3_z g4_z hm_z
      replace hm_z := rn_iconst (w := 0) (am_cur_of (i := (68, 1, .iconst 0, (0, 0, 0), 0)) (by decide +kernel)) (by decide) hm_z
      replace hm_z := rn_istore (am_cur_of (i := (69, 2, .istore 5, (0, 0, 0), 0)) (by decide +kernel)) hm_z
      obtain ⟨_, s1360_z, s1361_z, g5_z, hm_z⟩ := hm_z
      replace g0_z := s1360_z 0 _ (by decide) rfl g0_z
      replace g1_z := s1360_z 1 _ (by decide) rfl g1_z
      replace g2_z := s1360_z 2 _ (by decide) rfl g2_z
      replace g3_z := s1360_z 3 _ (by decide) rfl g3_z
      replace g4_z := s1360_z 4 _ (by decide) rfl g4_z
      clear s1360_z s1361_z
      exact bk_t bk_r (H44 v4_z 0 _ _ g0_z g1_z g2_z g3_z g4_z g5_z hm_z)
    have H13 : ∀ (v4_z : Int32) (v5_z : Int32) (ls : am_L) (g : am_H), am_get ls 0 = some (.ref 164) → am_get ls 1 = some (.int 1) → am_get ls 2 = some (.int k) → am_get ls 3 = some (.int y) → am_get ls 4 = some (.int v4_z) → am_get ls 5 = some (.int v5_z) → rn (f + 1) am_m229 13 ls [] g r g' → bk g g' := by
      intro v4_z v5_z ls g g0_z g1_z g2_z g3_z g4_z g5_z hm_z
      have z0_z : (0 : Int32).toInt = 0 := by decide
      replace hm_z := rn_iload (am_cur_of (i := (17, 2, .iload 5, (0, 0, 0), 0)) (by decide +kernel)) g5_z hm_z
      replace hm_z := rn_aload_n (am_cur_of (i := (19, 1, .aload_n 0, (0, 0, 0), 0)) (by decide +kernel)) g0_z hm_z
      replace hm_z := rn_getR (x := 170) (am_cur_of (i := (20, 3, .getfield 30, (12, 25, 1409), 0)) (by decide +kernel)) (by decide +kernel) hm_z
      replace hm_z := rn_bipush (w := 7) (am_cur_of (i := (23, 2, .bipush 7, (0, 0, 0), 0)) (by decide +kernel)) (by decide) hm_z
      replace hm_z := rn_iload_n (am_cur_of (i := (25, 1, .iload_n 2, (0, 0, 0), 0)) (by decide +kernel)) g2_z hm_z
      replace hm_z := rn_imul (w := (7 : Int32) * k) (am_cur_of (i := (26, 1, .imul, (0, 0, 0), 0)) (by decide +kernel)) rfl hm_z
      replace hm_z := rn_iconst (w := 5) (am_cur_of (i := (27, 1, .iconst 5, (0, 0, 0), 0)) (by decide +kernel)) (by decide) hm_z
      replace hm_z := rn_iadd (w := ((7 : Int32) * k) + 5) (am_cur_of (i := (28, 1, .iadd, (0, 0, 0), 0)) (by decide +kernel)) rfl hm_z
      replace hm_z := rn_iaload (N := 56) (q := (((7 : Int32) * k) + 5).toNatClampNeg) (v := rg_v g 170 ((((7 : Int32) * k) + 5).toNatClampNeg)) (am_cur_of (i := (29, 1, .iaload, (0, 0, 0), 0)) (by decide +kernel)) (by decide +kernel) rfl rfl hm_z
      obtain ⟨p1362_z, hm_z⟩ := hm_z
      replace hm_z := rn_cmp (am_cur_of (i := (30, 3, .if_icmp .ge 38, (42, 0, 0), 0)) (by decide +kernel)) hm_z
      rcases hm_z with ⟨b1363_z, hm_z⟩ | ⟨b1363_z, hm_z⟩
      · replace b1363_z : (rg_v g 170 ((((7 : Int32) * k) + 5).toNatClampNeg)).toInt ≤ v5_z.toInt := b1363_z
        exact bk_t bk_r (H42 v4_z _ _ g0_z g1_z g2_z g3_z g4_z hm_z)
      · replace b1363_z : v5_z.toInt < (rg_v g 170 ((((7 : Int32) * k) + 5).toNatClampNeg)).toInt := b1363_z
        replace hm_z := rn_iload (am_cur_of (i := (33, 2, .iload 4, (0, 0, 0), 0)) (by decide +kernel)) g4_z hm_z
        replace hm_z := rn_if (am_cur_of (i := (35, 3, .ifCond .eq 33, (42, 0, 0), 0)) (by decide +kernel)) hm_z
        rcases hm_z with ⟨b1364_z, hm_z⟩ | ⟨b1364_z, hm_z⟩
        · replace b1364_z : v4_z = (0 : Int32) ∧ v4_z.toInt = (0 : Int32).toInt := b1364_z
          exact bk_t bk_r (H42 v4_z _ _ g0_z g1_z g2_z g3_z g4_z hm_z)
        · replace b1364_z : ¬ v4_z = (0 : Int32) ∧ ¬ v4_z.toInt = (0 : Int32).toInt := b1364_z
          replace hm_z := rn_aload_n (am_cur_of (i := (38, 1, .aload_n 0, (0, 0, 0), 0)) (by decide +kernel)) g0_z hm_z
          replace hm_z := rn_iload_n (am_cur_of (i := (39, 1, .iload_n 1, (0, 0, 0), 0)) (by decide +kernel)) g1_z hm_z
          replace hm_z := rn_iconst (w := 1) (am_cur_of (i := (40, 1, .iconst 1, (0, 0, 0), 0)) (by decide +kernel)) (by decide) hm_z
          replace hm_z := rn_iconst (w := 0) (am_cur_of (i := (41, 1, .iconst 0, (0, 0, 0), 0)) (by decide +kernel)) (by decide) hm_z
          replace hm_z := rn_callV (M' := am_m199) (o := 164) (ar := [.int 0, .int 1, .int 1]) (rest := []) (L := lv_args 0 [.ref 164, .int 1, .int 1, .int 0]) (am_cur_of (i := (42, 3, .invokevirtual 434, (199, 1828, 3), 0)) (by decide +kernel)) rfl rfl rfl rfl hm_z
          obtain ⟨r1365_z, h1366_z, q1367_z, hm_z⟩ := hm_z
          have k1368_z := fk_199_1 q1367_z
          have vo := rn_void rfl q1367_z
          subst vo
          replace hm_z : rn _ _ _ _ [] _ _ _ := hm_z
          replace hm_z := rn_aload_n (am_cur_of (i := (45, 1, .aload_n 0, (0, 0, 0), 0)) (by decide +kernel)) g0_z hm_z
          replace hm_z := rn_getR (x := 188) (am_cur_of (i := (46, 3, .getfield 85, (12, 50, 1434), 0)) (by decide +kernel)) (by decide +kernel) hm_z
          replace hm_z := rn_iload_n (am_cur_of (i := (49, 1, .iload_n 1, (0, 0, 0), 0)) (by decide +kernel)) g1_z hm_z
          replace hm_z := rn_iaload (N := 4) (q := 1) (v := rg_v h1366_z 188 1) (am_cur_of (i := (50, 1, .iaload, (0, 0, 0), 0)) (by decide +kernel)) (by decide +kernel) rfl rfl hm_z
          obtain ⟨p1369_z, hm_z⟩ := hm_z
          replace hm_z := rn_iload_n (am_cur_of (i := (51, 1, .iload_n 3, (0, 0, 0), 0)) (by decide +kernel)) g3_z hm_z
          replace hm_z := rn_cmp (am_cur_of (i := (52, 3, .if_icmp .lt 7, (38, 0, 0), 0)) (by decide +kernel)) hm_z
          rcases hm_z with ⟨b1370_z, hm_z⟩ | ⟨b1370_z, hm_z⟩
          · replace b1370_z : (rg_v h1366_z 188 1).toInt < y.toInt := b1370_z
            replace hm_z := rn_iconst (w := 0) (am_cur_of (i := (59, 1, .iconst 0, (0, 0, 0), 0)) (by decide +kernel)) (by decide) hm_z
            replace hm_z := rn_istore (am_cur_of (i := (60, 2, .istore 4, (0, 0, 0), 0)) (by decide +kernel)) hm_z
            obtain ⟨_, s1371_z, s1372_z, g4_z, hm_z⟩ := hm_z
            replace g0_z := s1371_z 0 _ (by decide) rfl g0_z
            replace g1_z := s1371_z 1 _ (by decide) rfl g1_z
            replace g2_z := s1371_z 2 _ (by decide) rfl g2_z
            replace g3_z := s1371_z 3 _ (by decide) rfl g3_z
            replace g5_z := s1371_z 5 _ (by decide) rfl g5_z
            clear s1371_z s1372_z
            replace hm_z := rn_iinc (w := v5_z + 1) (am_cur_of (i := (62, 3, .iinc 5 1, (0, 0, 0), 0)) (by decide +kernel)) g5_z rfl hm_z
            obtain ⟨_, s1373_z, s1374_z, g5_z, hm_z⟩ := hm_z
            replace g0_z := s1373_z 0 _ (by decide) rfl g0_z
            replace g1_z := s1373_z 1 _ (by decide) rfl g1_z
            replace g2_z := s1373_z 2 _ (by decide) rfl g2_z
            replace g3_z := s1373_z 3 _ (by decide) rfl g3_z
            replace g4_z := s1373_z 4 _ (by decide) rfl g4_z
            clear s1373_z s1374_z
            replace hm_z := rn_gotoL (am_cur_of (i := (65, 3, .goto (-48), (13, 0, 0), 0)) (by decide +kernel)) hm_z
            exact bk_t (bk_t bk_r k1368_z) (I13 0 (v5_z + 1) _ _ g0_z g1_z g2_z g3_z g4_z g5_z hm_z)
          · replace b1370_z : y.toInt ≤ (rg_v h1366_z 188 1).toInt := b1370_z
            replace hm_z := rn_iconst (w := 1) (am_cur_of (i := (55, 1, .iconst 1, (0, 0, 0), 0)) (by decide +kernel)) (by decide) hm_z
            replace hm_z := rn_goto (am_cur_of (i := (56, 3, .goto 4, (39, 0, 0), 0)) (by decide +kernel)) hm_z
            replace hm_z := rn_istore (am_cur_of (i := (60, 2, .istore 4, (0, 0, 0), 0)) (by decide +kernel)) hm_z
            obtain ⟨_, s1375_z, s1376_z, g4_z, hm_z⟩ := hm_z
            replace g0_z := s1375_z 0 _ (by decide) rfl g0_z
            replace g1_z := s1375_z 1 _ (by decide) rfl g1_z
            replace g2_z := s1375_z 2 _ (by decide) rfl g2_z
            replace g3_z := s1375_z 3 _ (by decide) rfl g3_z
            replace g5_z := s1375_z 5 _ (by decide) rfl g5_z
            clear s1375_z s1376_z
            replace hm_z := rn_iinc (w := v5_z + 1) (am_cur_of (i := (62, 3, .iinc 5 1, (0, 0, 0), 0)) (by decide +kernel)) g5_z rfl hm_z
            obtain ⟨_, s1377_z, s1378_z, g5_z, hm_z⟩ := hm_z
            replace g0_z := s1377_z 0 _ (by decide) rfl g0_z
            replace g1_z := s1377_z 1 _ (by decide) rfl g1_z
            replace g2_z := s1377_z 2 _ (by decide) rfl g2_z
            replace g3_z := s1377_z 3 _ (by decide) rfl g3_z
            replace g4_z := s1377_z 4 _ (by decide) rfl g4_z
            clear s1377_z s1378_z
            replace hm_z := rn_gotoL (am_cur_of (i := (65, 3, .goto (-48), (13, 0, 0), 0)) (by decide +kernel)) hm_z
            exact bk_t (bk_t bk_r k1368_z) (I13 1 (v5_z + 1) _ _ g0_z g1_z g2_z g3_z g4_z g5_z hm_z)
    exact ⟨H13, H42, H44, H62, H91, H97, H99⟩
