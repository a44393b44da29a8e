set_option maxHeartbeats 400000
/-! ===== waits AND pump OF THE CLASS, WITH FULL (wip/r/gen99so.py) ===== -/
theorem sw_62 {n : Nat} {h h' : am_H} {r : Option Value} {x : Int32} {y : Int32} {z : Int32}  (hc_z : rn n am_m62 0 (lv_args 0 [.int x, .int y, .int z]) [] h r h') : ((x.toInt < y.toInt) ∧ r = some (.int 0) ∧ h' = h) ∨ ((y.toInt ≤ x.toInt) ∧ (z.toInt < x.toInt) ∧ r = some (.int 0) ∧ h' = h) ∨ ((y.toInt ≤ x.toInt) ∧ (x.toInt ≤ z.toInt) ∧ r = some (.int 1) ∧ h' = h) := by
  have g0_z : am_get (lv_args 0 [.int x, .int y, .int z]) 0 = some (.int x) := rfl
  have g1_z : am_get (lv_args 0 [.int x, .int y, .int z]) 1 = some (.int y) := rfl
  have g2_z : am_get (lv_args 0 [.int x, .int y, .int z]) 2 = some (.int z) := rfl
  replace hc_z := rn_iload_n (am_cur_of (i := (0, 1, .iload_n 0, (0, 0, 0), 0)) (by decide +kernel)) g0_z hc_z
  replace hc_z := rn_iload_n (am_cur_of (i := (1, 1, .iload_n 1, (0, 0, 0), 0)) (by decide +kernel)) g1_z hc_z
  replace hc_z := rn_cmp (am_cur_of (i := (2, 3, .if_icmp .lt 12, (8, 0, 0), 0)) (by decide +kernel)) hc_z
  rcases hc_z with ⟨b1_z, hc_z⟩ | ⟨b1_z, hc_z⟩
  · replace b1_z : x.toInt < y.toInt := b1_z
    replace hc_z := rn_iconst (w := 0) (am_cur_of (i := (14, 1, .iconst 0, (0, 0, 0), 0)) (by decide +kernel)) (by decide) hc_z
    replace hc_z := rn_iret (am_cur_of (i := (15, 1, .ireturn, (0, 0, 0), 0)) (by decide +kernel)) hc_z
    obtain ⟨e2_z, e3_z⟩ := hc_z
    exact Or.inl ⟨b1_z, e2_z, e3_z⟩
  · replace b1_z : y.toInt ≤ x.toInt := b1_z
    replace hc_z := rn_iload_n (am_cur_of (i := (5, 1, .iload_n 0, (0, 0, 0), 0)) (by decide +kernel)) g0_z hc_z
    replace hc_z := rn_iload_n (am_cur_of (i := (6, 1, .iload_n 2, (0, 0, 0), 0)) (by decide +kernel)) g2_z hc_z
    replace hc_z := rn_cmp (am_cur_of (i := (7, 3, .if_icmp .gt 7, (8, 0, 0), 0)) (by decide +kernel)) hc_z
    rcases hc_z with ⟨b4_z, hc_z⟩ | ⟨b4_z, hc_z⟩
    · replace b4_z : z.toInt < x.toInt := b4_z
      replace hc_z := rn_iconst (w := 0) (am_cur_of (i := (14, 1, .iconst 0, (0, 0, 0), 0)) (by decide +kernel)) (by decide) hc_z
      replace hc_z := rn_iret (am_cur_of (i := (15, 1, .ireturn, (0, 0, 0), 0)) (by decide +kernel)) hc_z
      obtain ⟨e5_z, e6_z⟩ := hc_z
      exact Or.inr (Or.inl ⟨b1_z, b4_z, e5_z, e6_z⟩)
    · replace b4_z : x.toInt ≤ z.toInt := b4_z
      replace hc_z := rn_iconst (w := 1) (am_cur_of (i := (10, 1, .iconst 1, (0, 0, 0), 0)) (by decide +kernel)) (by decide) hc_z
      replace hc_z := rn_goto (am_cur_of (i := (11, 3, .goto 4, (9, 0, 0), 0)) (by decide +kernel)) hc_z
      replace hc_z := rn_iret (am_cur_of (i := (15, 1, .ireturn, (0, 0, 0), 0)) (by decide +kernel)) hc_z
      obtain ⟨e7_z, e8_z⟩ := hc_z
      exact Or.inr (Or.inr (⟨b1_z, b4_z, e7_z, e8_z⟩))
theorem secZ_r {p : Nat} {h0_z : am_H} {U Hd pu pf mo o F S : Int32} (H0 : 0 ≤ Hd.toInt) (H9 : Hd.toInt ≤ 9999) (p0_z : 0 ≤ pf.toInt) (m0_z : 0 ≤ mo.toInt) (F0 : 0 ≤ F.toInt) (F9 : F.toInt ≤ 9999) (o0_z : 0 ≤ o.toInt) : 0 ≤ secZ p h0_z U Hd pu pf mo o F S ∧ secZ p h0_z U Hd pu pf mo o F S ≤ 9999 := by
  have q := bnd_w (q := lawX p h0_z 0 (eC (ldX p h0_z U F (Hd - F) o S) F (Hd - F) o S 0)) (wo := F.toInt / 100 + 20 * o.toInt) (mo := 999) (by omega) (by decide)
  unfold secZ
  split
  · omega
  · omega
theorem gR_r {p : Nat} {h0_z : am_H} {U Hd pu pf mo o : Int32} (H0 : 0 ≤ Hd.toInt) (H9 : Hd.toInt ≤ 9999) (p0_z : 0 ≤ pf.toInt) (m0_z : 0 ≤ mo.toInt) (o0_z : 0 ≤ o.toInt) : ∀ (k : Nat) (F S G : Int32), 0 ≤ F.toInt → F.toInt ≤ 9999 → gR (secZ p h0_z U Hd pu pf mo o) k F S G → 0 ≤ G.toInt ∧ G.toInt ≤ 9999
  | 0, F, S, G, F0, F9, e => by
    have e2_z : G = F := e
    rw [e2_z]
    exact ⟨F0, F9⟩
  | k + 1, F, S, G, F0, F9, e => by
    obtain ⟨F1, e1_z, e2_z⟩ := e
    have q := secZ_r (p := p) (h0_z := h0_z) (U := U) (pu := pu) (S := S) H0 H9 p0_z m0_z F0 F9 o0_z
    rw [← e1_z] at q
    exact gR_r H0 H9 p0_z m0_z o0_z k F1 (S + 1) G q.1 q.2 e2_z
theorem sf_81 {n : Nat} {r : Option Value} {h h' : am_H} (n0_z : 0 ≤ (rg_v h 60 1).toInt) (n1_z : (rg_v h 60 1).toInt < 20) (s0_z : 0 ≤ (rg_v h 60 2).toInt) (sz20_z : (rg_v h 60 2).toInt ≤ 20) (hc_z : rn n am_m81 0 (lv_args 0 [.ref 0]) [] h r h') : r = some (.int (rg_v h' 48 0)) ∧ rg_v h' 48 0 = rg_v h 149 0 := by
  have g0_z : am_get (lv_args 0 [.ref 0]) 0 = some (.ref 0) := rfl
  replace hc_z := rn_aload_n (am_cur_of (i := (0, 1, .aload_n 0, (0, 0, 0), 0)) (by decide +kernel)) g0_z hc_z
  replace hc_z := rn_getR (x := 60) (am_cur_of (i := (1, 3, .getfield 50, (0, 9, 670), 0)) (by decide +kernel)) (by decide +kernel) hc_z
  replace hc_z := rn_aload_n (am_cur_of (i := (4, 1, .aload_n 0, (0, 0, 0), 0)) (by decide +kernel)) g0_z hc_z
  replace hc_z := rn_getR (x := 48) (am_cur_of (i := (5, 3, .getfield 37, (0, 5, 666), 0)) (by decide +kernel)) (by decide +kernel) hc_z
  replace hc_z := rn_callV (M' := am_m82) (o := 60) (ar := [.ref 48]) (rest := []) (L := lv_args 0 [.ref 60, .ref 48]) (am_cur_of (i := (8, 3, .invokevirtual 212, (82, 996, 3), 0)) (by decide +kernel)) rfl rfl rfl rfl hc_z
  obtain ⟨r9_z, h10_z, q11_z, hc_z⟩ := hc_z
  have vo := rn_void rfl q11_z
  subst vo
  have pl := se_ln n0_z n1_z
  obtain ⟨p1_z, p2_z, p3_z, p4_z⟩ := hp_82 rfl rfl n0_z n1_z s0_z sz20_z q11_z
  replace hc_z : rn _ _ _ _ [] _ _ _ := hc_z
  replace hc_z := rn_aload_n (am_cur_of (i := (11, 1, .aload_n 0, (0, 0, 0), 0)) (by decide +kernel)) g0_z hc_z
  replace hc_z := rn_getR (x := 48) (am_cur_of (i := (12, 3, .getfield 37, (0, 5, 666), 0)) (by decide +kernel)) (by decide +kernel) hc_z
  replace hc_z := rn_aload_n (am_cur_of (i := (15, 1, .aload_n 0, (0, 0, 0), 0)) (by decide +kernel)) g0_z hc_z
  replace hc_z := rn_getR (x := 148) (am_cur_of (i := (16, 3, .getfield 64, (0, 11, 672), 0)) (by decide +kernel)) (by decide +kernel) hc_z
  replace hc_z := rn_getR (x := 149) (am_cur_of (i := (19, 3, .getfield 216, (8, 1, 572), 0)) (by decide +kernel)) (by decide +kernel) hc_z
  replace hc_z := rn_callV (M' := am_m64) (o := 48) (ar := [.ref 149]) (rest := []) (L := lv_args 0 [.ref 48, .ref 149]) (am_cur_of (i := (22, 3, .invokevirtual 219, (64, 1002, 3), 0)) (by decide +kernel)) rfl rfl rfl rfl hc_z
  obtain ⟨r12_z, h13_z, q14_z, hc_z⟩ := hc_z
  have vo := rn_void rfl q14_z
  subst vo
  obtain ⟨c1_z, c2_z⟩ := cp_64 st_48 st_149 (by omega) q14_z
  have e0_z : rg_v h13_z 48 0 = rg_v h 149 0 := (c1_z 0 (by decide)).trans (lw_v (p4_z 149 0 (by omega) (by omega)))
  replace hc_z : rn _ _ _ _ [] _ _ _ := hc_z
  replace hc_z := rn_aload_n (am_cur_of (i := (25, 1, .aload_n 0, (0, 0, 0), 0)) (by decide +kernel)) g0_z hc_z
  replace hc_z := rn_getR (x := 48) (am_cur_of (i := (26, 3, .getfield 37, (0, 5, 666), 0)) (by decide +kernel)) (by decide +kernel) hc_z
  replace hc_z := rn_getI (v := rg_v h13_z 48 0) (am_cur_of (i := (29, 3, .getfield 222, (5, 0, 466), 0)) (by decide +kernel)) (by decide +kernel) rfl hc_z
  replace hc_z := rn_iret (am_cur_of (i := (32, 1, .ireturn, (0, 0, 0), 0)) (by decide +kernel)) hc_z
  obtain ⟨e15_z, e16_z⟩ := hc_z
  rw [e16_z]
  exact ⟨e15_z, e0_z⟩
theorem sf_83_2_0 {n : Nat} {r : Option Value} {h g h' : am_H} {m s1_z : Int32} (D : h 0 2 = .ref 2) (hL : LW 2 h g) (E1 : rg_v h 48 1 = s1_z) (s10_z : 0 ≤ s1_z.toInt) (F0 : 0 ≤ (rg_v h 48 0).toInt) (F9 : (rg_v h 48 0).toInt ≤ 9999) (H0 : 0 ≤ (rg_v h 2 0).toInt) (H9 : (rg_v h 2 0).toInt ≤ 9999) (p0_z : 0 ≤ (rg_v h 2 7).toInt) (p9_z : (rg_v h 2 7).toInt ≤ 9999) (l0_z : 0 ≤ (leZ (rg_v h 2 18) (rg_v h 48 4) (fun q => rg_v h 7 q)).toInt) (l9_z : (leZ (rg_v h 2 18) (rg_v h 48 4) (fun q => rg_v h 7 q)).toInt ≤ 999) (n0_z : 0 ≤ (rg_v h 60 1).toInt) (n1_z : (rg_v h 60 1).toInt < 20) (s0_z : 0 ≤ (rg_v h 60 2).toInt) (sz20_z : (rg_v h 60 2).toInt ≤ 20) (v1_z : 1 ≤ m.toInt) (v2_z : m.toInt ≤ 999) (v3_z : s1_z.toInt + m.toInt ≤ 99999) (hc_z : rn n am_m83 0 (lv_args 0 [.ref 0, .int m, .int 0]) [] h r h') : ∃ F2 : Int32, gR (secZ 2 h 0 (rg_v h 2 0) 0 (rg_v h 2 7) (leZ (rg_v h 2 18) (rg_v h 48 4) (fun q => rg_v h 7 q)) 0) m.toInt.toNat (rg_v h 48 0) s1_z F2 ∧ rg_v h' 48 0 = F2 ∧ r = some (.int F2) := by
  have z0_z : (0 : Int32).toInt = 0 := by decide
  have z1_z : (1 : Int32).toInt = 1 := by decide
  have z999_z : (999 : Int32).toInt = 999 := by decide
  have z2147483647_z : (2147483647 : Int32).toInt = 2147483647 := by decide
  have g0_z : am_get (lv_args 0 [.ref 0, .int m, .int 0]) 0 = some (.ref 0) := rfl
  have g1_z : am_get (lv_args 0 [.ref 0, .int m, .int 0]) 1 = some (.int m) := rfl
  have g2_z : am_get (lv_args 0 [.ref 0, .int m, .int 0]) 2 = some (.int 0) := rfl
  replace hc_z := rn_iload_n (am_cur_of (i := (0, 1, .iload_n 1, (0, 0, 0), 0)) (by decide +kernel)) g1_z hc_z
  replace hc_z := rn_iconst (w := 1) (am_cur_of (i := (1, 1, .iconst 1, (0, 0, 0), 0)) (by decide +kernel)) (by decide) hc_z
  replace hc_z := rn_sipush (w := 999) (am_cur_of (i := (2, 3, .sipush 999, (0, 0, 0), 0)) (by decide +kernel)) (by decide) hc_z
  replace hc_z := rn_callS (M' := am_m62) (ar := [.int 999, .int 1, .int m]) (rest := []) (L := lv_args 0 [.int m, .int 1, .int 999]) (am_cur_of (i := (5, 3, .invokestatic 172, (62, 908, 3), 0)) (by decide +kernel)) rfl rfl rfl rfl hc_z
  obtain ⟨r17_z, h18_z, q19_z, hc_z⟩ := hc_z
  rcases sw_62 q19_z with ⟨b20_z, rfl, y21_z⟩ | ⟨b22_z, b23_z, rfl, y24_z⟩ | ⟨b25_z, b26_z, rfl, y27_z⟩
  · replace y21_z := y21_z.symm
    subst y21_z
    replace b20_z : m.toInt < (1 : Int32).toInt := b20_z
    replace hc_z : rn _ _ _ _ [.int 0] _ _ _ := hc_z
    replace hc_z := rn_ifT (am_cur_of (i := (8, 3, .ifCond .eq 17, (12, 0, 0), 0)) (by decide +kernel)) (by decide) hc_z
    replace hc_z := rn_iconst (w := (-1)) (am_cur_of (i := (25, 1, .iconst (-1), (0, 0, 0), 0)) (by decide +kernel)) (by decide) hc_z
    replace hc_z := rn_iret (am_cur_of (i := (26, 1, .ireturn, (0, 0, 0), 0)) (by decide +kernel)) hc_z
    obtain ⟨e28_z, e29_z⟩ := hc_z
    exfalso
    have bm := ab_isub (x := 99999) (y := s1_z) (by rw [show (99999 : Int32).toInt = 99999 by decide]; omega) (by rw [show (99999 : Int32).toInt = 99999 by decide]; omega)
    rw [show (99999 : Int32).toInt = 99999 by decide] at bm
    omega
  · replace y24_z := y24_z.symm
    subst y24_z
    replace b22_z : (1 : Int32).toInt ≤ m.toInt := b22_z
    replace b23_z : (999 : Int32).toInt < m.toInt := b23_z
    replace hc_z : rn _ _ _ _ [.int 0] _ _ _ := hc_z
    replace hc_z := rn_ifT (am_cur_of (i := (8, 3, .ifCond .eq 17, (12, 0, 0), 0)) (by decide +kernel)) (by decide) hc_z
    replace hc_z := rn_iconst (w := (-1)) (am_cur_of (i := (25, 1, .iconst (-1), (0, 0, 0), 0)) (by decide +kernel)) (by decide) hc_z
    replace hc_z := rn_iret (am_cur_of (i := (26, 1, .ireturn, (0, 0, 0), 0)) (by decide +kernel)) hc_z
    obtain ⟨e30_z, e31_z⟩ := hc_z
    exfalso
    have bm := ab_isub (x := 99999) (y := s1_z) (by rw [show (99999 : Int32).toInt = 99999 by decide]; omega) (by rw [show (99999 : Int32).toInt = 99999 by decide]; omega)
    rw [show (99999 : Int32).toInt = 99999 by decide] at bm
    omega
  · replace y27_z := y27_z.symm
    subst y27_z
    replace b25_z : (1 : Int32).toInt ≤ m.toInt := b25_z
    replace b26_z : m.toInt ≤ (999 : Int32).toInt := b26_z
    replace hc_z : rn _ _ _ _ [.int 1] _ _ _ := hc_z
    replace hc_z := rn_ifF (am_cur_of (i := (8, 3, .ifCond .eq 17, (12, 0, 0), 0)) (by decide +kernel)) (by decide) hc_z
    replace hc_z := rn_iload_n (am_cur_of (i := (11, 1, .iload_n 1, (0, 0, 0), 0)) (by decide +kernel)) g1_z hc_z
    replace hc_z := rn_ldc (w := 99999) (am_cur_of (i := (12, 2, .ldc 198, (0, 0, 960), 99999)) (by decide +kernel)) (by decide) hc_z
    replace hc_z := rn_aload_n (am_cur_of (i := (14, 1, .aload_n 0, (0, 0, 0), 0)) (by decide +kernel)) g0_z hc_z
    replace hc_z := rn_getR (x := 48) (am_cur_of (i := (15, 3, .getfield 37, (0, 5, 666), 0)) (by decide +kernel)) (by decide +kernel) hc_z
    replace hc_z := rn_getI (v := s1_z) (am_cur_of (i := (18, 3, .getfield 199, (5, 1, 471), 0)) (by decide +kernel)) (by decide +kernel) E1 hc_z
    replace hc_z := rn_isub (w := (99999 : Int32) - s1_z) (am_cur_of (i := (21, 1, .isub, (0, 0, 0), 0)) (by decide +kernel)) rfl hc_z
    replace hc_z := rn_cmp (am_cur_of (i := (22, 3, .if_icmp .le 5, (14, 0, 0), 0)) (by decide +kernel)) hc_z
    rcases hc_z with ⟨b32_z, hc_z⟩ | ⟨b32_z, hc_z⟩
    · replace b32_z : m.toInt ≤ ((99999 : Int32) - s1_z).toInt := b32_z
      replace hc_z := rn_aload_n (am_cur_of (i := (27, 1, .aload_n 0, (0, 0, 0), 0)) (by decide +kernel)) g0_z hc_z
      replace hc_z := rn_getR (x := 148) (am_cur_of (i := (28, 3, .getfield 64, (0, 11, 672), 0)) (by decide +kernel)) (by decide +kernel) hc_z
      replace hc_z := rn_aload_n (am_cur_of (i := (31, 1, .aload_n 0, (0, 0, 0), 0)) (by decide +kernel)) g0_z hc_z
      replace hc_z := rn_getM (x := 2) (am_cur_of (i := (32, 3, .getfield 18, (0, 2, 663), 0)) (by decide +kernel)) D hc_z
      replace hc_z := rn_aload_n (am_cur_of (i := (35, 1, .aload_n 0, (0, 0, 0), 0)) (by decide +kernel)) g0_z hc_z
      replace hc_z := rn_getR (x := 48) (am_cur_of (i := (36, 3, .getfield 37, (0, 5, 666), 0)) (by decide +kernel)) (by decide +kernel) hc_z
      replace hc_z := rn_callV (M' := am_m63) (o := 148) (ar := [.ref 48, .ref 2]) (rest := []) (L := lv_args 0 [.ref 148, .ref 2, .ref 48]) (am_cur_of (i := (39, 3, .invokevirtual 146, (63, 912, 3), 0)) (by decide +kernel)) rfl rfl rfl rfl hc_z
      obtain ⟨r33_z, h34_z, q35_z, hc_z⟩ := hc_z
      have vo := rn_void rfl q35_z
      subst vo
      obtain ⟨b1_z, b5_z, b2_z, b3_z, b4_z, bS, bf⟩ := se_63_2 q35_z
      have hC : ∀ o q, 2 + 10 ≤ o → o ≤ 2 + 14 → rg_v h34_z o q = rg_v h o q := fun o q a_ b_ => lw_v (bf o q (by omega))
      have eF : rg_v h34_z 149 0 = rg_v h 48 0 := bS 0 (by decide)
      have eS : rg_v h34_z 149 1 = s1_z := (bS 1 (by decide)).trans E1
      have ePt : rg_v h34_z 149 4 = rg_v h 48 4 := bS 4 (by decide)
      have eH : rg_v h34_z 2 0 = rg_v h 2 0 := lw_v (bf 2 0 (by decide))
      have ePf : rg_v h34_z 2 7 = rg_v h 2 7 := lw_v (bf 2 7 (by decide))
      have eLo : (fun q => rg_v h34_z 7 q) = (fun q => rg_v h 7 q) := funext (fun q => lw_v (bf 7 q (by omega)))
      replace hc_z : rn _ _ _ _ [] _ _ _ := hc_z
      replace hc_z := rn_aload_n (am_cur_of (i := (42, 1, .aload_n 0, (0, 0, 0), 0)) (by decide +kernel)) g0_z hc_z
      replace hc_z := rn_getR (x := 148) (am_cur_of (i := (43, 3, .getfield 64, (0, 11, 672), 0)) (by decide +kernel)) (by decide +kernel) hc_z
      replace hc_z := rn_iload_n (am_cur_of (i := (46, 1, .iload_n 1, (0, 0, 0), 0)) (by decide +kernel)) g1_z hc_z
      replace hc_z := rn_iload_n (am_cur_of (i := (47, 1, .iload_n 2, (0, 0, 0), 0)) (by decide +kernel)) g2_z hc_z
      replace hc_z := rn_callV (M' := am_m75) (o := 148) (ar := [.int 0, .int m]) (rest := []) (L := lv_args 0 [.ref 148, .int m, .int 0]) (am_cur_of (i := (48, 3, .invokevirtual 225, (75, 1007, 3), 0)) (by decide +kernel)) rfl rfl rfl rfl hc_z
      obtain ⟨r36_z, h37_z, q38_z, hc_z⟩ := hc_z
      have bm := ab_isub (x := 99999) (y := s1_z) (by rw [show (99999 : Int32).toInt = 99999 by decide]; omega) (by rw [show (99999 : Int32).toInt = 99999 by decide]; omega)
      rw [show (99999 : Int32).toInt = 99999 by decide] at bm
      have eLo2 : (fun q => rg_v h34_z 7 q) = (fun q => rg_v h 7 q) := eLo
      obtain ⟨j, F2, le2_z, j1_z, j2_z, j3_z, j4_z, j5_z, j6_z, j7_z, j8_z, j9_z⟩ := gf_75_148_2_0 (le := rg_v h34_z 148 6) (h0_z := h) (b1_z) hL (fun o q a_ b_ => (hC o q a_ b_)) b5_z eF eS eH b3_z b4_z ePf rfl b2_z ePt H0 H9 p0_z p9_z F0 (by omega) s10_z (by omega) (by omega) (by rw [eLo2]; exact l0_z) (by rw [eLo2]; exact l9_z) q38_z
      have em : j = m.toInt.toNat ∧ r36_z = some (.int 1) := by
        rcases j2_z with j2_z | ⟨-, -, jb⟩
        · exact j2_z
        · exfalso
          omega
      obtain ⟨em, rr⟩ := em
      subst rr
      rw [em, eLo2] at j4_z
      have fv : ∀ o k, (o = 60 ∧ (k = 1 ∨ k = 2)) → rg_v h37_z o k = rg_v h o k := fun o k q => (lw_v (j9_z o k (by omega) (by omega) (by omega) (by omega))).trans ((lw_v (bf o k (by omega))))
      replace hc_z : rn _ _ _ _ [.int 1] _ _ _ := hc_z
      replace hc_z := rn_pop (am_cur_of (i := (51, 1, .pop, (0, 0, 0), 0)) (by decide +kernel)) hc_z
      replace hc_z := rn_aload_n (am_cur_of (i := (52, 1, .aload_n 0, (0, 0, 0), 0)) (by decide +kernel)) g0_z hc_z
      replace hc_z := rn_callV (M' := am_m81) (o := 0) (ar := []) (rest := []) (L := lv_args 0 [.ref 0]) (am_cur_of (i := (53, 3, .invokevirtual 208, (81, 992, 3), 0)) (by decide +kernel)) rfl rfl rfl rfl hc_z
      obtain ⟨r39_z, h40_z, q41_z, hc_z⟩ := hc_z
      have gv : ∀ o k, (o = 60 ∧ (k = 1 ∨ k = 2)) → rg_v h37_z o k = rg_v h o k := fun o k q => fv o k q
      obtain ⟨rr, e0_z⟩ := sf_81 (by rw [gv 60 1 (by omega)]; exact n0_z) (by rw [gv 60 1 (by omega)]; exact n1_z) (by rw [gv 60 2 (by omega)]; exact s0_z) (by rw [gv 60 2 (by omega)]; exact sz20_z) q41_z
      have e1_z : rg_v h40_z 48 0 = F2 := e0_z.trans (j6_z)
      rw [e1_z] at rr
      subst rr
      replace hc_z : rn _ _ _ _ [.int F2] _ _ _ := hc_z
      replace hc_z := rn_iret (am_cur_of (i := (56, 1, .ireturn, (0, 0, 0), 0)) (by decide +kernel)) hc_z
      obtain ⟨e42_z, e43_z⟩ := hc_z
      exact ⟨F2, j4_z, by rw [e43_z]; exact e1_z, e42_z⟩
    · replace b32_z : ((99999 : Int32) - s1_z).toInt < m.toInt := b32_z
      replace hc_z := rn_iconst (w := (-1)) (am_cur_of (i := (25, 1, .iconst (-1), (0, 0, 0), 0)) (by decide +kernel)) (by decide) hc_z
      replace hc_z := rn_iret (am_cur_of (i := (26, 1, .ireturn, (0, 0, 0), 0)) (by decide +kernel)) hc_z
      obtain ⟨e44_z, e45_z⟩ := hc_z
      exfalso
      have bm := ab_isub (x := 99999) (y := s1_z) (by rw [show (99999 : Int32).toInt = 99999 by decide]; omega) (by rw [show (99999 : Int32).toInt = 99999 by decide]; omega)
      rw [show (99999 : Int32).toInt = 99999 by decide] at bm
      omega
theorem sf_83_2_1 {n : Nat} {r : Option Value} {h g h' : am_H} {m s1_z : Int32} (D : h 0 2 = .ref 2) (hL : LW 2 h g) (E1 : rg_v h 48 1 = s1_z) (s10_z : 0 ≤ s1_z.toInt) (F0 : 0 ≤ (rg_v h 48 0).toInt) (F9 : (rg_v h 48 0).toInt ≤ 9999) (H0 : 0 ≤ (rg_v h 2 0).toInt) (H9 : (rg_v h 2 0).toInt ≤ 9999) (p0_z : 0 ≤ (rg_v h 2 7).toInt) (p9_z : (rg_v h 2 7).toInt ≤ 9999) (l0_z : 0 ≤ (leZ (rg_v h 2 18) (rg_v h 48 4) (fun q => rg_v h 7 q)).toInt) (l9_z : (leZ (rg_v h 2 18) (rg_v h 48 4) (fun q => rg_v h 7 q)).toInt ≤ 999) (n0_z : 0 ≤ (rg_v h 60 1).toInt) (n1_z : (rg_v h 60 1).toInt < 20) (s0_z : 0 ≤ (rg_v h 60 2).toInt) (sz20_z : (rg_v h 60 2).toInt ≤ 20) (v1_z : 1 ≤ m.toInt) (v2_z : m.toInt ≤ 999) (v3_z : s1_z.toInt + m.toInt ≤ 99999) (hc_z : rn n am_m83 0 (lv_args 0 [.ref 0, .int m, .int 1]) [] h r h') : ∃ F2 : Int32, gR (secZ 2 h 0 (rg_v h 2 0) 0 (rg_v h 2 7) (leZ (rg_v h 2 18) (rg_v h 48 4) (fun q => rg_v h 7 q)) 1) m.toInt.toNat (rg_v h 48 0) s1_z F2 ∧ rg_v h' 48 0 = F2 ∧ r = some (.int F2) := by
  have z0_z : (0 : Int32).toInt = 0 := by decide
  have z1_z : (1 : Int32).toInt = 1 := by decide
  have z999_z : (999 : Int32).toInt = 999 := by decide
  have z2147483647_z : (2147483647 : Int32).toInt = 2147483647 := by decide
  have g0_z : am_get (lv_args 0 [.ref 0, .int m, .int 1]) 0 = some (.ref 0) := rfl
  have g1_z : am_get (lv_args 0 [.ref 0, .int m, .int 1]) 1 = some (.int m) := rfl
  have g2_z : am_get (lv_args 0 [.ref 0, .int m, .int 1]) 2 = some (.int 1) := rfl
  replace hc_z := rn_iload_n (am_cur_of (i := (0, 1, .iload_n 1, (0, 0, 0), 0)) (by decide +kernel)) g1_z hc_z
  replace hc_z := rn_iconst (w := 1) (am_cur_of (i := (1, 1, .iconst 1, (0, 0, 0), 0)) (by decide +kernel)) (by decide) hc_z
  replace hc_z := rn_sipush (w := 999) (am_cur_of (i := (2, 3, .sipush 999, (0, 0, 0), 0)) (by decide +kernel)) (by decide) hc_z
  replace hc_z := rn_callS (M' := am_m62) (ar := [.int 999, .int 1, .int m]) (rest := []) (L := lv_args 0 [.int m, .int 1, .int 999]) (am_cur_of (i := (5, 3, .invokestatic 172, (62, 908, 3), 0)) (by decide +kernel)) rfl rfl rfl rfl hc_z
  obtain ⟨r46_z, h47_z, q48_z, hc_z⟩ := hc_z
  rcases sw_62 q48_z with ⟨b49_z, rfl, y50_z⟩ | ⟨b51_z, b52_z, rfl, y53_z⟩ | ⟨b54_z, b55_z, rfl, y56_z⟩
  · replace y50_z := y50_z.symm
    subst y50_z
    replace b49_z : m.toInt < (1 : Int32).toInt := b49_z
    replace hc_z : rn _ _ _ _ [.int 0] _ _ _ := hc_z
    replace hc_z := rn_ifT (am_cur_of (i := (8, 3, .ifCond .eq 17, (12, 0, 0), 0)) (by decide +kernel)) (by decide) hc_z
    replace hc_z := rn_iconst (w := (-1)) (am_cur_of (i := (25, 1, .iconst (-1), (0, 0, 0), 0)) (by decide +kernel)) (by decide) hc_z
    replace hc_z := rn_iret (am_cur_of (i := (26, 1, .ireturn, (0, 0, 0), 0)) (by decide +kernel)) hc_z
    obtain ⟨e57_z, e58_z⟩ := hc_z
    exfalso
    have bm := ab_isub (x := 99999) (y := s1_z) (by rw [show (99999 : Int32).toInt = 99999 by decide]; omega) (by rw [show (99999 : Int32).toInt = 99999 by decide]; omega)
    rw [show (99999 : Int32).toInt = 99999 by decide] at bm
    omega
  · replace y53_z := y53_z.symm
    subst y53_z
    replace b51_z : (1 : Int32).toInt ≤ m.toInt := b51_z
    replace b52_z : (999 : Int32).toInt < m.toInt := b52_z
    replace hc_z : rn _ _ _ _ [.int 0] _ _ _ := hc_z
    replace hc_z := rn_ifT (am_cur_of (i := (8, 3, .ifCond .eq 17, (12, 0, 0), 0)) (by decide +kernel)) (by decide) hc_z
    replace hc_z := rn_iconst (w := (-1)) (am_cur_of (i := (25, 1, .iconst (-1), (0, 0, 0), 0)) (by decide +kernel)) (by decide) hc_z
    replace hc_z := rn_iret (am_cur_of (i := (26, 1, .ireturn, (0, 0, 0), 0)) (by decide +kernel)) hc_z
    obtain ⟨e59_z, e60_z⟩ := hc_z
    exfalso
    have bm := ab_isub (x := 99999) (y := s1_z) (by rw [show (99999 : Int32).toInt = 99999 by decide]; omega) (by rw [show (99999 : Int32).toInt = 99999 by decide]; omega)
    rw [show (99999 : Int32).toInt = 99999 by decide] at bm
    omega
  · replace y56_z := y56_z.symm
    subst y56_z
    replace b54_z : (1 : Int32).toInt ≤ m.toInt := b54_z
    replace b55_z : m.toInt ≤ (999 : Int32).toInt := b55_z
    replace hc_z : rn _ _ _ _ [.int 1] _ _ _ := hc_z
    replace hc_z := rn_ifF (am_cur_of (i := (8, 3, .ifCond .eq 17, (12, 0, 0), 0)) (by decide +kernel)) (by decide) hc_z
    replace hc_z := rn_iload_n (am_cur_of (i := (11, 1, .iload_n 1, (0, 0, 0), 0)) (by decide +kernel)) g1_z hc_z
    replace hc_z := rn_ldc (w := 99999) (am_cur_of (i := (12, 2, .ldc 198, (0, 0, 960), 99999)) (by decide +kernel)) (by decide) hc_z
    replace hc_z := rn_aload_n (am_cur_of (i := (14, 1, .aload_n 0, (0, 0, 0), 0)) (by decide +kernel)) g0_z hc_z
    replace hc_z := rn_getR (x := 48) (am_cur_of (i := (15, 3, .getfield 37, (0, 5, 666), 0)) (by decide +kernel)) (by decide +kernel) hc_z
    replace hc_z := rn_getI (v := s1_z) (am_cur_of (i := (18, 3, .getfield 199, (5, 1, 471), 0)) (by decide +kernel)) (by decide +kernel) E1 hc_z
    replace hc_z := rn_isub (w := (99999 : Int32) - s1_z) (am_cur_of (i := (21, 1, .isub, (0, 0, 0), 0)) (by decide +kernel)) rfl hc_z
    replace hc_z := rn_cmp (am_cur_of (i := (22, 3, .if_icmp .le 5, (14, 0, 0), 0)) (by decide +kernel)) hc_z
    rcases hc_z with ⟨b61_z, hc_z⟩ | ⟨b61_z, hc_z⟩
    · replace b61_z : m.toInt ≤ ((99999 : Int32) - s1_z).toInt := b61_z
      replace hc_z := rn_aload_n (am_cur_of (i := (27, 1, .aload_n 0, (0, 0, 0), 0)) (by decide +kernel)) g0_z hc_z
      replace hc_z := rn_getR (x := 148) (am_cur_of (i := (28, 3, .getfield 64, (0, 11, 672), 0)) (by decide +kernel)) (by decide +kernel) hc_z
      replace hc_z := rn_aload_n (am_cur_of (i := (31, 1, .aload_n 0, (0, 0, 0), 0)) (by decide +kernel)) g0_z hc_z
      replace hc_z := rn_getM (x := 2) (am_cur_of (i := (32, 3, .getfield 18, (0, 2, 663), 0)) (by decide +kernel)) D hc_z
      replace hc_z := rn_aload_n (am_cur_of (i := (35, 1, .aload_n 0, (0, 0, 0), 0)) (by decide +kernel)) g0_z hc_z
      replace hc_z := rn_getR (x := 48) (am_cur_of (i := (36, 3, .getfield 37, (0, 5, 666), 0)) (by decide +kernel)) (by decide +kernel) hc_z
      replace hc_z := rn_callV (M' := am_m63) (o := 148) (ar := [.ref 48, .ref 2]) (rest := []) (L := lv_args 0 [.ref 148, .ref 2, .ref 48]) (am_cur_of (i := (39, 3, .invokevirtual 146, (63, 912, 3), 0)) (by decide +kernel)) rfl rfl rfl rfl hc_z
      obtain ⟨r62_z, h63_z, q64_z, hc_z⟩ := hc_z
      have vo := rn_void rfl q64_z
      subst vo
      obtain ⟨b1_z, b5_z, b2_z, b3_z, b4_z, bS, bf⟩ := se_63_2 q64_z
      have hC : ∀ o q, 2 + 10 ≤ o → o ≤ 2 + 14 → rg_v h63_z o q = rg_v h o q := fun o q a_ b_ => lw_v (bf o q (by omega))
      have eF : rg_v h63_z 149 0 = rg_v h 48 0 := bS 0 (by decide)
      have eS : rg_v h63_z 149 1 = s1_z := (bS 1 (by decide)).trans E1
      have ePt : rg_v h63_z 149 4 = rg_v h 48 4 := bS 4 (by decide)
      have eH : rg_v h63_z 2 0 = rg_v h 2 0 := lw_v (bf 2 0 (by decide))
      have ePf : rg_v h63_z 2 7 = rg_v h 2 7 := lw_v (bf 2 7 (by decide))
      have eLo : (fun q => rg_v h63_z 7 q) = (fun q => rg_v h 7 q) := funext (fun q => lw_v (bf 7 q (by omega)))
      replace hc_z : rn _ _ _ _ [] _ _ _ := hc_z
      replace hc_z := rn_aload_n (am_cur_of (i := (42, 1, .aload_n 0, (0, 0, 0), 0)) (by decide +kernel)) g0_z hc_z
      replace hc_z := rn_getR (x := 148) (am_cur_of (i := (43, 3, .getfield 64, (0, 11, 672), 0)) (by decide +kernel)) (by decide +kernel) hc_z
      replace hc_z := rn_iload_n (am_cur_of (i := (46, 1, .iload_n 1, (0, 0, 0), 0)) (by decide +kernel)) g1_z hc_z
      replace hc_z := rn_iload_n (am_cur_of (i := (47, 1, .iload_n 2, (0, 0, 0), 0)) (by decide +kernel)) g2_z hc_z
      replace hc_z := rn_callV (M' := am_m75) (o := 148) (ar := [.int 1, .int m]) (rest := []) (L := lv_args 0 [.ref 148, .int m, .int 1]) (am_cur_of (i := (48, 3, .invokevirtual 225, (75, 1007, 3), 0)) (by decide +kernel)) rfl rfl rfl rfl hc_z
      obtain ⟨r65_z, h66_z, q67_z, hc_z⟩ := hc_z
      have bm := ab_isub (x := 99999) (y := s1_z) (by rw [show (99999 : Int32).toInt = 99999 by decide]; omega) (by rw [show (99999 : Int32).toInt = 99999 by decide]; omega)
      rw [show (99999 : Int32).toInt = 99999 by decide] at bm
      have eLo2 : (fun q => rg_v h63_z 7 q) = (fun q => rg_v h 7 q) := eLo
      obtain ⟨j, F2, le2_z, j1_z, j2_z, j3_z, j4_z, j5_z, j6_z, j7_z, j8_z, j9_z⟩ := gf_75_148_2_1 (le := rg_v h63_z 148 6) (h0_z := h) (b1_z) hL (fun o q a_ b_ => (hC o q a_ b_)) b5_z eF eS eH b3_z b4_z ePf rfl b2_z ePt H0 H9 p0_z p9_z F0 (by omega) s10_z (by omega) (by omega) (by rw [eLo2]; exact l0_z) (by rw [eLo2]; exact l9_z) q67_z
      have em : j = m.toInt.toNat ∧ r65_z = some (.int 1) := by
        rcases j2_z with j2_z | ⟨-, -, jb⟩
        · exact j2_z
        · exfalso
          omega
      obtain ⟨em, rr⟩ := em
      subst rr
      rw [em, eLo2] at j4_z
      have fv : ∀ o k, (o = 60 ∧ (k = 1 ∨ k = 2)) → rg_v h66_z o k = rg_v h o k := fun o k q => (lw_v (j9_z o k (by omega) (by omega) (by omega) (by omega))).trans ((lw_v (bf o k (by omega))))
      replace hc_z : rn _ _ _ _ [.int 1] _ _ _ := hc_z
      replace hc_z := rn_pop (am_cur_of (i := (51, 1, .pop, (0, 0, 0), 0)) (by decide +kernel)) hc_z
      replace hc_z := rn_aload_n (am_cur_of (i := (52, 1, .aload_n 0, (0, 0, 0), 0)) (by decide +kernel)) g0_z hc_z
      replace hc_z := rn_callV (M' := am_m81) (o := 0) (ar := []) (rest := []) (L := lv_args 0 [.ref 0]) (am_cur_of (i := (53, 3, .invokevirtual 208, (81, 992, 3), 0)) (by decide +kernel)) rfl rfl rfl rfl hc_z
      obtain ⟨r68_z, h69_z, q70_z, hc_z⟩ := hc_z
      have gv : ∀ o k, (o = 60 ∧ (k = 1 ∨ k = 2)) → rg_v h66_z o k = rg_v h o k := fun o k q => fv o k q
      obtain ⟨rr, e0_z⟩ := sf_81 (by rw [gv 60 1 (by omega)]; exact n0_z) (by rw [gv 60 1 (by omega)]; exact n1_z) (by rw [gv 60 2 (by omega)]; exact s0_z) (by rw [gv 60 2 (by omega)]; exact sz20_z) q70_z
      have e1_z : rg_v h69_z 48 0 = F2 := e0_z.trans (j6_z)
      rw [e1_z] at rr
      subst rr
      replace hc_z : rn _ _ _ _ [.int F2] _ _ _ := hc_z
      replace hc_z := rn_iret (am_cur_of (i := (56, 1, .ireturn, (0, 0, 0), 0)) (by decide +kernel)) hc_z
      obtain ⟨e71_z, e72_z⟩ := hc_z
      exact ⟨F2, j4_z, by rw [e72_z]; exact e1_z, e71_z⟩
    · replace b61_z : ((99999 : Int32) - s1_z).toInt < m.toInt := b61_z
      replace hc_z := rn_iconst (w := (-1)) (am_cur_of (i := (25, 1, .iconst (-1), (0, 0, 0), 0)) (by decide +kernel)) (by decide) hc_z
      replace hc_z := rn_iret (am_cur_of (i := (26, 1, .ireturn, (0, 0, 0), 0)) (by decide +kernel)) hc_z
      obtain ⟨e73_z, e74_z⟩ := hc_z
      exfalso
      have bm := ab_isub (x := 99999) (y := s1_z) (by rw [show (99999 : Int32).toInt = 99999 by decide]; omega) (by rw [show (99999 : Int32).toInt = 99999 by decide]; omega)
      rw [show (99999 : Int32).toInt = 99999 by decide] at bm
      omega
theorem sf_84_2 {n : Nat} {r : Option Value} {h g h' : am_H} {m s1_z : Int32} (D : h 0 2 = .ref 2) (hL : LW 2 h g) (E1 : rg_v h 48 1 = s1_z) (s10_z : 0 ≤ s1_z.toInt) (F0 : 0 ≤ (rg_v h 48 0).toInt) (F9 : (rg_v h 48 0).toInt ≤ 9999) (H0 : 0 ≤ (rg_v h 2 0).toInt) (H9 : (rg_v h 2 0).toInt ≤ 9999) (p0_z : 0 ≤ (rg_v h 2 7).toInt) (p9_z : (rg_v h 2 7).toInt ≤ 9999) (l0_z : 0 ≤ (leZ (rg_v h 2 18) (rg_v h 48 4) (fun q => rg_v h 7 q)).toInt) (l9_z : (leZ (rg_v h 2 18) (rg_v h 48 4) (fun q => rg_v h 7 q)).toInt ≤ 999) (n0_z : 0 ≤ (rg_v h 60 1).toInt) (n1_z : (rg_v h 60 1).toInt < 20) (s0_z : 0 ≤ (rg_v h 60 2).toInt) (sz20_z : (rg_v h 60 2).toInt ≤ 20) (v0_z : ¬ (rg_v h 2 8).toInt = 0) (v1_z : 1 ≤ m.toInt) (v2_z : m.toInt ≤ (rg_v h 48 3).toInt) (v3_z : s1_z.toInt + m.toInt ≤ 99999) (hc_z : rn n am_m84 0 (lv_args 0 [.ref 0, .int m]) [] h r h') : ∃ F2 : Int32, gR (secZ 2 h 0 (rg_v h 2 0) 1 (rg_v h 2 7) (leZ (rg_v h 2 18) (rg_v h 48 4) (fun q => rg_v h 7 q)) 0) m.toInt.toNat (rg_v h 48 0) s1_z F2 ∧ rg_v h' 48 0 = F2 ∧ r = some (.int F2) := by
  have z0_z : (0 : Int32).toInt = 0 := by decide
  have z1_z : (1 : Int32).toInt = 1 := by decide
  have z2147483647_z : (2147483647 : Int32).toInt = 2147483647 := by decide
  have g0_z : am_get (lv_args 0 [.ref 0, .int m]) 0 = some (.ref 0) := rfl
  have g1_z : am_get (lv_args 0 [.ref 0, .int m]) 1 = some (.int m) := rfl
  replace hc_z := rn_aload_n (am_cur_of (i := (0, 1, .aload_n 0, (0, 0, 0), 0)) (by decide +kernel)) g0_z hc_z
  replace hc_z := rn_getM (x := 2) (am_cur_of (i := (1, 3, .getfield 18, (0, 2, 663), 0)) (by decide +kernel)) D hc_z
  replace hc_z := rn_getI (v := rg_v h 2 8) (am_cur_of (i := (4, 3, .getfield 229, (1, 8, 281), 0)) (by decide +kernel)) (by decide +kernel) rfl hc_z
  replace hc_z := rn_if (am_cur_of (i := (7, 3, .ifCond .eq 8, (7, 0, 0), 0)) (by decide +kernel)) hc_z
  rcases hc_z with ⟨b75_z, hc_z⟩ | ⟨b75_z, hc_z⟩
  · replace b75_z : (rg_v h 2 8) = (0 : Int32) ∧ (rg_v h 2 8).toInt = (0 : Int32).toInt := b75_z
    replace hc_z := rn_iconst (w := (-1)) (am_cur_of (i := (15, 1, .iconst (-1), (0, 0, 0), 0)) (by decide +kernel)) (by decide) hc_z
    replace hc_z := rn_iret (am_cur_of (i := (16, 1, .ireturn, (0, 0, 0), 0)) (by decide +kernel)) hc_z
    obtain ⟨e76_z, e77_z⟩ := hc_z
    exfalso
    have bm := ab_isub (x := 99999) (y := s1_z) (by rw [show (99999 : Int32).toInt = 99999 by decide]; omega) (by rw [show (99999 : Int32).toInt = 99999 by decide]; omega)
    rw [show (99999 : Int32).toInt = 99999 by decide] at bm
    omega
  · replace b75_z : ¬ (rg_v h 2 8) = (0 : Int32) ∧ ¬ (rg_v h 2 8).toInt = (0 : Int32).toInt := b75_z
    replace hc_z := rn_iload_n (am_cur_of (i := (10, 1, .iload_n 1, (0, 0, 0), 0)) (by decide +kernel)) g1_z hc_z
    replace hc_z := rn_iconst (w := 1) (am_cur_of (i := (11, 1, .iconst 1, (0, 0, 0), 0)) (by decide +kernel)) (by decide) hc_z
    replace hc_z := rn_cmp (am_cur_of (i := (12, 3, .if_icmp .ge 5, (9, 0, 0), 0)) (by decide +kernel)) hc_z
    rcases hc_z with ⟨b78_z, hc_z⟩ | ⟨b78_z, hc_z⟩
    · replace b78_z : (1 : Int32).toInt ≤ m.toInt := b78_z
      replace hc_z := rn_iload_n (am_cur_of (i := (17, 1, .iload_n 1, (0, 0, 0), 0)) (by decide +kernel)) g1_z hc_z
      replace hc_z := rn_aload_n (am_cur_of (i := (18, 1, .aload_n 0, (0, 0, 0), 0)) (by decide +kernel)) g0_z hc_z
      replace hc_z := rn_getR (x := 48) (am_cur_of (i := (19, 3, .getfield 37, (0, 5, 666), 0)) (by decide +kernel)) (by decide +kernel) hc_z
      replace hc_z := rn_getI (v := rg_v h 48 3) (am_cur_of (i := (22, 3, .getfield 232, (5, 3, 477), 0)) (by decide +kernel)) (by decide +kernel) rfl hc_z
      replace hc_z := rn_cmp (am_cur_of (i := (25, 3, .if_icmp .le 6, (16, 0, 0), 0)) (by decide +kernel)) hc_z
      rcases hc_z with ⟨b79_z, hc_z⟩ | ⟨b79_z, hc_z⟩
      · replace b79_z : m.toInt ≤ (rg_v h 48 3).toInt := b79_z
        replace hc_z := rn_iload_n (am_cur_of (i := (31, 1, .iload_n 1, (0, 0, 0), 0)) (by decide +kernel)) g1_z hc_z
        replace hc_z := rn_ldc (w := 99999) (am_cur_of (i := (32, 2, .ldc 198, (0, 0, 960), 99999)) (by decide +kernel)) (by decide) hc_z
        replace hc_z := rn_aload_n (am_cur_of (i := (34, 1, .aload_n 0, (0, 0, 0), 0)) (by decide +kernel)) g0_z hc_z
        replace hc_z := rn_getR (x := 48) (am_cur_of (i := (35, 3, .getfield 37, (0, 5, 666), 0)) (by decide +kernel)) (by decide +kernel) hc_z
        replace hc_z := rn_getI (v := s1_z) (am_cur_of (i := (38, 3, .getfield 199, (5, 1, 471), 0)) (by decide +kernel)) (by decide +kernel) E1 hc_z
        replace hc_z := rn_isub (w := (99999 : Int32) - s1_z) (am_cur_of (i := (41, 1, .isub, (0, 0, 0), 0)) (by decide +kernel)) rfl hc_z
        replace hc_z := rn_cmp (am_cur_of (i := (42, 3, .if_icmp .le 5, (25, 0, 0), 0)) (by decide +kernel)) hc_z
        rcases hc_z with ⟨b80_z, hc_z⟩ | ⟨b80_z, hc_z⟩
        · replace b80_z : m.toInt ≤ ((99999 : Int32) - s1_z).toInt := b80_z
          replace hc_z := rn_aload_n (am_cur_of (i := (47, 1, .aload_n 0, (0, 0, 0), 0)) (by decide +kernel)) g0_z hc_z
          replace hc_z := rn_getR (x := 148) (am_cur_of (i := (48, 3, .getfield 64, (0, 11, 672), 0)) (by decide +kernel)) (by decide +kernel) hc_z
          replace hc_z := rn_aload_n (am_cur_of (i := (51, 1, .aload_n 0, (0, 0, 0), 0)) (by decide +kernel)) g0_z hc_z
          replace hc_z := rn_getM (x := 2) (am_cur_of (i := (52, 3, .getfield 18, (0, 2, 663), 0)) (by decide +kernel)) D hc_z
          replace hc_z := rn_aload_n (am_cur_of (i := (55, 1, .aload_n 0, (0, 0, 0), 0)) (by decide +kernel)) g0_z hc_z
          replace hc_z := rn_getR (x := 48) (am_cur_of (i := (56, 3, .getfield 37, (0, 5, 666), 0)) (by decide +kernel)) (by decide +kernel) hc_z
          replace hc_z := rn_callV (M' := am_m63) (o := 148) (ar := [.ref 48, .ref 2]) (rest := []) (L := lv_args 0 [.ref 148, .ref 2, .ref 48]) (am_cur_of (i := (59, 3, .invokevirtual 146, (63, 912, 3), 0)) (by decide +kernel)) rfl rfl rfl rfl hc_z
          obtain ⟨r81_z, h82_z, q83_z, hc_z⟩ := hc_z
          have vo := rn_void rfl q83_z
          subst vo
          obtain ⟨b1_z, b5_z, b2_z, b3_z, b4_z, bS, bf⟩ := se_63_2 q83_z
          have hC : ∀ o q, 2 + 10 ≤ o → o ≤ 2 + 14 → rg_v h82_z o q = rg_v h o q := fun o q a_ b_ => lw_v (bf o q (by omega))
          have eF : rg_v h82_z 149 0 = rg_v h 48 0 := bS 0 (by decide)
          have eS : rg_v h82_z 149 1 = s1_z := (bS 1 (by decide)).trans E1
          have ePt : rg_v h82_z 149 4 = rg_v h 48 4 := bS 4 (by decide)
          have eH : rg_v h82_z 2 0 = rg_v h 2 0 := lw_v (bf 2 0 (by decide))
          have ePf : rg_v h82_z 2 7 = rg_v h 2 7 := lw_v (bf 2 7 (by decide))
          have eLo : (fun q => rg_v h82_z 7 q) = (fun q => rg_v h 7 q) := funext (fun q => lw_v (bf 7 q (by omega)))
          replace hc_z : rn _ _ _ _ [] _ _ _ := hc_z
          replace hc_z := rn_aload_n (am_cur_of (i := (62, 1, .aload_n 0, (0, 0, 0), 0)) (by decide +kernel)) g0_z hc_z
          replace hc_z := rn_getR (x := 148) (am_cur_of (i := (63, 3, .getfield 64, (0, 11, 672), 0)) (by decide +kernel)) (by decide +kernel) hc_z
          replace hc_z := rn_iconst (w := 1) (am_cur_of (i := (66, 1, .iconst 1, (0, 0, 0), 0)) (by decide +kernel)) (by decide) hc_z
          replace hc_z := rn_put (am_cur_of (i := (67, 3, .putfield 235, (8, 4, 578), 0)) (by decide +kernel)) (by decide +kernel) hc_z
          replace hc_z := rn_aload_n (am_cur_of (i := (70, 1, .aload_n 0, (0, 0, 0), 0)) (by decide +kernel)) g0_z hc_z
          replace hc_z := rn_getR (x := 148) (am_cur_of (i := (71, 3, .getfield 64, (0, 11, 672), 0)) (by decide +kernel)) (by decide +kernel) hc_z
          replace hc_z := rn_iload_n (am_cur_of (i := (74, 1, .iload_n 1, (0, 0, 0), 0)) (by decide +kernel)) g1_z hc_z
          replace hc_z := rn_iconst (w := 0) (am_cur_of (i := (75, 1, .iconst 0, (0, 0, 0), 0)) (by decide +kernel)) (by decide) hc_z
          replace hc_z := rn_callV (M' := am_m75) (o := 148) (ar := [.int 0, .int m]) (rest := []) (L := lv_args 0 [.ref 148, .int m, .int 0]) (am_cur_of (i := (76, 3, .invokevirtual 225, (75, 1007, 3), 0)) (by decide +kernel)) rfl rfl rfl rfl hc_z
          obtain ⟨r84_z, h85_z, q86_z, hc_z⟩ := hc_z
          have bm := ab_isub (x := 99999) (y := s1_z) (by rw [show (99999 : Int32).toInt = 99999 by decide]; omega) (by rw [show (99999 : Int32).toInt = 99999 by decide]; omega)
          rw [show (99999 : Int32).toInt = 99999 by decide] at bm
          have eLo2 : (fun q => rg_v (am_up h82_z 148 4 (.int 1)) 7 q) = (fun q => rg_v h 7 q) := eLo
          obtain ⟨j, F2, le2_z, j1_z, j2_z, j3_z, j4_z, j5_z, j6_z, j7_z, j8_z, j9_z⟩ := gf_75_148_2_0 (le := rg_v (am_up h82_z 148 4 (.int 1)) 148 6) (h0_z := h) ((up_ne (by omega)).trans b1_z) hL (fun o q a_ b_ => ((rg_v_other (by omega)).trans (hC o q a_ b_))) ((rg_v_other (by omega)).trans b5_z) ((rg_v_other (by omega)).trans eF) ((rg_v_other (by omega)).trans eS) ((rg_v_other (by omega)).trans eH) ((rg_v_other (by omega)).trans b3_z) rg_v_self ((rg_v_other (by omega)).trans ePf) rfl ((rg_v_other (by omega)).trans b2_z) ((rg_v_other (by omega)).trans ePt) H0 H9 p0_z p9_z F0 (by omega) s10_z (by omega) (by omega) (by rw [eLo2]; exact l0_z) (by rw [eLo2]; exact l9_z) q86_z
          have em : j = m.toInt.toNat ∧ r84_z = some (.int 1) := by
            rcases j2_z with j2_z | ⟨-, -, jb⟩
            · exact j2_z
            · exfalso
              omega
          obtain ⟨em, rr⟩ := em
          subst rr
          rw [em, eLo2] at j4_z
          have fv : ∀ o k, (o = 60 ∧ (k = 1 ∨ k = 2)) → rg_v h85_z o k = rg_v h o k := fun o k q => (lw_v (j9_z o k (by omega) (by omega) (by omega) (by omega))).trans (((rg_v_other (by omega)).trans (lw_v (bf o k (by omega)))))
          replace hc_z : rn _ _ _ _ [.int 1] _ _ _ := hc_z
          replace hc_z := rn_pop (am_cur_of (i := (79, 1, .pop, (0, 0, 0), 0)) (by decide +kernel)) hc_z
          replace hc_z := rn_aload_n (am_cur_of (i := (80, 1, .aload_n 0, (0, 0, 0), 0)) (by decide +kernel)) g0_z hc_z
          replace hc_z := rn_getR (x := 148) (am_cur_of (i := (81, 3, .getfield 64, (0, 11, 672), 0)) (by decide +kernel)) (by decide +kernel) hc_z
          replace hc_z := rn_getR (x := 149) (am_cur_of (i := (84, 3, .getfield 216, (8, 1, 572), 0)) (by decide +kernel)) (by decide +kernel) hc_z
          replace hc_z := rn_dup (am_cur_of (i := (87, 1, .dup, (0, 0, 0), 0)) (by decide +kernel)) hc_z
          replace hc_z := rn_getI (v := rg_v h85_z 149 3) (am_cur_of (i := (88, 3, .getfield 232, (5, 3, 477), 0)) (by decide +kernel)) (by decide +kernel) rfl hc_z
          replace hc_z := rn_iload_n (am_cur_of (i := (91, 1, .iload_n 1, (0, 0, 0), 0)) (by decide +kernel)) g1_z hc_z
          replace hc_z := rn_isub (w := (rg_v h85_z 149 3) - m) (am_cur_of (i := (92, 1, .isub, (0, 0, 0), 0)) (by decide +kernel)) rfl hc_z
          replace hc_z := rn_put (am_cur_of (i := (93, 3, .putfield 232, (5, 3, 477), 0)) (by decide +kernel)) (by decide +kernel) hc_z
          replace hc_z := rn_aload_n (am_cur_of (i := (96, 1, .aload_n 0, (0, 0, 0), 0)) (by decide +kernel)) g0_z hc_z
          replace hc_z := rn_getR (x := 148) (am_cur_of (i := (97, 3, .getfield 64, (0, 11, 672), 0)) (by decide +kernel)) (by decide +kernel) hc_z
          replace hc_z := rn_getR (x := 149) (am_cur_of (i := (100, 3, .getfield 216, (8, 1, 572), 0)) (by decide +kernel)) (by decide +kernel) hc_z
          replace hc_z := rn_bipush (w := (-2)) (am_cur_of (i := (103, 2, .bipush (-2), (0, 0, 0), 0)) (by decide +kernel)) (by decide) hc_z
          replace hc_z := rn_put (am_cur_of (i := (105, 3, .putfield 238, (5, 2, 475), 0)) (by decide +kernel)) (by decide +kernel) hc_z
          replace hc_z := rn_aload_n (am_cur_of (i := (108, 1, .aload_n 0, (0, 0, 0), 0)) (by decide +kernel)) g0_z hc_z
          replace hc_z := rn_callV (M' := am_m81) (o := 0) (ar := []) (rest := []) (L := lv_args 0 [.ref 0]) (am_cur_of (i := (109, 3, .invokevirtual 208, (81, 992, 3), 0)) (by decide +kernel)) rfl rfl rfl rfl hc_z
          obtain ⟨r87_z, h88_z, q89_z, hc_z⟩ := hc_z
          have gv : ∀ o k, (o = 60 ∧ (k = 1 ∨ k = 2)) → rg_v (am_up (am_up h85_z 149 3 (.int ((rg_v h85_z 149 3) - m))) 149 2 (.int (-2))) o k = rg_v h o k := fun o k q => (rg_v_other (by omega)).trans ((rg_v_other (by omega)).trans (fv o k q))
          obtain ⟨rr, e0_z⟩ := sf_81 (by rw [gv 60 1 (by omega)]; exact n0_z) (by rw [gv 60 1 (by omega)]; exact n1_z) (by rw [gv 60 2 (by omega)]; exact s0_z) (by rw [gv 60 2 (by omega)]; exact sz20_z) q89_z
          have e1_z : rg_v h88_z 48 0 = F2 := e0_z.trans ((rg_v_other (by omega)).trans ((rg_v_other (by omega)).trans (j6_z)))
          rw [e1_z] at rr
          subst rr
          replace hc_z : rn _ _ _ _ [.int F2] _ _ _ := hc_z
          replace hc_z := rn_iret (am_cur_of (i := (112, 1, .ireturn, (0, 0, 0), 0)) (by decide +kernel)) hc_z
          obtain ⟨e90_z, e91_z⟩ := hc_z
          exact ⟨F2, j4_z, by rw [e91_z]; exact e1_z, e90_z⟩
        · replace b80_z : ((99999 : Int32) - s1_z).toInt < m.toInt := b80_z
          replace hc_z := rn_iconst (w := (-1)) (am_cur_of (i := (45, 1, .iconst (-1), (0, 0, 0), 0)) (by decide +kernel)) (by decide) hc_z
          replace hc_z := rn_iret (am_cur_of (i := (46, 1, .ireturn, (0, 0, 0), 0)) (by decide +kernel)) hc_z
          obtain ⟨e92_z, e93_z⟩ := hc_z
          exfalso
          have bm := ab_isub (x := 99999) (y := s1_z) (by rw [show (99999 : Int32).toInt = 99999 by decide]; omega) (by rw [show (99999 : Int32).toInt = 99999 by decide]; omega)
          rw [show (99999 : Int32).toInt = 99999 by decide] at bm
          omega
      · replace b79_z : (rg_v h 48 3).toInt < m.toInt := b79_z
        replace hc_z := rn_bipush (w := (-2)) (am_cur_of (i := (28, 2, .bipush (-2), (0, 0, 0), 0)) (by decide +kernel)) (by decide) hc_z
        replace hc_z := rn_iret (am_cur_of (i := (30, 1, .ireturn, (0, 0, 0), 0)) (by decide +kernel)) hc_z
        obtain ⟨e94_z, e95_z⟩ := hc_z
        exfalso
        have bm := ab_isub (x := 99999) (y := s1_z) (by rw [show (99999 : Int32).toInt = 99999 by decide]; omega) (by rw [show (99999 : Int32).toInt = 99999 by decide]; omega)
        rw [show (99999 : Int32).toInt = 99999 by decide] at bm
        omega
    · replace b78_z : m.toInt < (1 : Int32).toInt := b78_z
      replace hc_z := rn_iconst (w := (-1)) (am_cur_of (i := (15, 1, .iconst (-1), (0, 0, 0), 0)) (by decide +kernel)) (by decide) hc_z
      replace hc_z := rn_iret (am_cur_of (i := (16, 1, .ireturn, (0, 0, 0), 0)) (by decide +kernel)) hc_z
      obtain ⟨e96_z, e97_z⟩ := hc_z
      exfalso
      have bm := ab_isub (x := 99999) (y := s1_z) (by rw [show (99999 : Int32).toInt = 99999 by decide]; omega) (by rw [show (99999 : Int32).toInt = 99999 by decide]; omega)
      rw [show (99999 : Int32).toInt = 99999 by decide] at bm
      omega
theorem sf_83_23_0 {n : Nat} {r : Option Value} {h g h' : am_H} {m s1_z : Int32} (D : h 0 2 = .ref 23) (hL : LW 23 h g) (E1 : rg_v h 48 1 = s1_z) (s10_z : 0 ≤ s1_z.toInt) (F0 : 0 ≤ (rg_v h 48 0).toInt) (F9 : (rg_v h 48 0).toInt ≤ 9999) (H0 : 0 ≤ (rg_v h 23 0).toInt) (H9 : (rg_v h 23 0).toInt ≤ 9999) (p0_z : 0 ≤ (rg_v h 23 7).toInt) (p9_z : (rg_v h 23 7).toInt ≤ 9999) (l0_z : 0 ≤ (leZ (rg_v h 23 18) (rg_v h 48 4) (fun q => rg_v h 28 q)).toInt) (l9_z : (leZ (rg_v h 23 18) (rg_v h 48 4) (fun q => rg_v h 28 q)).toInt ≤ 999) (n0_z : 0 ≤ (rg_v h 60 1).toInt) (n1_z : (rg_v h 60 1).toInt < 20) (s0_z : 0 ≤ (rg_v h 60 2).toInt) (sz20_z : (rg_v h 60 2).toInt ≤ 20) (v1_z : 1 ≤ m.toInt) (v2_z : m.toInt ≤ 999) (v3_z : s1_z.toInt + m.toInt ≤ 99999) (hc_z : rn n am_m83 0 (lv_args 0 [.ref 0, .int m, .int 0]) [] h r h') : ∃ F2 : Int32, gR (secZ 23 h 0 (rg_v h 23 0) 0 (rg_v h 23 7) (leZ (rg_v h 23 18) (rg_v h 48 4) (fun q => rg_v h 28 q)) 0) m.toInt.toNat (rg_v h 48 0) s1_z F2 ∧ rg_v h' 48 0 = F2 ∧ r = some (.int F2) := by
  have z0_z : (0 : Int32).toInt = 0 := by decide
  have z1_z : (1 : Int32).toInt = 1 := by decide
  have z999_z : (999 : Int32).toInt = 999 := by decide
  have z2147483647_z : (2147483647 : Int32).toInt = 2147483647 := by decide
  have g0_z : am_get (lv_args 0 [.ref 0, .int m, .int 0]) 0 = some (.ref 0) := rfl
  have g1_z : am_get (lv_args 0 [.ref 0, .int m, .int 0]) 1 = some (.int m) := rfl
  have g2_z : am_get (lv_args 0 [.ref 0, .int m, .int 0]) 2 = some (.int 0) := rfl
  replace hc_z := rn_iload_n (am_cur_of (i := (0, 1, .iload_n 1, (0, 0, 0), 0)) (by decide +kernel)) g1_z hc_z
  replace hc_z := rn_iconst (w := 1) (am_cur_of (i := (1, 1, .iconst 1, (0, 0, 0), 0)) (by decide +kernel)) (by decide) hc_z
  replace hc_z := rn_sipush (w := 999) (am_cur_of (i := (2, 3, .sipush 999, (0, 0, 0), 0)) (by decide +kernel)) (by decide) hc_z
  replace hc_z := rn_callS (M' := am_m62) (ar := [.int 999, .int 1, .int m]) (rest := []) (L := lv_args 0 [.int m, .int 1, .int 999]) (am_cur_of (i := (5, 3, .invokestatic 172, (62, 908, 3), 0)) (by decide +kernel)) rfl rfl rfl rfl hc_z
  obtain ⟨r98_z, h99_z, q100_z, hc_z⟩ := hc_z
  rcases sw_62 q100_z with ⟨b101_z, rfl, y102_z⟩ | ⟨b103_z, b104_z, rfl, y105_z⟩ | ⟨b106_z, b107_z, rfl, y108_z⟩
  · replace y102_z := y102_z.symm
    subst y102_z
    replace b101_z : m.toInt < (1 : Int32).toInt := b101_z
    replace hc_z : rn _ _ _ _ [.int 0] _ _ _ := hc_z
    replace hc_z := rn_ifT (am_cur_of (i := (8, 3, .ifCond .eq 17, (12, 0, 0), 0)) (by decide +kernel)) (by decide) hc_z
    replace hc_z := rn_iconst (w := (-1)) (am_cur_of (i := (25, 1, .iconst (-1), (0, 0, 0), 0)) (by decide +kernel)) (by decide) hc_z
    replace hc_z := rn_iret (am_cur_of (i := (26, 1, .ireturn, (0, 0, 0), 0)) (by decide +kernel)) hc_z
    obtain ⟨e109_z, e110_z⟩ := hc_z
    exfalso
    have bm := ab_isub (x := 99999) (y := s1_z) (by rw [show (99999 : Int32).toInt = 99999 by decide]; omega) (by rw [show (99999 : Int32).toInt = 99999 by decide]; omega)
    rw [show (99999 : Int32).toInt = 99999 by decide] at bm
    omega
  · replace y105_z := y105_z.symm
    subst y105_z
    replace b103_z : (1 : Int32).toInt ≤ m.toInt := b103_z
    replace b104_z : (999 : Int32).toInt < m.toInt := b104_z
    replace hc_z : rn _ _ _ _ [.int 0] _ _ _ := hc_z
    replace hc_z := rn_ifT (am_cur_of (i := (8, 3, .ifCond .eq 17, (12, 0, 0), 0)) (by decide +kernel)) (by decide) hc_z
    replace hc_z := rn_iconst (w := (-1)) (am_cur_of (i := (25, 1, .iconst (-1), (0, 0, 0), 0)) (by decide +kernel)) (by decide) hc_z
    replace hc_z := rn_iret (am_cur_of (i := (26, 1, .ireturn, (0, 0, 0), 0)) (by decide +kernel)) hc_z
    obtain ⟨e111_z, e112_z⟩ := hc_z
    exfalso
    have bm := ab_isub (x := 99999) (y := s1_z) (by rw [show (99999 : Int32).toInt = 99999 by decide]; omega) (by rw [show (99999 : Int32).toInt = 99999 by decide]; omega)
    rw [show (99999 : Int32).toInt = 99999 by decide] at bm
    omega
  · replace y108_z := y108_z.symm
    subst y108_z
    replace b106_z : (1 : Int32).toInt ≤ m.toInt := b106_z
    replace b107_z : m.toInt ≤ (999 : Int32).toInt := b107_z
    replace hc_z : rn _ _ _ _ [.int 1] _ _ _ := hc_z
    replace hc_z := rn_ifF (am_cur_of (i := (8, 3, .ifCond .eq 17, (12, 0, 0), 0)) (by decide +kernel)) (by decide) hc_z
    replace hc_z := rn_iload_n (am_cur_of (i := (11, 1, .iload_n 1, (0, 0, 0), 0)) (by decide +kernel)) g1_z hc_z
    replace hc_z := rn_ldc (w := 99999) (am_cur_of (i := (12, 2, .ldc 198, (0, 0, 960), 99999)) (by decide +kernel)) (by decide) hc_z
    replace hc_z := rn_aload_n (am_cur_of (i := (14, 1, .aload_n 0, (0, 0, 0), 0)) (by decide +kernel)) g0_z hc_z
    replace hc_z := rn_getR (x := 48) (am_cur_of (i := (15, 3, .getfield 37, (0, 5, 666), 0)) (by decide +kernel)) (by decide +kernel) hc_z
    replace hc_z := rn_getI (v := s1_z) (am_cur_of (i := (18, 3, .getfield 199, (5, 1, 471), 0)) (by decide +kernel)) (by decide +kernel) E1 hc_z
    replace hc_z := rn_isub (w := (99999 : Int32) - s1_z) (am_cur_of (i := (21, 1, .isub, (0, 0, 0), 0)) (by decide +kernel)) rfl hc_z
    replace hc_z := rn_cmp (am_cur_of (i := (22, 3, .if_icmp .le 5, (14, 0, 0), 0)) (by decide +kernel)) hc_z
    rcases hc_z with ⟨b113_z, hc_z⟩ | ⟨b113_z, hc_z⟩
    · replace b113_z : m.toInt ≤ ((99999 : Int32) - s1_z).toInt := b113_z
      replace hc_z := rn_aload_n (am_cur_of (i := (27, 1, .aload_n 0, (0, 0, 0), 0)) (by decide +kernel)) g0_z hc_z
      replace hc_z := rn_getR (x := 148) (am_cur_of (i := (28, 3, .getfield 64, (0, 11, 672), 0)) (by decide +kernel)) (by decide +kernel) hc_z
      replace hc_z := rn_aload_n (am_cur_of (i := (31, 1, .aload_n 0, (0, 0, 0), 0)) (by decide +kernel)) g0_z hc_z
      replace hc_z := rn_getM (x := 23) (am_cur_of (i := (32, 3, .getfield 18, (0, 2, 663), 0)) (by decide +kernel)) D hc_z
      replace hc_z := rn_aload_n (am_cur_of (i := (35, 1, .aload_n 0, (0, 0, 0), 0)) (by decide +kernel)) g0_z hc_z
      replace hc_z := rn_getR (x := 48) (am_cur_of (i := (36, 3, .getfield 37, (0, 5, 666), 0)) (by decide +kernel)) (by decide +kernel) hc_z
      replace hc_z := rn_callV (M' := am_m63) (o := 148) (ar := [.ref 48, .ref 23]) (rest := []) (L := lv_args 0 [.ref 148, .ref 23, .ref 48]) (am_cur_of (i := (39, 3, .invokevirtual 146, (63, 912, 3), 0)) (by decide +kernel)) rfl rfl rfl rfl hc_z
      obtain ⟨r114_z, h115_z, q116_z, hc_z⟩ := hc_z
      have vo := rn_void rfl q116_z
      subst vo
      obtain ⟨b1_z, b5_z, b2_z, b3_z, b4_z, bS, bf⟩ := se_63_23 q116_z
      have hC : ∀ o q, 23 + 10 ≤ o → o ≤ 23 + 14 → rg_v h115_z o q = rg_v h o q := fun o q a_ b_ => lw_v (bf o q (by omega))
      have eF : rg_v h115_z 149 0 = rg_v h 48 0 := bS 0 (by decide)
      have eS : rg_v h115_z 149 1 = s1_z := (bS 1 (by decide)).trans E1
      have ePt : rg_v h115_z 149 4 = rg_v h 48 4 := bS 4 (by decide)
      have eH : rg_v h115_z 23 0 = rg_v h 23 0 := lw_v (bf 23 0 (by decide))
      have ePf : rg_v h115_z 23 7 = rg_v h 23 7 := lw_v (bf 23 7 (by decide))
      have eLo : (fun q => rg_v h115_z 28 q) = (fun q => rg_v h 28 q) := funext (fun q => lw_v (bf 28 q (by omega)))
      replace hc_z : rn _ _ _ _ [] _ _ _ := hc_z
      replace hc_z := rn_aload_n (am_cur_of (i := (42, 1, .aload_n 0, (0, 0, 0), 0)) (by decide +kernel)) g0_z hc_z
      replace hc_z := rn_getR (x := 148) (am_cur_of (i := (43, 3, .getfield 64, (0, 11, 672), 0)) (by decide +kernel)) (by decide +kernel) hc_z
      replace hc_z := rn_iload_n (am_cur_of (i := (46, 1, .iload_n 1, (0, 0, 0), 0)) (by decide +kernel)) g1_z hc_z
      replace hc_z := rn_iload_n (am_cur_of (i := (47, 1, .iload_n 2, (0, 0, 0), 0)) (by decide +kernel)) g2_z hc_z
      replace hc_z := rn_callV (M' := am_m75) (o := 148) (ar := [.int 0, .int m]) (rest := []) (L := lv_args 0 [.ref 148, .int m, .int 0]) (am_cur_of (i := (48, 3, .invokevirtual 225, (75, 1007, 3), 0)) (by decide +kernel)) rfl rfl rfl rfl hc_z
      obtain ⟨r117_z, h118_z, q119_z, hc_z⟩ := hc_z
      have bm := ab_isub (x := 99999) (y := s1_z) (by rw [show (99999 : Int32).toInt = 99999 by decide]; omega) (by rw [show (99999 : Int32).toInt = 99999 by decide]; omega)
      rw [show (99999 : Int32).toInt = 99999 by decide] at bm
      have eLo2 : (fun q => rg_v h115_z 28 q) = (fun q => rg_v h 28 q) := eLo
      obtain ⟨j, F2, le2_z, j1_z, j2_z, j3_z, j4_z, j5_z, j6_z, j7_z, j8_z, j9_z⟩ := gf_75_148_23_0 (le := rg_v h115_z 148 6) (h0_z := h) (b1_z) hL (fun o q a_ b_ => (hC o q a_ b_)) b5_z eF eS eH b3_z b4_z ePf rfl b2_z ePt H0 H9 p0_z p9_z F0 (by omega) s10_z (by omega) (by omega) (by rw [eLo2]; exact l0_z) (by rw [eLo2]; exact l9_z) q119_z
      have em : j = m.toInt.toNat ∧ r117_z = some (.int 1) := by
        rcases j2_z with j2_z | ⟨-, -, jb⟩
        · exact j2_z
        · exfalso
          omega
      obtain ⟨em, rr⟩ := em
      subst rr
      rw [em, eLo2] at j4_z
      have fv : ∀ o k, (o = 60 ∧ (k = 1 ∨ k = 2)) → rg_v h118_z o k = rg_v h o k := fun o k q => (lw_v (j9_z o k (by omega) (by omega) (by omega) (by omega))).trans ((lw_v (bf o k (by omega))))
      replace hc_z : rn _ _ _ _ [.int 1] _ _ _ := hc_z
      replace hc_z := rn_pop (am_cur_of (i := (51, 1, .pop, (0, 0, 0), 0)) (by decide +kernel)) hc_z
      replace hc_z := rn_aload_n (am_cur_of (i := (52, 1, .aload_n 0, (0, 0, 0), 0)) (by decide +kernel)) g0_z hc_z
      replace hc_z := rn_callV (M' := am_m81) (o := 0) (ar := []) (rest := []) (L := lv_args 0 [.ref 0]) (am_cur_of (i := (53, 3, .invokevirtual 208, (81, 992, 3), 0)) (by decide +kernel)) rfl rfl rfl rfl hc_z
      obtain ⟨r120_z, h121_z, q122_z, hc_z⟩ := hc_z
      have gv : ∀ o k, (o = 60 ∧ (k = 1 ∨ k = 2)) → rg_v h118_z o k = rg_v h o k := fun o k q => fv o k q
      obtain ⟨rr, e0_z⟩ := sf_81 (by rw [gv 60 1 (by omega)]; exact n0_z) (by rw [gv 60 1 (by omega)]; exact n1_z) (by rw [gv 60 2 (by omega)]; exact s0_z) (by rw [gv 60 2 (by omega)]; exact sz20_z) q122_z
      have e1_z : rg_v h121_z 48 0 = F2 := e0_z.trans (j6_z)
      rw [e1_z] at rr
      subst rr
      replace hc_z : rn _ _ _ _ [.int F2] _ _ _ := hc_z
      replace hc_z := rn_iret (am_cur_of (i := (56, 1, .ireturn, (0, 0, 0), 0)) (by decide +kernel)) hc_z
      obtain ⟨e123_z, e124_z⟩ := hc_z
      exact ⟨F2, j4_z, by rw [e124_z]; exact e1_z, e123_z⟩
    · replace b113_z : ((99999 : Int32) - s1_z).toInt < m.toInt := b113_z
      replace hc_z := rn_iconst (w := (-1)) (am_cur_of (i := (25, 1, .iconst (-1), (0, 0, 0), 0)) (by decide +kernel)) (by decide) hc_z
      replace hc_z := rn_iret (am_cur_of (i := (26, 1, .ireturn, (0, 0, 0), 0)) (by decide +kernel)) hc_z
      obtain ⟨e125_z, e126_z⟩ := hc_z
      exfalso
      have bm := ab_isub (x := 99999) (y := s1_z) (by rw [show (99999 : Int32).toInt = 99999 by decide]; omega) (by rw [show (99999 : Int32).toInt = 99999 by decide]; omega)
      rw [show (99999 : Int32).toInt = 99999 by decide] at bm
      omega
theorem sf_83_23_1 {n : Nat} {r : Option Value} {h g h' : am_H} {m s1_z : Int32} (D : h 0 2 = .ref 23) (hL : LW 23 h g) (E1 : rg_v h 48 1 = s1_z) (s10_z : 0 ≤ s1_z.toInt) (F0 : 0 ≤ (rg_v h 48 0).toInt) (F9 : (rg_v h 48 0).toInt ≤ 9999) (H0 : 0 ≤ (rg_v h 23 0).toInt) (H9 : (rg_v h 23 0).toInt ≤ 9999) (p0_z : 0 ≤ (rg_v h 23 7).toInt) (p9_z : (rg_v h 23 7).toInt ≤ 9999) (l0_z : 0 ≤ (leZ (rg_v h 23 18) (rg_v h 48 4) (fun q => rg_v h 28 q)).toInt) (l9_z : (leZ (rg_v h 23 18) (rg_v h 48 4) (fun q => rg_v h 28 q)).toInt ≤ 999) (n0_z : 0 ≤ (rg_v h 60 1).toInt) (n1_z : (rg_v h 60 1).toInt < 20) (s0_z : 0 ≤ (rg_v h 60 2).toInt) (sz20_z : (rg_v h 60 2).toInt ≤ 20) (v1_z : 1 ≤ m.toInt) (v2_z : m.toInt ≤ 999) (v3_z : s1_z.toInt + m.toInt ≤ 99999) (hc_z : rn n am_m83 0 (lv_args 0 [.ref 0, .int m, .int 1]) [] h r h') : ∃ F2 : Int32, gR (secZ 23 h 0 (rg_v h 23 0) 0 (rg_v h 23 7) (leZ (rg_v h 23 18) (rg_v h 48 4) (fun q => rg_v h 28 q)) 1) m.toInt.toNat (rg_v h 48 0) s1_z F2 ∧ rg_v h' 48 0 = F2 ∧ r = some (.int F2) := by
  have z0_z : (0 : Int32).toInt = 0 := by decide
  have z1_z : (1 : Int32).toInt = 1 := by decide
  have z999_z : (999 : Int32).toInt = 999 := by decide
  have z2147483647_z : (2147483647 : Int32).toInt = 2147483647 := by decide
  have g0_z : am_get (lv_args 0 [.ref 0, .int m, .int 1]) 0 = some (.ref 0) := rfl
  have g1_z : am_get (lv_args 0 [.ref 0, .int m, .int 1]) 1 = some (.int m) := rfl
  have g2_z : am_get (lv_args 0 [.ref 0, .int m, .int 1]) 2 = some (.int 1) := rfl
  replace hc_z := rn_iload_n (am_cur_of (i := (0, 1, .iload_n 1, (0, 0, 0), 0)) (by decide +kernel)) g1_z hc_z
  replace hc_z := rn_iconst (w := 1) (am_cur_of (i := (1, 1, .iconst 1, (0, 0, 0), 0)) (by decide +kernel)) (by decide) hc_z
  replace hc_z := rn_sipush (w := 999) (am_cur_of (i := (2, 3, .sipush 999, (0, 0, 0), 0)) (by decide +kernel)) (by decide) hc_z
  replace hc_z := rn_callS (M' := am_m62) (ar := [.int 999, .int 1, .int m]) (rest := []) (L := lv_args 0 [.int m, .int 1, .int 999]) (am_cur_of (i := (5, 3, .invokestatic 172, (62, 908, 3), 0)) (by decide +kernel)) rfl rfl rfl rfl hc_z
  obtain ⟨r127_z, h128_z, q129_z, hc_z⟩ := hc_z
  rcases sw_62 q129_z with ⟨b130_z, rfl, y131_z⟩ | ⟨b132_z, b133_z, rfl, y134_z⟩ | ⟨b135_z, b136_z, rfl, y137_z⟩
  · replace y131_z := y131_z.symm
    subst y131_z
    replace b130_z : m.toInt < (1 : Int32).toInt := b130_z
    replace hc_z : rn _ _ _ _ [.int 0] _ _ _ := hc_z
    replace hc_z := rn_ifT (am_cur_of (i := (8, 3, .ifCond .eq 17, (12, 0, 0), 0)) (by decide +kernel)) (by decide) hc_z
    replace hc_z := rn_iconst (w := (-1)) (am_cur_of (i := (25, 1, .iconst (-1), (0, 0, 0), 0)) (by decide +kernel)) (by decide) hc_z
    replace hc_z := rn_iret (am_cur_of (i := (26, 1, .ireturn, (0, 0, 0), 0)) (by decide +kernel)) hc_z
    obtain ⟨e138_z, e139_z⟩ := hc_z
    exfalso
    have bm := ab_isub (x := 99999) (y := s1_z) (by rw [show (99999 : Int32).toInt = 99999 by decide]; omega) (by rw [show (99999 : Int32).toInt = 99999 by decide]; omega)
    rw [show (99999 : Int32).toInt = 99999 by decide] at bm
    omega
  · replace y134_z := y134_z.symm
    subst y134_z
    replace b132_z : (1 : Int32).toInt ≤ m.toInt := b132_z
    replace b133_z : (999 : Int32).toInt < m.toInt := b133_z
    replace hc_z : rn _ _ _ _ [.int 0] _ _ _ := hc_z
    replace hc_z := rn_ifT (am_cur_of (i := (8, 3, .ifCond .eq 17, (12, 0, 0), 0)) (by decide +kernel)) (by decide) hc_z
    replace hc_z := rn_iconst (w := (-1)) (am_cur_of (i := (25, 1, .iconst (-1), (0, 0, 0), 0)) (by decide +kernel)) (by decide) hc_z
    replace hc_z := rn_iret (am_cur_of (i := (26, 1, .ireturn, (0, 0, 0), 0)) (by decide +kernel)) hc_z
    obtain ⟨e140_z, e141_z⟩ := hc_z
    exfalso
    have bm := ab_isub (x := 99999) (y := s1_z) (by rw [show (99999 : Int32).toInt = 99999 by decide]; omega) (by rw [show (99999 : Int32).toInt = 99999 by decide]; omega)
    rw [show (99999 : Int32).toInt = 99999 by decide] at bm
    omega
  · replace y137_z := y137_z.symm
    subst y137_z
    replace b135_z : (1 : Int32).toInt ≤ m.toInt := b135_z
    replace b136_z : m.toInt ≤ (999 : Int32).toInt := b136_z
    replace hc_z : rn _ _ _ _ [.int 1] _ _ _ := hc_z
    replace hc_z := rn_ifF (am_cur_of (i := (8, 3, .ifCond .eq 17, (12, 0, 0), 0)) (by decide +kernel)) (by decide) hc_z
    replace hc_z := rn_iload_n (am_cur_of (i := (11, 1, .iload_n 1, (0, 0, 0), 0)) (by decide +kernel)) g1_z hc_z
    replace hc_z := rn_ldc (w := 99999) (am_cur_of (i := (12, 2, .ldc 198, (0, 0, 960), 99999)) (by decide +kernel)) (by decide) hc_z
    replace hc_z := rn_aload_n (am_cur_of (i := (14, 1, .aload_n 0, (0, 0, 0), 0)) (by decide +kernel)) g0_z hc_z
    replace hc_z := rn_getR (x := 48) (am_cur_of (i := (15, 3, .getfield 37, (0, 5, 666), 0)) (by decide +kernel)) (by decide +kernel) hc_z
    replace hc_z := rn_getI (v := s1_z) (am_cur_of (i := (18, 3, .getfield 199, (5, 1, 471), 0)) (by decide +kernel)) (by decide +kernel) E1 hc_z
    replace hc_z := rn_isub (w := (99999 : Int32) - s1_z) (am_cur_of (i := (21, 1, .isub, (0, 0, 0), 0)) (by decide +kernel)) rfl hc_z
    replace hc_z := rn_cmp (am_cur_of (i := (22, 3, .if_icmp .le 5, (14, 0, 0), 0)) (by decide +kernel)) hc_z
    rcases hc_z with ⟨b142_z, hc_z⟩ | ⟨b142_z, hc_z⟩
    · replace b142_z : m.toInt ≤ ((99999 : Int32) - s1_z).toInt := b142_z
      replace hc_z := rn_aload_n (am_cur_of (i := (27, 1, .aload_n 0, (0, 0, 0), 0)) (by decide +kernel)) g0_z hc_z
      replace hc_z := rn_getR (x := 148) (am_cur_of (i := (28, 3, .getfield 64, (0, 11, 672), 0)) (by decide +kernel)) (by decide +kernel) hc_z
      replace hc_z := rn_aload_n (am_cur_of (i := (31, 1, .aload_n 0, (0, 0, 0), 0)) (by decide +kernel)) g0_z hc_z
      replace hc_z := rn_getM (x := 23) (am_cur_of (i := (32, 3, .getfield 18, (0, 2, 663), 0)) (by decide +kernel)) D hc_z
      replace hc_z := rn_aload_n (am_cur_of (i := (35, 1, .aload_n 0, (0, 0, 0), 0)) (by decide +kernel)) g0_z hc_z
      replace hc_z := rn_getR (x := 48) (am_cur_of (i := (36, 3, .getfield 37, (0, 5, 666), 0)) (by decide +kernel)) (by decide +kernel) hc_z
      replace hc_z := rn_callV (M' := am_m63) (o := 148) (ar := [.ref 48, .ref 23]) (rest := []) (L := lv_args 0 [.ref 148, .ref 23, .ref 48]) (am_cur_of (i := (39, 3, .invokevirtual 146, (63, 912, 3), 0)) (by decide +kernel)) rfl rfl rfl rfl hc_z
      obtain ⟨r143_z, h144_z, q145_z, hc_z⟩ := hc_z
      have vo := rn_void rfl q145_z
      subst vo
      obtain ⟨b1_z, b5_z, b2_z, b3_z, b4_z, bS, bf⟩ := se_63_23 q145_z
      have hC : ∀ o q, 23 + 10 ≤ o → o ≤ 23 + 14 → rg_v h144_z o q = rg_v h o q := fun o q a_ b_ => lw_v (bf o q (by omega))
      have eF : rg_v h144_z 149 0 = rg_v h 48 0 := bS 0 (by decide)
      have eS : rg_v h144_z 149 1 = s1_z := (bS 1 (by decide)).trans E1
      have ePt : rg_v h144_z 149 4 = rg_v h 48 4 := bS 4 (by decide)
      have eH : rg_v h144_z 23 0 = rg_v h 23 0 := lw_v (bf 23 0 (by decide))
      have ePf : rg_v h144_z 23 7 = rg_v h 23 7 := lw_v (bf 23 7 (by decide))
      have eLo : (fun q => rg_v h144_z 28 q) = (fun q => rg_v h 28 q) := funext (fun q => lw_v (bf 28 q (by omega)))
      replace hc_z : rn _ _ _ _ [] _ _ _ := hc_z
      replace hc_z := rn_aload_n (am_cur_of (i := (42, 1, .aload_n 0, (0, 0, 0), 0)) (by decide +kernel)) g0_z hc_z
      replace hc_z := rn_getR (x := 148) (am_cur_of (i := (43, 3, .getfield 64, (0, 11, 672), 0)) (by decide +kernel)) (by decide +kernel) hc_z
      replace hc_z := rn_iload_n (am_cur_of (i := (46, 1, .iload_n 1, (0, 0, 0), 0)) (by decide +kernel)) g1_z hc_z
      replace hc_z := rn_iload_n (am_cur_of (i := (47, 1, .iload_n 2, (0, 0, 0), 0)) (by decide +kernel)) g2_z hc_z
      replace hc_z := rn_callV (M' := am_m75) (o := 148) (ar := [.int 1, .int m]) (rest := []) (L := lv_args 0 [.ref 148, .int m, .int 1]) (am_cur_of (i := (48, 3, .invokevirtual 225, (75, 1007, 3), 0)) (by decide +kernel)) rfl rfl rfl rfl hc_z
      obtain ⟨r146_z, h147_z, q148_z, hc_z⟩ := hc_z
      have bm := ab_isub (x := 99999) (y := s1_z) (by rw [show (99999 : Int32).toInt = 99999 by decide]; omega) (by rw [show (99999 : Int32).toInt = 99999 by decide]; omega)
      rw [show (99999 : Int32).toInt = 99999 by decide] at bm
      have eLo2 : (fun q => rg_v h144_z 28 q) = (fun q => rg_v h 28 q) := eLo
      obtain ⟨j, F2, le2_z, j1_z, j2_z, j3_z, j4_z, j5_z, j6_z, j7_z, j8_z, j9_z⟩ := gf_75_148_23_1 (le := rg_v h144_z 148 6) (h0_z := h) (b1_z) hL (fun o q a_ b_ => (hC o q a_ b_)) b5_z eF eS eH b3_z b4_z ePf rfl b2_z ePt H0 H9 p0_z p9_z F0 (by omega) s10_z (by omega) (by omega) (by rw [eLo2]; exact l0_z) (by rw [eLo2]; exact l9_z) q148_z
      have em : j = m.toInt.toNat ∧ r146_z = some (.int 1) := by
        rcases j2_z with j2_z | ⟨-, -, jb⟩
        · exact j2_z
        · exfalso
          omega
      obtain ⟨em, rr⟩ := em
      subst rr
      rw [em, eLo2] at j4_z
      have fv : ∀ o k, (o = 60 ∧ (k = 1 ∨ k = 2)) → rg_v h147_z o k = rg_v h o k := fun o k q => (lw_v (j9_z o k (by omega) (by omega) (by omega) (by omega))).trans ((lw_v (bf o k (by omega))))
      replace hc_z : rn _ _ _ _ [.int 1] _ _ _ := hc_z
      replace hc_z := rn_pop (am_cur_of (i := (51, 1, .pop, (0, 0, 0), 0)) (by decide +kernel)) hc_z
      replace hc_z := rn_aload_n (am_cur_of (i := (52, 1, .aload_n 0, (0, 0, 0), 0)) (by decide +kernel)) g0_z hc_z
      replace hc_z := rn_callV (M' := am_m81) (o := 0) (ar := []) (rest := []) (L := lv_args 0 [.ref 0]) (am_cur_of (i := (53, 3, .invokevirtual 208, (81, 992, 3), 0)) (by decide +kernel)) rfl rfl rfl rfl hc_z
      obtain ⟨r149_z, h150_z, q151_z, hc_z⟩ := hc_z
      have gv : ∀ o k, (o = 60 ∧ (k = 1 ∨ k = 2)) → rg_v h147_z o k = rg_v h o k := fun o k q => fv o k q
      obtain ⟨rr, e0_z⟩ := sf_81 (by rw [gv 60 1 (by omega)]; exact n0_z) (by rw [gv 60 1 (by omega)]; exact n1_z) (by rw [gv 60 2 (by omega)]; exact s0_z) (by rw [gv 60 2 (by omega)]; exact sz20_z) q151_z
      have e1_z : rg_v h150_z 48 0 = F2 := e0_z.trans (j6_z)
      rw [e1_z] at rr
      subst rr
      replace hc_z : rn _ _ _ _ [.int F2] _ _ _ := hc_z
      replace hc_z := rn_iret (am_cur_of (i := (56, 1, .ireturn, (0, 0, 0), 0)) (by decide +kernel)) hc_z
      obtain ⟨e152_z, e153_z⟩ := hc_z
      exact ⟨F2, j4_z, by rw [e153_z]; exact e1_z, e152_z⟩
    · replace b142_z : ((99999 : Int32) - s1_z).toInt < m.toInt := b142_z
      replace hc_z := rn_iconst (w := (-1)) (am_cur_of (i := (25, 1, .iconst (-1), (0, 0, 0), 0)) (by decide +kernel)) (by decide) hc_z
      replace hc_z := rn_iret (am_cur_of (i := (26, 1, .ireturn, (0, 0, 0), 0)) (by decide +kernel)) hc_z
      obtain ⟨e154_z, e155_z⟩ := hc_z
      exfalso
      have bm := ab_isub (x := 99999) (y := s1_z) (by rw [show (99999 : Int32).toInt = 99999 by decide]; omega) (by rw [show (99999 : Int32).toInt = 99999 by decide]; omega)
      rw [show (99999 : Int32).toInt = 99999 by decide] at bm
      omega
theorem sf_84_23 {n : Nat} {r : Option Value} {h g h' : am_H} {m s1_z : Int32} (D : h 0 2 = .ref 23) (hL : LW 23 h g) (E1 : rg_v h 48 1 = s1_z) (s10_z : 0 ≤ s1_z.toInt) (F0 : 0 ≤ (rg_v h 48 0).toInt) (F9 : (rg_v h 48 0).toInt ≤ 9999) (H0 : 0 ≤ (rg_v h 23 0).toInt) (H9 : (rg_v h 23 0).toInt ≤ 9999) (p0_z : 0 ≤ (rg_v h 23 7).toInt) (p9_z : (rg_v h 23 7).toInt ≤ 9999) (l0_z : 0 ≤ (leZ (rg_v h 23 18) (rg_v h 48 4) (fun q => rg_v h 28 q)).toInt) (l9_z : (leZ (rg_v h 23 18) (rg_v h 48 4) (fun q => rg_v h 28 q)).toInt ≤ 999) (n0_z : 0 ≤ (rg_v h 60 1).toInt) (n1_z : (rg_v h 60 1).toInt < 20) (s0_z : 0 ≤ (rg_v h 60 2).toInt) (sz20_z : (rg_v h 60 2).toInt ≤ 20) (v0_z : ¬ (rg_v h 23 8).toInt = 0) (v1_z : 1 ≤ m.toInt) (v2_z : m.toInt ≤ (rg_v h 48 3).toInt) (v3_z : s1_z.toInt + m.toInt ≤ 99999) (hc_z : rn n am_m84 0 (lv_args 0 [.ref 0, .int m]) [] h r h') : ∃ F2 : Int32, gR (secZ 23 h 0 (rg_v h 23 0) 1 (rg_v h 23 7) (leZ (rg_v h 23 18) (rg_v h 48 4) (fun q => rg_v h 28 q)) 0) m.toInt.toNat (rg_v h 48 0) s1_z F2 ∧ rg_v h' 48 0 = F2 ∧ r = some (.int F2) := by
  have z0_z : (0 : Int32).toInt = 0 := by decide
  have z1_z : (1 : Int32).toInt = 1 := by decide
  have z2147483647_z : (2147483647 : Int32).toInt = 2147483647 := by decide
  have g0_z : am_get (lv_args 0 [.ref 0, .int m]) 0 = some (.ref 0) := rfl
  have g1_z : am_get (lv_args 0 [.ref 0, .int m]) 1 = some (.int m) := rfl
  replace hc_z := rn_aload_n (am_cur_of (i := (0, 1, .aload_n 0, (0, 0, 0), 0)) (by decide +kernel)) g0_z hc_z
  replace hc_z := rn_getM (x := 23) (am_cur_of (i := (1, 3, .getfield 18, (0, 2, 663), 0)) (by decide +kernel)) D hc_z
  replace hc_z := rn_getI (v := rg_v h 23 8) (am_cur_of (i := (4, 3, .getfield 229, (1, 8, 281), 0)) (by decide +kernel)) (by decide +kernel) rfl hc_z
  replace hc_z := rn_if (am_cur_of (i := (7, 3, .ifCond .eq 8, (7, 0, 0), 0)) (by decide +kernel)) hc_z
  rcases hc_z with ⟨b156_z, hc_z⟩ | ⟨b156_z, hc_z⟩
  · replace b156_z : (rg_v h 23 8) = (0 : Int32) ∧ (rg_v h 23 8).toInt = (0 : Int32).toInt := b156_z
    replace hc_z := rn_iconst (w := (-1)) (am_cur_of (i := (15, 1, .iconst (-1), (0, 0, 0), 0)) (by decide +kernel)) (by decide) hc_z
    replace hc_z := rn_iret (am_cur_of (i := (16, 1, .ireturn, (0, 0, 0), 0)) (by decide +kernel)) hc_z
    obtain ⟨e157_z, e158_z⟩ := hc_z
    exfalso
    have bm := ab_isub (x := 99999) (y := s1_z) (by rw [show (99999 : Int32).toInt = 99999 by decide]; omega) (by rw [show (99999 : Int32).toInt = 99999 by decide]; omega)
    rw [show (99999 : Int32).toInt = 99999 by decide] at bm
    omega
  · replace b156_z : ¬ (rg_v h 23 8) = (0 : Int32) ∧ ¬ (rg_v h 23 8).toInt = (0 : Int32).toInt := b156_z
    replace hc_z := rn_iload_n (am_cur_of (i := (10, 1, .iload_n 1, (0, 0, 0), 0)) (by decide +kernel)) g1_z hc_z
    replace hc_z := rn_iconst (w := 1) (am_cur_of (i := (11, 1, .iconst 1, (0, 0, 0), 0)) (by decide +kernel)) (by decide) hc_z
    replace hc_z := rn_cmp (am_cur_of (i := (12, 3, .if_icmp .ge 5, (9, 0, 0), 0)) (by decide +kernel)) hc_z
    rcases hc_z with ⟨b159_z, hc_z⟩ | ⟨b159_z, hc_z⟩
    · replace b159_z : (1 : Int32).toInt ≤ m.toInt := b159_z
      replace hc_z := rn_iload_n (am_cur_of (i := (17, 1, .iload_n 1, (0, 0, 0), 0)) (by decide +kernel)) g1_z hc_z
      replace hc_z := rn_aload_n (am_cur_of (i := (18, 1, .aload_n 0, (0, 0, 0), 0)) (by decide +kernel)) g0_z hc_z
      replace hc_z := rn_getR (x := 48) (am_cur_of (i := (19, 3, .getfield 37, (0, 5, 666), 0)) (by decide +kernel)) (by decide +kernel) hc_z
      replace hc_z := rn_getI (v := rg_v h 48 3) (am_cur_of (i := (22, 3, .getfield 232, (5, 3, 477), 0)) (by decide +kernel)) (by decide +kernel) rfl hc_z
      replace hc_z := rn_cmp (am_cur_of (i := (25, 3, .if_icmp .le 6, (16, 0, 0), 0)) (by decide +kernel)) hc_z
      rcases hc_z with ⟨b160_z, hc_z⟩ | ⟨b160_z, hc_z⟩
      · replace b160_z : m.toInt ≤ (rg_v h 48 3).toInt := b160_z
        replace hc_z := rn_iload_n (am_cur_of (i := (31, 1, .iload_n 1, (0, 0, 0), 0)) (by decide +kernel)) g1_z hc_z
        replace hc_z := rn_ldc (w := 99999) (am_cur_of (i := (32, 2, .ldc 198, (0, 0, 960), 99999)) (by decide +kernel)) (by decide) hc_z
        replace hc_z := rn_aload_n (am_cur_of (i := (34, 1, .aload_n 0, (0, 0, 0), 0)) (by decide +kernel)) g0_z hc_z
        replace hc_z := rn_getR (x := 48) (am_cur_of (i := (35, 3, .getfield 37, (0, 5, 666), 0)) (by decide +kernel)) (by decide +kernel) hc_z
        replace hc_z := rn_getI (v := s1_z) (am_cur_of (i := (38, 3, .getfield 199, (5, 1, 471), 0)) (by decide +kernel)) (by decide +kernel) E1 hc_z
        replace hc_z := rn_isub (w := (99999 : Int32) - s1_z) (am_cur_of (i := (41, 1, .isub, (0, 0, 0), 0)) (by decide +kernel)) rfl hc_z
        replace hc_z := rn_cmp (am_cur_of (i := (42, 3, .if_icmp .le 5, (25, 0, 0), 0)) (by decide +kernel)) hc_z
        rcases hc_z with ⟨b161_z, hc_z⟩ | ⟨b161_z, hc_z⟩
        · replace b161_z : m.toInt ≤ ((99999 : Int32) - s1_z).toInt := b161_z
          replace hc_z := rn_aload_n (am_cur_of (i := (47, 1, .aload_n 0, (0, 0, 0), 0)) (by decide +kernel)) g0_z hc_z
          replace hc_z := rn_getR (x := 148) (am_cur_of (i := (48, 3, .getfield 64, (0, 11, 672), 0)) (by decide +kernel)) (by decide +kernel) hc_z
          replace hc_z := rn_aload_n (am_cur_of (i := (51, 1, .aload_n 0, (0, 0, 0), 0)) (by decide +kernel)) g0_z hc_z
          replace hc_z := rn_getM (x := 23) (am_cur_of (i := (52, 3, .getfield 18, (0, 2, 663), 0)) (by decide +kernel)) D hc_z
          replace hc_z := rn_aload_n (am_cur_of (i := (55, 1, .aload_n 0, (0, 0, 0), 0)) (by decide +kernel)) g0_z hc_z
          replace hc_z := rn_getR (x := 48) (am_cur_of (i := (56, 3, .getfield 37, (0, 5, 666), 0)) (by decide +kernel)) (by decide +kernel) hc_z
          replace hc_z := rn_callV (M' := am_m63) (o := 148) (ar := [.ref 48, .ref 23]) (rest := []) (L := lv_args 0 [.ref 148, .ref 23, .ref 48]) (am_cur_of (i := (59, 3, .invokevirtual 146, (63, 912, 3), 0)) (by decide +kernel)) rfl rfl rfl rfl hc_z
          obtain ⟨r162_z, h163_z, q164_z, hc_z⟩ := hc_z
          have vo := rn_void rfl q164_z
          subst vo
          obtain ⟨b1_z, b5_z, b2_z, b3_z, b4_z, bS, bf⟩ := se_63_23 q164_z
          have hC : ∀ o q, 23 + 10 ≤ o → o ≤ 23 + 14 → rg_v h163_z o q = rg_v h o q := fun o q a_ b_ => lw_v (bf o q (by omega))
          have eF : rg_v h163_z 149 0 = rg_v h 48 0 := bS 0 (by decide)
          have eS : rg_v h163_z 149 1 = s1_z := (bS 1 (by decide)).trans E1
          have ePt : rg_v h163_z 149 4 = rg_v h 48 4 := bS 4 (by decide)
          have eH : rg_v h163_z 23 0 = rg_v h 23 0 := lw_v (bf 23 0 (by decide))
          have ePf : rg_v h163_z 23 7 = rg_v h 23 7 := lw_v (bf 23 7 (by decide))
          have eLo : (fun q => rg_v h163_z 28 q) = (fun q => rg_v h 28 q) := funext (fun q => lw_v (bf 28 q (by omega)))
          replace hc_z : rn _ _ _ _ [] _ _ _ := hc_z
          replace hc_z := rn_aload_n (am_cur_of (i := (62, 1, .aload_n 0, (0, 0, 0), 0)) (by decide +kernel)) g0_z hc_z
          replace hc_z := rn_getR (x := 148) (am_cur_of (i := (63, 3, .getfield 64, (0, 11, 672), 0)) (by decide +kernel)) (by decide +kernel) hc_z
          replace hc_z := rn_iconst (w := 1) (am_cur_of (i := (66, 1, .iconst 1, (0, 0, 0), 0)) (by decide +kernel)) (by decide) hc_z
          replace hc_z := rn_put (am_cur_of (i := (67, 3, .putfield 235, (8, 4, 578), 0)) (by decide +kernel)) (by decide +kernel) hc_z
          replace hc_z := rn_aload_n (am_cur_of (i := (70, 1, .aload_n 0, (0, 0, 0), 0)) (by decide +kernel)) g0_z hc_z
          replace hc_z := rn_getR (x := 148) (am_cur_of (i := (71, 3, .getfield 64, (0, 11, 672), 0)) (by decide +kernel)) (by decide +kernel) hc_z
          replace hc_z := rn_iload_n (am_cur_of (i := (74, 1, .iload_n 1, (0, 0, 0), 0)) (by decide +kernel)) g1_z hc_z
          replace hc_z := rn_iconst (w := 0) (am_cur_of (i := (75, 1, .iconst 0, (0, 0, 0), 0)) (by decide +kernel)) (by decide) hc_z
          replace hc_z := rn_callV (M' := am_m75) (o := 148) (ar := [.int 0, .int m]) (rest := []) (L := lv_args 0 [.ref 148, .int m, .int 0]) (am_cur_of (i := (76, 3, .invokevirtual 225, (75, 1007, 3), 0)) (by decide +kernel)) rfl rfl rfl rfl hc_z
          obtain ⟨r165_z, h166_z, q167_z, hc_z⟩ := hc_z
          have bm := ab_isub (x := 99999) (y := s1_z) (by rw [show (99999 : Int32).toInt = 99999 by decide]; omega) (by rw [show (99999 : Int32).toInt = 99999 by decide]; omega)
          rw [show (99999 : Int32).toInt = 99999 by decide] at bm
          have eLo2 : (fun q => rg_v (am_up h163_z 148 4 (.int 1)) 28 q) = (fun q => rg_v h 28 q) := eLo
          obtain ⟨j, F2, le2_z, j1_z, j2_z, j3_z, j4_z, j5_z, j6_z, j7_z, j8_z, j9_z⟩ := gf_75_148_23_0 (le := rg_v (am_up h163_z 148 4 (.int 1)) 148 6) (h0_z := h) ((up_ne (by omega)).trans b1_z) hL (fun o q a_ b_ => ((rg_v_other (by omega)).trans (hC o q a_ b_))) ((rg_v_other (by omega)).trans b5_z) ((rg_v_other (by omega)).trans eF) ((rg_v_other (by omega)).trans eS) ((rg_v_other (by omega)).trans eH) ((rg_v_other (by omega)).trans b3_z) rg_v_self ((rg_v_other (by omega)).trans ePf) rfl ((rg_v_other (by omega)).trans b2_z) ((rg_v_other (by omega)).trans ePt) H0 H9 p0_z p9_z F0 (by omega) s10_z (by omega) (by omega) (by rw [eLo2]; exact l0_z) (by rw [eLo2]; exact l9_z) q167_z
          have em : j = m.toInt.toNat ∧ r165_z = some (.int 1) := by
            rcases j2_z with j2_z | ⟨-, -, jb⟩
            · exact j2_z
            · exfalso
              omega
          obtain ⟨em, rr⟩ := em
          subst rr
          rw [em, eLo2] at j4_z
          have fv : ∀ o k, (o = 60 ∧ (k = 1 ∨ k = 2)) → rg_v h166_z o k = rg_v h o k := fun o k q => (lw_v (j9_z o k (by omega) (by omega) (by omega) (by omega))).trans (((rg_v_other (by omega)).trans (lw_v (bf o k (by omega)))))
          replace hc_z : rn _ _ _ _ [.int 1] _ _ _ := hc_z
          replace hc_z := rn_pop (am_cur_of (i := (79, 1, .pop, (0, 0, 0), 0)) (by decide +kernel)) hc_z
          replace hc_z := rn_aload_n (am_cur_of (i := (80, 1, .aload_n 0, (0, 0, 0), 0)) (by decide +kernel)) g0_z hc_z
          replace hc_z := rn_getR (x := 148) (am_cur_of (i := (81, 3, .getfield 64, (0, 11, 672), 0)) (by decide +kernel)) (by decide +kernel) hc_z
          replace hc_z := rn_getR (x := 149) (am_cur_of (i := (84, 3, .getfield 216, (8, 1, 572), 0)) (by decide +kernel)) (by decide +kernel) hc_z
          replace hc_z := rn_dup (am_cur_of (i := (87, 1, .dup, (0, 0, 0), 0)) (by decide +kernel)) hc_z
          replace hc_z := rn_getI (v := rg_v h166_z 149 3) (am_cur_of (i := (88, 3, .getfield 232, (5, 3, 477), 0)) (by decide +kernel)) (by decide +kernel) rfl hc_z
          replace hc_z := rn_iload_n (am_cur_of (i := (91, 1, .iload_n 1, (0, 0, 0), 0)) (by decide +kernel)) g1_z hc_z
          replace hc_z := rn_isub (w := (rg_v h166_z 149 3) - m) (am_cur_of (i := (92, 1, .isub, (0, 0, 0), 0)) (by decide +kernel)) rfl hc_z
          replace hc_z := rn_put (am_cur_of (i := (93, 3, .putfield 232, (5, 3, 477), 0)) (by decide +kernel)) (by decide +kernel) hc_z
          replace hc_z := rn_aload_n (am_cur_of (i := (96, 1, .aload_n 0, (0, 0, 0), 0)) (by decide +kernel)) g0_z hc_z
          replace hc_z := rn_getR (x := 148) (am_cur_of (i := (97, 3, .getfield 64, (0, 11, 672), 0)) (by decide +kernel)) (by decide +kernel) hc_z
          replace hc_z := rn_getR (x := 149) (am_cur_of (i := (100, 3, .getfield 216, (8, 1, 572), 0)) (by decide +kernel)) (by decide +kernel) hc_z
          replace hc_z := rn_bipush (w := (-2)) (am_cur_of (i := (103, 2, .bipush (-2), (0, 0, 0), 0)) (by decide +kernel)) (by decide) hc_z
          replace hc_z := rn_put (am_cur_of (i := (105, 3, .putfield 238, (5, 2, 475), 0)) (by decide +kernel)) (by decide +kernel) hc_z
          replace hc_z := rn_aload_n (am_cur_of (i := (108, 1, .aload_n 0, (0, 0, 0), 0)) (by decide +kernel)) g0_z hc_z
          replace hc_z := rn_callV (M' := am_m81) (o := 0) (ar := []) (rest := []) (L := lv_args 0 [.ref 0]) (am_cur_of (i := (109, 3, .invokevirtual 208, (81, 992, 3), 0)) (by decide +kernel)) rfl rfl rfl rfl hc_z
          obtain ⟨r168_z, h169_z, q170_z, hc_z⟩ := hc_z
          have gv : ∀ o k, (o = 60 ∧ (k = 1 ∨ k = 2)) → rg_v (am_up (am_up h166_z 149 3 (.int ((rg_v h166_z 149 3) - m))) 149 2 (.int (-2))) o k = rg_v h o k := fun o k q => (rg_v_other (by omega)).trans ((rg_v_other (by omega)).trans (fv o k q))
          obtain ⟨rr, e0_z⟩ := sf_81 (by rw [gv 60 1 (by omega)]; exact n0_z) (by rw [gv 60 1 (by omega)]; exact n1_z) (by rw [gv 60 2 (by omega)]; exact s0_z) (by rw [gv 60 2 (by omega)]; exact sz20_z) q170_z
          have e1_z : rg_v h169_z 48 0 = F2 := e0_z.trans ((rg_v_other (by omega)).trans ((rg_v_other (by omega)).trans (j6_z)))
          rw [e1_z] at rr
          subst rr
          replace hc_z : rn _ _ _ _ [.int F2] _ _ _ := hc_z
          replace hc_z := rn_iret (am_cur_of (i := (112, 1, .ireturn, (0, 0, 0), 0)) (by decide +kernel)) hc_z
          obtain ⟨e171_z, e172_z⟩ := hc_z
          exact ⟨F2, j4_z, by rw [e172_z]; exact e1_z, e171_z⟩
        · replace b161_z : ((99999 : Int32) - s1_z).toInt < m.toInt := b161_z
          replace hc_z := rn_iconst (w := (-1)) (am_cur_of (i := (45, 1, .iconst (-1), (0, 0, 0), 0)) (by decide +kernel)) (by decide) hc_z
          replace hc_z := rn_iret (am_cur_of (i := (46, 1, .ireturn, (0, 0, 0), 0)) (by decide +kernel)) hc_z
          obtain ⟨e173_z, e174_z⟩ := hc_z
          exfalso
          have bm := ab_isub (x := 99999) (y := s1_z) (by rw [show (99999 : Int32).toInt = 99999 by decide]; omega) (by rw [show (99999 : Int32).toInt = 99999 by decide]; omega)
          rw [show (99999 : Int32).toInt = 99999 by decide] at bm
          omega
      · replace b160_z : (rg_v h 48 3).toInt < m.toInt := b160_z
        replace hc_z := rn_bipush (w := (-2)) (am_cur_of (i := (28, 2, .bipush (-2), (0, 0, 0), 0)) (by decide +kernel)) (by decide) hc_z
        replace hc_z := rn_iret (am_cur_of (i := (30, 1, .ireturn, (0, 0, 0), 0)) (by decide +kernel)) hc_z
        obtain ⟨e175_z, e176_z⟩ := hc_z
        exfalso
        have bm := ab_isub (x := 99999) (y := s1_z) (by rw [show (99999 : Int32).toInt = 99999 by decide]; omega) (by rw [show (99999 : Int32).toInt = 99999 by decide]; omega)
        rw [show (99999 : Int32).toInt = 99999 by decide] at bm
        omega
    · replace b159_z : m.toInt < (1 : Int32).toInt := b159_z
      replace hc_z := rn_iconst (w := (-1)) (am_cur_of (i := (15, 1, .iconst (-1), (0, 0, 0), 0)) (by decide +kernel)) (by decide) hc_z
      replace hc_z := rn_iret (am_cur_of (i := (16, 1, .ireturn, (0, 0, 0), 0)) (by decide +kernel)) hc_z
      obtain ⟨e177_z, e178_z⟩ := hc_z
      exfalso
      have bm := ab_isub (x := 99999) (y := s1_z) (by rw [show (99999 : Int32).toInt = 99999 by decide]; omega) (by rw [show (99999 : Int32).toInt = 99999 by decide]; omega)
      rw [show (99999 : Int32).toInt = 99999 by decide] at bm
      omega
