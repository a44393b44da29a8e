theorem fk_238 {nst : Nat} {r : Option Value} {g g' : am_H} {w : Int32} {d : Int32} (dp0_z : -1 ≤ d.toInt) (dp1_z : d.toInt ≤ 3) (T : tkm g) (hm_z : rn nst am_m238 0 (lv_args 0 [.ref 164, .int w, .int d]) [] g r g') : bk g g' ∧ (∃ v : Int32, r = some (.int v) ∧ -1 ≤ v.toInt ∧ v.toInt ≤ 3) := by
  have z0_z : (0 : Int32).toInt = 0 := by decide
  have z1_z : (1 : Int32).toInt = 1 := by decide
  have z2_z : (2 : Int32).toInt = 2 := by decide
  have g0_z : am_get (lv_args 0 [.ref 164, .int w, .int d]) 0 = some (.ref 164) := rfl
  have g1_z : am_get (lv_args 0 [.ref 164, .int w, .int d]) 1 = some (.int w) := rfl
  have g2_z : am_get (lv_args 0 [.ref 164, .int w, .int d]) 2 = some (.int d) := rfl
  have T2 := T.2.1
  have T3 := T.2.2
  replace hm_z := rn_iload_n (am_cur_of (i := (0, 1, .iload_n 1, (0, 0, 0), 0)) (by decide +kernel)) g1_z hm_z
  replace hm_z := rn_iconst (w := 2) (am_cur_of (i := (1, 1, .iconst 2, (0, 0, 0), 0)) (by decide +kernel)) (by decide) hm_z
  replace hm_z := rn_cmp (am_cur_of (i := (2, 3, .if_icmp .ne 118, (68, 0, 0), 0)) (by decide +kernel)) hm_z
  rcases hm_z with ⟨b1736_z, hm_z⟩ | ⟨b1736_z, hm_z⟩
  · replace b1736_z : ¬ w = (2 : Int32) ∧ ¬ w.toInt = (2 : Int32).toInt := b1736_z
    replace hm_z := rn_iload_n (am_cur_of (i := (120, 1, .iload_n 2, (0, 0, 0), 0)) (by decide +kernel)) g2_z hm_z
    replace hm_z := rn_if (am_cur_of (i := (121, 3, .ifCond .ge 7, (72, 0, 0), 0)) (by decide +kernel)) hm_z
    rcases hm_z with ⟨b1737_z, hm_z⟩ | ⟨b1737_z, hm_z⟩
    · replace b1737_z : (0 : Int32).toInt ≤ d.toInt := b1737_z
      replace hm_z := rn_iload_n (am_cur_of (i := (128, 1, .iload_n 1, (0, 0, 0), 0)) (by decide +kernel)) g1_z hm_z
      replace hm_z := rn_iconst (w := 1) (am_cur_of (i := (129, 1, .iconst 1, (0, 0, 0), 0)) (by decide +kernel)) (by decide) hm_z
      replace hm_z := rn_cmp (am_cur_of (i := (130, 3, .if_icmp .ne 7, (77, 0, 0), 0)) (by decide +kernel)) hm_z
      rcases hm_z with ⟨b1738_z, hm_z⟩ | ⟨b1738_z, hm_z⟩
      · replace b1738_z : ¬ w = (1 : Int32) ∧ ¬ w.toInt = (1 : Int32).toInt := b1738_z
        replace hm_z := rn_iload_n (am_cur_of (i := (137, 1, .iload_n 2, (0, 0, 0), 0)) (by decide +kernel)) g2_z hm_z
        replace hm_z := rn_iconst (w := 1) (am_cur_of (i := (138, 1, .iconst 1, (0, 0, 0), 0)) (by decide +kernel)) (by decide) hm_z
        replace hm_z := rn_iadd (w := d + 1) (am_cur_of (i := (139, 1, .iadd, (0, 0, 0), 0)) (by decide +kernel)) rfl hm_z
        have a1739_z := ab_iadd (x := d) (y := (1 : Int32)) (by omega) (by omega)
        replace hm_z := rn_aload_n (am_cur_of (i := (140, 1, .aload_n 0, (0, 0, 0), 0)) (by decide +kernel)) g0_z hm_z
        replace hm_z := rn_getI (v := rg_v g 164 12) (am_cur_of (i := (141, 3, .getfield 219, (12, 12, 1396), 0)) (by decide +kernel)) (by decide +kernel) rfl hm_z
        replace hm_z := rn_irem (w := (d + 1) - (d + 1) / (rg_v g 164 12) * (rg_v g 164 12)) (am_cur_of (i := (144, 1, .irem, (0, 0, 0), 0)) (by decide +kernel)) rfl hm_z
        obtain ⟨d1740_z, hm_z⟩ := hm_z
        have y1741_z : ¬ (rg_v g 164 12).toInt = 0 := fun q => d1740_z (Int32.toInt_inj.mp (q.trans (by decide)))
        have y1741r := ac_rem (x := d + 1) (y := rg_v g 164 12) (by omega) (by omega)
        replace hm_z := rn_istore_n (am_cur_of (i := (145, 1, .istore_n 3, (0, 0, 0), 0)) (by decide +kernel)) hm_z
        obtain ⟨_, s1742_z, s1743_z, g3_z, hm_z⟩ := hm_z
        replace g0_z := s1742_z 0 _ (by decide) rfl g0_z
        replace g1_z := s1742_z 1 _ (by decide) rfl g1_z
        replace g2_z := s1742_z 2 _ (by decide) rfl g2_z
        clear s1742_z s1743_z
        replace hm_z := rn_iconst (w := 0) (am_cur_of (i := (146, 1, .iconst 0, (0, 0, 0), 0)) (by decide +kernel)) (by decide) hm_z
        replace hm_z := rn_istore (am_cur_of (i := (147, 2, .istore 4, (0, 0, 0), 0)) (by decide +kernel)) hm_z
        obtain ⟨_, s1744_z, s1745_z, g4_z, hm_z⟩ := hm_z
        replace g0_z := s1744_z 0 _ (by decide) rfl g0_z
        replace g1_z := s1744_z 1 _ (by decide) rfl g1_z
        replace g2_z := s1744_z 2 _ (by decide) rfl g2_z
        replace g3_z := s1744_z 3 _ (by decide) rfl g3_z
        clear s1744_z s1745_z
        have H86 := (fk_238_L (r := r) (g' := g') (w := w) (d := d) dp0_z dp1_z nst).2.2.2
        have hh := H86 ((d + 1) - (d + 1) / (rg_v g 164 12) * (rg_v g 164 12)) 0 _ _ g0_z g3_z g4_z (show 0 ≤ ((d + 1) - (d + 1) / (rg_v g 164 12) * (rg_v g 164 12)).toInt ∧ ((d + 1) - (d + 1) / (rg_v g 164 12) * (rg_v g 164 12)).toInt ≤ 4 by omega) (show 0 ≤ (0 : Int32).toInt ∧ (0 : Int32).toInt ≤ 4 by decide) (tkm_b bk_r T) hm_z
        exact ⟨bk_t bk_r hh.1, hh.2⟩
      · replace b1738_z : w = (1 : Int32) ∧ w.toInt = (1 : Int32).toInt := b1738_z
        replace hm_z := rn_iload_n (am_cur_of (i := (133, 1, .iload_n 2, (0, 0, 0), 0)) (by decide +kernel)) g2_z hm_z
        replace hm_z := rn_goto (am_cur_of (i := (134, 3, .goto 11, (83, 0, 0), 0)) (by decide +kernel)) hm_z
        replace hm_z := rn_istore_n (am_cur_of (i := (145, 1, .istore_n 3, (0, 0, 0), 0)) (by decide +kernel)) hm_z
        obtain ⟨_, s1746_z, s1747_z, g3_z, hm_z⟩ := hm_z
        replace g0_z := s1746_z 0 _ (by decide) rfl g0_z
        replace g1_z := s1746_z 1 _ (by decide) rfl g1_z
        replace g2_z := s1746_z 2 _ (by decide) rfl g2_z
        clear s1746_z s1747_z
        replace hm_z := rn_iconst (w := 0) (am_cur_of (i := (146, 1, .iconst 0, (0, 0, 0), 0)) (by decide +kernel)) (by decide) hm_z
        replace hm_z := rn_istore (am_cur_of (i := (147, 2, .istore 4, (0, 0, 0), 0)) (by decide +kernel)) hm_z
        obtain ⟨_, s1748_z, s1749_z, g4_z, hm_z⟩ := hm_z
        replace g0_z := s1748_z 0 _ (by decide) rfl g0_z
        replace g1_z := s1748_z 1 _ (by decide) rfl g1_z
        replace g2_z := s1748_z 2 _ (by decide) rfl g2_z
        replace g3_z := s1748_z 3 _ (by decide) rfl g3_z
        clear s1748_z s1749_z
        have H86 := (fk_238_L (r := r) (g' := g') (w := w) (d := d) dp0_z dp1_z nst).2.2.2
        have hh := H86 d 0 _ _ g0_z g3_z g4_z (show 0 ≤ d.toInt ∧ d.toInt ≤ 4 by omega) (show 0 ≤ (0 : Int32).toInt ∧ (0 : Int32).toInt ≤ 4 by decide) (tkm_b bk_r T) hm_z
        exact ⟨bk_t bk_r hh.1, hh.2⟩
    · replace b1737_z : d.toInt < (0 : Int32).toInt := b1737_z
      replace hm_z := rn_iconst (w := 0) (am_cur_of (i := (124, 1, .iconst 0, (0, 0, 0), 0)) (by decide +kernel)) (by decide) hm_z
      replace hm_z := rn_goto (am_cur_of (i := (125, 3, .goto 20, (83, 0, 0), 0)) (by decide +kernel)) hm_z
      replace hm_z := rn_istore_n (am_cur_of (i := (145, 1, .istore_n 3, (0, 0, 0), 0)) (by decide +kernel)) hm_z
      obtain ⟨_, s1750_z, s1751_z, g3_z, hm_z⟩ := hm_z
      replace g0_z := s1750_z 0 _ (by decide) rfl g0_z
      replace g1_z := s1750_z 1 _ (by decide) rfl g1_z
      replace g2_z := s1750_z 2 _ (by decide) rfl g2_z
      clear s1750_z s1751_z
      replace hm_z := rn_iconst (w := 0) (am_cur_of (i := (146, 1, .iconst 0, (0, 0, 0), 0)) (by decide +kernel)) (by decide) hm_z
      replace hm_z := rn_istore (am_cur_of (i := (147, 2, .istore 4, (0, 0, 0), 0)) (by decide +kernel)) hm_z
      obtain ⟨_, s1752_z, s1753_z, g4_z, hm_z⟩ := hm_z
      replace g0_z := s1752_z 0 _ (by decide) rfl g0_z
      replace g1_z := s1752_z 1 _ (by decide) rfl g1_z
      replace g2_z := s1752_z 2 _ (by decide) rfl g2_z
      replace g3_z := s1752_z 3 _ (by decide) rfl g3_z
      clear s1752_z s1753_z
      have H86 := (fk_238_L (r := r) (g' := g') (w := w) (d := d) dp0_z dp1_z nst).2.2.2
      have hh := H86 0 0 _ _ g0_z g3_z g4_z (show 0 ≤ (0 : Int32).toInt ∧ (0 : Int32).toInt ≤ 4 by decide) (show 0 ≤ (0 : Int32).toInt ∧ (0 : Int32).toInt ≤ 4 by decide) (tkm_b bk_r T) hm_z
      exact ⟨bk_t bk_r hh.1, hh.2⟩
  · replace b1736_z : w = (2 : Int32) ∧ w.toInt = (2 : Int32).toInt := b1736_z
    replace hm_z := rn_iconst (w := (-1)) (am_cur_of (i := (5, 1, .iconst (-1), (0, 0, 0), 0)) (by decide +kernel)) (by decide) hm_z
    replace hm_z := rn_istore_n (am_cur_of (i := (6, 1, .istore_n 3, (0, 0, 0), 0)) (by decide +kernel)) hm_z
    obtain ⟨_, s1754_z, s1755_z, g3_z, hm_z⟩ := hm_z
    replace g0_z := s1754_z 0 _ (by decide) rfl g0_z
    replace g1_z := s1754_z 1 _ (by decide) rfl g1_z
    replace g2_z := s1754_z 2 _ (by decide) rfl g2_z
    clear s1754_z s1755_z
    replace hm_z := rn_iconst (w := 0) (am_cur_of (i := (7, 1, .iconst 0, (0, 0, 0), 0)) (by decide +kernel)) (by decide) hm_z
    replace hm_z := rn_istore (am_cur_of (i := (8, 2, .istore 4, (0, 0, 0), 0)) (by decide +kernel)) hm_z
    obtain ⟨_, s1756_z, s1757_z, g4_z, hm_z⟩ := hm_z
    replace g0_z := s1756_z 0 _ (by decide) rfl g0_z
    replace g1_z := s1756_z 1 _ (by decide) rfl g1_z
    replace g2_z := s1756_z 2 _ (by decide) rfl g2_z
    replace g3_z := s1756_z 3 _ (by decide) rfl g3_z
    clear s1756_z s1757_z
    have H7 := (fk_238_L (r := r) (g' := g') (w := w) (d := d) dp0_z dp1_z nst).1
    have hh := H7 (-1) 0 _ _ g0_z g3_z g4_z (show -1 ≤ ((-1) : Int32).toInt ∧ ((-1) : Int32).toInt ≤ 3 by decide) (show 0 ≤ (0 : Int32).toInt ∧ (0 : Int32).toInt ≤ 4 by decide) (tkm_b bk_r T) hm_z
    exact ⟨bk_t bk_r hh.1, hh.2⟩
theorem fk_237_L {r : Option Value} {g' : am_H} {w : Int32}  : ∀ f : Nat, (∀ (v2_z : Int32) (ls : am_L) (g : am_H), am_get ls 0 = some (.ref 164) → am_get ls 1 = some (.int w) → am_get ls 2 = some (.int v2_z) → -1 ≤ v2_z.toInt ∧ v2_z.toInt ≤ 3 → tkm g → rn f am_m237 27 ls [] g r g' → bk g g') := by
  intro f
  induction f with
  | zero =>
    exact (fun _ _ _ _ _ _ _ _ hm_z => absurd hm_z rn_0)
  | succ f ih_z =>
    have I27 := ih_z
    have H27 : ∀ (v2_z : Int32) (ls : am_L) (g : am_H), am_get ls 0 = some (.ref 164) → am_get ls 1 = some (.int w) → am_get ls 2 = some (.int v2_z) → -1 ≤ v2_z.toInt ∧ v2_z.toInt ≤ 3 → tkm g → rn (f + 1) am_m237 27 ls [] g r g' → bk g g' := by
      intro v2_z ls g g0_z g1_z g2_z i2_0 T hm_z
      have z0_z : (0 : Int32).toInt = 0 := by decide
      have cv2_z := fk_c2 (i := v2_z) (by omega)
      replace hm_z := rn_aload_n (am_cur_of (i := (46, 1, .aload_n 0, (0, 0, 0), 0)) (by decide +kernel)) g0_z hm_z
      replace hm_z := rn_getR (x := 188) (am_cur_of (i := (47, 3, .getfield 85, (12, 50, 1434), 0)) (by decide +kernel)) (by decide +kernel) hm_z
      replace hm_z := rn_iconst (w := 1) (am_cur_of (i := (50, 1, .iconst 1, (0, 0, 0), 0)) (by decide +kernel)) (by decide) hm_z
      replace hm_z := rn_iaload (N := 4) (q := 1) (v := rg_v g 188 1) (am_cur_of (i := (51, 1, .iaload, (0, 0, 0), 0)) (by decide +kernel)) (by decide +kernel) rfl rfl hm_z
      obtain ⟨p1758_z, hm_z⟩ := hm_z
      replace hm_z := rn_aload_n (am_cur_of (i := (52, 1, .aload_n 0, (0, 0, 0), 0)) (by decide +kernel)) g0_z hm_z
      replace hm_z := rn_getR (x := 168) (am_cur_of (i := (53, 3, .getfield 24, (12, 23, 1407), 0)) (by decide +kernel)) (by decide +kernel) hm_z
      replace hm_z := rn_iconst (w := 0) (am_cur_of (i := (56, 1, .iconst 0, (0, 0, 0), 0)) (by decide +kernel)) (by decide) hm_z
      replace hm_z := rn_iaload (N := 12) (q := 0) (v := rg_v g 168 0) (am_cur_of (i := (57, 1, .iaload, (0, 0, 0), 0)) (by decide +kernel)) (by decide +kernel) rfl rfl hm_z
      obtain ⟨p1759_z, hm_z⟩ := hm_z
      replace hm_z := rn_cmp (am_cur_of (i := (58, 3, .if_icmp .ge 80, (80, 0, 0), 0)) (by decide +kernel)) hm_z
      rcases hm_z with ⟨b1760_z, hm_z⟩ | ⟨b1760_z, hm_z⟩
      · replace b1760_z : (rg_v g 168 0).toInt ≤ (rg_v g 188 1).toInt := b1760_z
        replace hm_z := rn_aload_n (am_cur_of (i := (138, 1, .aload_n 0, (0, 0, 0), 0)) (by decide +kernel)) g0_z hm_z
        replace hm_z := rn_getR (x := 189) (am_cur_of (i := (139, 3, .getfield 88, (12, 51, 1435), 0)) (by decide +kernel)) (by decide +kernel) hm_z
        replace hm_z := rn_iconst (w := 1) (am_cur_of (i := (142, 1, .iconst 1, (0, 0, 0), 0)) (by decide +kernel)) (by decide) hm_z
        replace hm_z := rn_iaload (N := 4) (q := 1) (v := rg_v g 189 1) (am_cur_of (i := (143, 1, .iaload, (0, 0, 0), 0)) (by decide +kernel)) (by decide +kernel) rfl rfl hm_z
        obtain ⟨p1761_z, hm_z⟩ := hm_z
        replace hm_z := rn_aload_n (am_cur_of (i := (144, 1, .aload_n 0, (0, 0, 0), 0)) (by decide +kernel)) g0_z hm_z
        replace hm_z := rn_getI (v := rg_v g 164 63) (am_cur_of (i := (145, 3, .getfield 447, (12, 63, 1447), 0)) (by decide +kernel)) (by decide +kernel) rfl hm_z
        replace hm_z := rn_isub (w := (rg_v g 189 1) - (rg_v g 164 63)) (am_cur_of (i := (148, 1, .isub, (0, 0, 0), 0)) (by decide +kernel)) rfl hm_z
        replace hm_z := rn_iret (am_cur_of (i := (149, 1, .ireturn, (0, 0, 0), 0)) (by decide +kernel)) hm_z
        obtain ⟨e1762_z, e1763_z⟩ := hm_z
        rw [e1763_z]
        exact bk_r
      · replace b1760_z : (rg_v g 188 1).toInt < (rg_v g 168 0).toInt := b1760_z
        replace hm_z := rn_aload_n (am_cur_of (i := (61, 1, .aload_n 0, (0, 0, 0), 0)) (by decide +kernel)) g0_z hm_z
        replace hm_z := rn_iload_n (am_cur_of (i := (62, 1, .iload_n 1, (0, 0, 0), 0)) (by decide +kernel)) g1_z hm_z
        replace hm_z := rn_iload_n (am_cur_of (i := (63, 1, .iload_n 2, (0, 0, 0), 0)) (by decide +kernel)) g2_z hm_z
        replace hm_z := rn_callV (M' := am_m238) (o := 164) (ar := [.int v2_z, .int w]) (rest := []) (L := lv_args 0 [.ref 164, .int w, .int v2_z]) (am_cur_of (i := (64, 3, .invokevirtual 514, (238, 1983, 3), 0)) (by decide +kernel)) rfl rfl rfl rfl hm_z
        obtain ⟨r1764_z, h1765_z, q1766_z, hm_z⟩ := hm_z
        have k1767_z := fk_238 (show -1 ≤ v2_z.toInt by omega) (show v2_z.toInt ≤ 3 by omega) (tkm_b bk_r T) q1766_z
        obtain ⟨v1768_z, rfl, vlv1768, vhv1768⟩ := k1767_z.2
        replace hm_z : rn _ _ _ _ [.int v1768_z] _ _ _ := hm_z
        replace hm_z := rn_istore_n (am_cur_of (i := (67, 1, .istore_n 3, (0, 0, 0), 0)) (by decide +kernel)) hm_z
        obtain ⟨_, s1769_z, s1770_z, g3_z, hm_z⟩ := hm_z
        replace g0_z := s1769_z 0 _ (by decide) rfl g0_z
        replace g1_z := s1769_z 1 _ (by decide) rfl g1_z
        replace g2_z := s1769_z 2 _ (by decide) rfl g2_z
        clear s1769_z s1770_z
        replace hm_z := rn_iload_n (am_cur_of (i := (68, 1, .iload_n 3, (0, 0, 0), 0)) (by decide +kernel)) g3_z hm_z
        replace hm_z := rn_if (am_cur_of (i := (69, 3, .ifCond .ge 11, (47, 0, 0), 0)) (by decide +kernel)) hm_z
        rcases hm_z with ⟨b1771_z, hm_z⟩ | ⟨b1771_z, hm_z⟩
        · replace b1771_z : (0 : Int32).toInt ≤ v1768_z.toInt := b1771_z
          replace hm_z := rn_aload_n (am_cur_of (i := (80, 1, .aload_n 0, (0, 0, 0), 0)) (by decide +kernel)) g0_z hm_z
          replace hm_z := rn_iload_n (am_cur_of (i := (81, 1, .iload_n 3, (0, 0, 0), 0)) (by decide +kernel)) g3_z hm_z
          replace hm_z := rn_iconst (w := 0) (am_cur_of (i := (82, 1, .iconst 0, (0, 0, 0), 0)) (by decide +kernel)) (by decide) hm_z
          replace hm_z := rn_callV (M' := am_m215) (o := 164) (ar := [.int 0, .int v1768_z]) (rest := []) (L := lv_args 0 [.ref 164, .int v1768_z, .int 0]) (am_cur_of (i := (83, 3, .invokevirtual 460, (215, 1891, 3), 0)) (by decide +kernel)) rfl rfl rfl rfl hm_z
          obtain ⟨r1772_z, h1773_z, q1774_z, hm_z⟩ := hm_z
          have k1775_z := fk_215 (by omega) q1774_z
          obtain ⟨v1776_z, rfl⟩ := rn_ret (M := am_m215) rfl (by decide) q1774_z
          replace hm_z : rn _ _ _ _ [.int v1776_z] _ _ _ := hm_z
          replace hm_z := rn_istore (am_cur_of (i := (86, 2, .istore 4, (0, 0, 0), 0)) (by decide +kernel)) hm_z
          obtain ⟨_, s1777_z, s1778_z, g4_z, hm_z⟩ := hm_z
          replace g0_z := s1777_z 0 _ (by decide) rfl g0_z
          replace g1_z := s1777_z 1 _ (by decide) rfl g1_z
          replace g2_z := s1777_z 2 _ (by decide) rfl g2_z
          replace g3_z := s1777_z 3 _ (by decide) rfl g3_z
          clear s1777_z s1778_z
          replace hm_z := rn_iload (am_cur_of (i := (88, 2, .iload 4, (0, 0, 0), 0)) (by decide +kernel)) g4_z hm_z
          replace hm_z := rn_if (am_cur_of (i := (90, 3, .ifCond .ne 35, (73, 0, 0), 0)) (by decide +kernel)) hm_z
          rcases hm_z with ⟨b1779_z, hm_z⟩ | ⟨b1779_z, hm_z⟩
          · replace b1779_z : ¬ v1776_z = (0 : Int32) ∧ ¬ v1776_z.toInt = (0 : Int32).toInt := b1779_z
            replace hm_z := rn_iload_n (am_cur_of (i := (125, 1, .iload_n 3, (0, 0, 0), 0)) (by decide +kernel)) g3_z hm_z
            replace hm_z := rn_if (am_cur_of (i := (126, 3, .ifCond .ge 7, (77, 0, 0), 0)) (by decide +kernel)) hm_z
            rcases hm_z with ⟨b1780_z, hm_z⟩ | ⟨b1780_z, hm_z⟩
            · replace b1780_z : (0 : Int32).toInt ≤ v1768_z.toInt := b1780_z
              replace hm_z := rn_iload_n (am_cur_of (i := (133, 1, .iload_n 3, (0, 0, 0), 0)) (by decide +kernel)) g3_z hm_z
              replace hm_z := rn_istore_n (am_cur_of (i := (134, 1, .istore_n 2, (0, 0, 0), 0)) (by decide +kernel)) hm_z
              obtain ⟨_, s1781_z, s1782_z, g2_z, hm_z⟩ := hm_z
              replace g0_z := s1781_z 0 _ (by decide) rfl g0_z
              replace g1_z := s1781_z 1 _ (by decide) rfl g1_z
              replace g3_z := s1781_z 3 _ (by decide) rfl g3_z
              replace g4_z := s1781_z 4 _ (by decide) rfl g4_z
              clear s1781_z s1782_z
              replace hm_z := rn_gotoL (am_cur_of (i := (135, 3, .goto (-89), (27, 0, 0), 0)) (by decide +kernel)) hm_z
              exact bk_t (bk_t (bk_t bk_r k1767_z.1) k1775_z) (I27 v1768_z _ _ g0_z g1_z g2_z (show -1 ≤ v1768_z.toInt ∧ v1768_z.toInt ≤ 3 by omega) (tkm_b (bk_t (bk_t bk_r k1767_z.1) k1775_z) T) hm_z)
            · replace b1780_z : v1768_z.toInt < (0 : Int32).toInt := b1780_z
              replace hm_z := rn_iload_n (am_cur_of (i := (129, 1, .iload_n 2, (0, 0, 0), 0)) (by decide +kernel)) g2_z hm_z
              replace hm_z := rn_goto (am_cur_of (i := (130, 3, .goto 4, (78, 0, 0), 0)) (by decide +kernel)) hm_z
              replace hm_z := rn_istore_n (am_cur_of (i := (134, 1, .istore_n 2, (0, 0, 0), 0)) (by decide +kernel)) hm_z
              obtain ⟨_, s1783_z, s1784_z, g2_z, hm_z⟩ := hm_z
              replace g0_z := s1783_z 0 _ (by decide) rfl g0_z
              replace g1_z := s1783_z 1 _ (by decide) rfl g1_z
              replace g3_z := s1783_z 3 _ (by decide) rfl g3_z
              replace g4_z := s1783_z 4 _ (by decide) rfl g4_z
              clear s1783_z s1784_z
              replace hm_z := rn_gotoL (am_cur_of (i := (135, 3, .goto (-89), (27, 0, 0), 0)) (by decide +kernel)) hm_z
              exact bk_t (bk_t (bk_t bk_r k1767_z.1) k1775_z) (I27 v2_z _ _ g0_z g1_z g2_z (show -1 ≤ v2_z.toInt ∧ v2_z.toInt ≤ 3 by omega) (tkm_b (bk_t (bk_t bk_r k1767_z.1) k1775_z) T) hm_z)
          · replace b1779_z : v1776_z = (0 : Int32) ∧ v1776_z.toInt = (0 : Int32).toInt := b1779_z
            replace hm_z := rn_aload_n (am_cur_of (i := (93, 1, .aload_n 0, (0, 0, 0), 0)) (by decide +kernel)) g0_z hm_z
            replace hm_z := rn_getR (x := 188) (am_cur_of (i := (94, 3, .getfield 85, (12, 50, 1434), 0)) (by decide +kernel)) (by decide +kernel) hm_z
            replace hm_z := rn_iconst (w := 1) (am_cur_of (i := (97, 1, .iconst 1, (0, 0, 0), 0)) (by decide +kernel)) (by decide) hm_z
            replace hm_z := rn_iaload (N := 4) (q := 1) (v := rg_v h1773_z 188 1) (am_cur_of (i := (98, 1, .iaload, (0, 0, 0), 0)) (by decide +kernel)) (by decide +kernel) rfl rfl hm_z
            obtain ⟨p1785_z, hm_z⟩ := hm_z
            replace hm_z := rn_aload_n (am_cur_of (i := (99, 1, .aload_n 0, (0, 0, 0), 0)) (by decide +kernel)) g0_z hm_z
            replace hm_z := rn_getR (x := 168) (am_cur_of (i := (100, 3, .getfield 24, (12, 23, 1407), 0)) (by decide +kernel)) (by decide +kernel) hm_z
            replace hm_z := rn_iconst (w := 0) (am_cur_of (i := (103, 1, .iconst 0, (0, 0, 0), 0)) (by decide +kernel)) (by decide) hm_z
            replace hm_z := rn_iaload (N := 12) (q := 0) (v := rg_v h1773_z 168 0) (am_cur_of (i := (104, 1, .iaload, (0, 0, 0), 0)) (by decide +kernel)) (by decide +kernel) rfl rfl hm_z
            obtain ⟨p1786_z, hm_z⟩ := hm_z
            replace hm_z := rn_cmp (am_cur_of (i := (105, 3, .if_icmp .lt 17, (71, 0, 0), 0)) (by decide +kernel)) hm_z
            rcases hm_z with ⟨b1787_z, hm_z⟩ | ⟨b1787_z, hm_z⟩
            · replace b1787_z : (rg_v h1773_z 188 1).toInt < (rg_v h1773_z 168 0).toInt := b1787_z
              replace hm_z := rn_bipush (w := (-2)) (am_cur_of (i := (122, 2, .bipush (-2), (0, 0, 0), 0)) (by decide +kernel)) (by decide) hm_z
              replace hm_z := rn_iret (am_cur_of (i := (124, 1, .ireturn, (0, 0, 0), 0)) (by decide +kernel)) hm_z
              obtain ⟨e1788_z, e1789_z⟩ := hm_z
              rw [e1789_z]
              exact (bk_t (bk_t bk_r k1767_z.1) k1775_z)
            · replace b1787_z : (rg_v h1773_z 168 0).toInt ≤ (rg_v h1773_z 188 1).toInt := b1787_z
              replace hm_z := rn_aload_n (am_cur_of (i := (108, 1, .aload_n 0, (0, 0, 0), 0)) (by decide +kernel)) g0_z hm_z
              replace hm_z := rn_getR (x := 189) (am_cur_of (i := (109, 3, .getfield 88, (12, 51, 1435), 0)) (by decide +kernel)) (by decide +kernel) hm_z
              replace hm_z := rn_iconst (w := 1) (am_cur_of (i := (112, 1, .iconst 1, (0, 0, 0), 0)) (by decide +kernel)) (by decide) hm_z
              replace hm_z := rn_iaload (N := 4) (q := 1) (v := rg_v h1773_z 189 1) (am_cur_of (i := (113, 1, .iaload, (0, 0, 0), 0)) (by decide +kernel)) (by decide +kernel) rfl rfl hm_z
              obtain ⟨p1790_z, hm_z⟩ := hm_z
              replace hm_z := rn_aload_n (am_cur_of (i := (114, 1, .aload_n 0, (0, 0, 0), 0)) (by decide +kernel)) g0_z hm_z
              replace hm_z := rn_getI (v := rg_v h1773_z 164 63) (am_cur_of (i := (115, 3, .getfield 447, (12, 63, 1447), 0)) (by decide +kernel)) (by decide +kernel) rfl hm_z
              replace hm_z := rn_isub (w := (rg_v h1773_z 189 1) - (rg_v h1773_z 164 63)) (am_cur_of (i := (118, 1, .isub, (0, 0, 0), 0)) (by decide +kernel)) rfl hm_z
              replace hm_z := rn_goto (am_cur_of (i := (119, 3, .goto 5, (72, 0, 0), 0)) (by decide +kernel)) hm_z
              replace hm_z := rn_iret (am_cur_of (i := (124, 1, .ireturn, (0, 0, 0), 0)) (by decide +kernel)) hm_z
              obtain ⟨e1791_z, e1792_z⟩ := hm_z
              rw [e1792_z]
              exact (bk_t (bk_t bk_r k1767_z.1) k1775_z)
        · replace b1771_z : v1768_z.toInt < (0 : Int32).toInt := b1771_z
          replace hm_z := rn_aload_n (am_cur_of (i := (72, 1, .aload_n 0, (0, 0, 0), 0)) (by decide +kernel)) g0_z hm_z
          replace hm_z := rn_iconst (w := 0) (am_cur_of (i := (73, 1, .iconst 0, (0, 0, 0), 0)) (by decide +kernel)) (by decide) hm_z
          replace hm_z := rn_callV (M' := am_m216) (o := 164) (ar := [.int 0]) (rest := []) (L := lv_args 0 [.ref 164, .int 0]) (am_cur_of (i := (74, 3, .invokevirtual 450, (216, 1895, 3), 0)) (by decide +kernel)) rfl rfl rfl rfl hm_z
          obtain ⟨r1793_z, h1794_z, q1795_z, hm_z⟩ := hm_z
          have k1796_z := fk_216 q1795_z
          obtain ⟨v1797_z, rfl⟩ := rn_ret (M := am_m216) rfl (by decide) q1795_z
          replace hm_z : rn _ _ _ _ [.int v1797_z] _ _ _ := hm_z
          replace hm_z := rn_goto (am_cur_of (i := (77, 3, .goto 9, (51, 0, 0), 0)) (by decide +kernel)) hm_z
          replace hm_z := rn_istore (am_cur_of (i := (86, 2, .istore 4, (0, 0, 0), 0)) (by decide +kernel)) hm_z
          obtain ⟨_, s1798_z, s1799_z, g4_z, hm_z⟩ := hm_z
          replace g0_z := s1798_z 0 _ (by decide) rfl g0_z
          replace g1_z := s1798_z 1 _ (by decide) rfl g1_z
          replace g2_z := s1798_z 2 _ (by decide) rfl g2_z
          replace g3_z := s1798_z 3 _ (by decide) rfl g3_z
          clear s1798_z s1799_z
          replace hm_z := rn_iload (am_cur_of (i := (88, 2, .iload 4, (0, 0, 0), 0)) (by decide +kernel)) g4_z hm_z
          replace hm_z := rn_if (am_cur_of (i := (90, 3, .ifCond .ne 35, (73, 0, 0), 0)) (by decide +kernel)) hm_z
          rcases hm_z with ⟨b1800_z, hm_z⟩ | ⟨b1800_z, hm_z⟩
          · replace b1800_z : ¬ v1797_z = (0 : Int32) ∧ ¬ v1797_z.toInt = (0 : Int32).toInt := b1800_z
            replace hm_z := rn_iload_n (am_cur_of (i := (125, 1, .iload_n 3, (0, 0, 0), 0)) (by decide +kernel)) g3_z hm_z
            replace hm_z := rn_if (am_cur_of (i := (126, 3, .ifCond .ge 7, (77, 0, 0), 0)) (by decide +kernel)) hm_z
            rcases hm_z with ⟨b1801_z, hm_z⟩ | ⟨b1801_z, hm_z⟩
            · replace b1801_z : (0 : Int32).toInt ≤ v1768_z.toInt := b1801_z
              replace hm_z := rn_iload_n (am_cur_of (i := (133, 1, .iload_n 3, (0, 0, 0), 0)) (by decide +kernel)) g3_z hm_z
              replace hm_z := rn_istore_n (am_cur_of (i := (134, 1, .istore_n 2, (0, 0, 0), 0)) (by decide +kernel)) hm_z
              obtain ⟨_, s1802_z, s1803_z, g2_z, hm_z⟩ := hm_z
              replace g0_z := s1802_z 0 _ (by decide) rfl g0_z
              replace g1_z := s1802_z 1 _ (by decide) rfl g1_z
              replace g3_z := s1802_z 3 _ (by decide) rfl g3_z
              replace g4_z := s1802_z 4 _ (by decide) rfl g4_z
              clear s1802_z s1803_z
              replace hm_z := rn_gotoL (am_cur_of (i := (135, 3, .goto (-89), (27, 0, 0), 0)) (by decide +kernel)) hm_z
              exact bk_t (bk_t (bk_t bk_r k1767_z.1) k1796_z) (I27 v1768_z _ _ g0_z g1_z g2_z (show -1 ≤ v1768_z.toInt ∧ v1768_z.toInt ≤ 3 by omega) (tkm_b (bk_t (bk_t bk_r k1767_z.1) k1796_z) T) hm_z)
            · replace b1801_z : v1768_z.toInt < (0 : Int32).toInt := b1801_z
              replace hm_z := rn_iload_n (am_cur_of (i := (129, 1, .iload_n 2, (0, 0, 0), 0)) (by decide +kernel)) g2_z hm_z
              replace hm_z := rn_goto (am_cur_of (i := (130, 3, .goto 4, (78, 0, 0), 0)) (by decide +kernel)) hm_z
              replace hm_z := rn_istore_n (am_cur_of (i := (134, 1, .istore_n 2, (0, 0, 0), 0)) (by decide +kernel)) hm_z
              obtain ⟨_, s1804_z, s1805_z, g2_z, hm_z⟩ := hm_z
              replace g0_z := s1804_z 0 _ (by decide) rfl g0_z
              replace g1_z := s1804_z 1 _ (by decide) rfl g1_z
              replace g3_z := s1804_z 3 _ (by decide) rfl g3_z
              replace g4_z := s1804_z 4 _ (by decide) rfl g4_z
              clear s1804_z s1805_z
              replace hm_z := rn_gotoL (am_cur_of (i := (135, 3, .goto (-89), (27, 0, 0), 0)) (by decide +kernel)) hm_z
              exact bk_t (bk_t (bk_t bk_r k1767_z.1) k1796_z) (I27 v2_z _ _ g0_z g1_z g2_z (show -1 ≤ v2_z.toInt ∧ v2_z.toInt ≤ 3 by omega) (tkm_b (bk_t (bk_t bk_r k1767_z.1) k1796_z) T) hm_z)
          · replace b1800_z : v1797_z = (0 : Int32) ∧ v1797_z.toInt = (0 : Int32).toInt := b1800_z
            replace hm_z := rn_aload_n (am_cur_of (i := (93, 1, .aload_n 0, (0, 0, 0), 0)) (by decide +kernel)) g0_z hm_z
            replace hm_z := rn_getR (x := 188) (am_cur_of (i := (94, 3, .getfield 85, (12, 50, 1434), 0)) (by decide +kernel)) (by decide +kernel) hm_z
            replace hm_z := rn_iconst (w := 1) (am_cur_of (i := (97, 1, .iconst 1, (0, 0, 0), 0)) (by decide +kernel)) (by decide) hm_z
            replace hm_z := rn_iaload (N := 4) (q := 1) (v := rg_v h1794_z 188 1) (am_cur_of (i := (98, 1, .iaload, (0, 0, 0), 0)) (by decide +kernel)) (by decide +kernel) rfl rfl hm_z
            obtain ⟨p1806_z, hm_z⟩ := hm_z
            replace hm_z := rn_aload_n (am_cur_of (i := (99, 1, .aload_n 0, (0, 0, 0), 0)) (by decide +kernel)) g0_z hm_z
            replace hm_z := rn_getR (x := 168) (am_cur_of (i := (100, 3, .getfield 24, (12, 23, 1407), 0)) (by decide +kernel)) (by decide +kernel) hm_z
            replace hm_z := rn_iconst (w := 0) (am_cur_of (i := (103, 1, .iconst 0, (0, 0, 0), 0)) (by decide +kernel)) (by decide) hm_z
            replace hm_z := rn_iaload (N := 12) (q := 0) (v := rg_v h1794_z 168 0) (am_cur_of (i := (104, 1, .iaload, (0, 0, 0), 0)) (by decide +kernel)) (by decide +kernel) rfl rfl hm_z
            obtain ⟨p1807_z, hm_z⟩ := hm_z
            replace hm_z := rn_cmp (am_cur_of (i := (105, 3, .if_icmp .lt 17, (71, 0, 0), 0)) (by decide +kernel)) hm_z
            rcases hm_z with ⟨b1808_z, hm_z⟩ | ⟨b1808_z, hm_z⟩
            · replace b1808_z : (rg_v h1794_z 188 1).toInt < (rg_v h1794_z 168 0).toInt := b1808_z
              replace hm_z := rn_bipush (w := (-2)) (am_cur_of (i := (122, 2, .bipush (-2), (0, 0, 0), 0)) (by decide +kernel)) (by decide) hm_z
              replace hm_z := rn_iret (am_cur_of (i := (124, 1, .ireturn, (0, 0, 0), 0)) (by decide +kernel)) hm_z
              obtain ⟨e1809_z, e1810_z⟩ := hm_z
              rw [e1810_z]
              exact (bk_t (bk_t bk_r k1767_z.1) k1796_z)
            · replace b1808_z : (rg_v h1794_z 168 0).toInt ≤ (rg_v h1794_z 188 1).toInt := b1808_z
              replace hm_z := rn_aload_n (am_cur_of (i := (108, 1, .aload_n 0, (0, 0, 0), 0)) (by decide +kernel)) g0_z hm_z
              replace hm_z := rn_getR (x := 189) (am_cur_of (i := (109, 3, .getfield 88, (12, 51, 1435), 0)) (by decide +kernel)) (by decide +kernel) hm_z
              replace hm_z := rn_iconst (w := 1) (am_cur_of (i := (112, 1, .iconst 1, (0, 0, 0), 0)) (by decide +kernel)) (by decide) hm_z
              replace hm_z := rn_iaload (N := 4) (q := 1) (v := rg_v h1794_z 189 1) (am_cur_of (i := (113, 1, .iaload, (0, 0, 0), 0)) (by decide +kernel)) (by decide +kernel) rfl rfl hm_z
              obtain ⟨p1811_z, hm_z⟩ := hm_z
              replace hm_z := rn_aload_n (am_cur_of (i := (114, 1, .aload_n 0, (0, 0, 0), 0)) (by decide +kernel)) g0_z hm_z
              replace hm_z := rn_getI (v := rg_v h1794_z 164 63) (am_cur_of (i := (115, 3, .getfield 447, (12, 63, 1447), 0)) (by decide +kernel)) (by decide +kernel) rfl hm_z
              replace hm_z := rn_isub (w := (rg_v h1794_z 189 1) - (rg_v h1794_z 164 63)) (am_cur_of (i := (118, 1, .isub, (0, 0, 0), 0)) (by decide +kernel)) rfl hm_z
              replace hm_z := rn_goto (am_cur_of (i := (119, 3, .goto 5, (72, 0, 0), 0)) (by decide +kernel)) hm_z
              replace hm_z := rn_iret (am_cur_of (i := (124, 1, .ireturn, (0, 0, 0), 0)) (by decide +kernel)) hm_z
              obtain ⟨e1812_z, e1813_z⟩ := hm_z
              rw [e1813_z]
              exact (bk_t (bk_t bk_r k1767_z.1) k1796_z)
    exact H27
theorem fk_237 {nst : Nat} {r : Option Value} {g g' : am_H} {w : Int32}  (T : tkm g) (hm_z : rn nst am_m237 0 (lv_args 0 [.ref 164, .int w]) [] g r g') : bk g g' := by
  have z0_z : (0 : Int32).toInt = 0 := by decide
  have g0_z : am_get (lv_args 0 [.ref 164, .int w]) 0 = some (.ref 164) := rfl
  have g1_z : am_get (lv_args 0 [.ref 164, .int w]) 1 = some (.int w) := rfl
  replace hm_z := rn_iload_n (am_cur_of (i := (0, 1, .iload_n 1, (0, 0, 0), 0)) (by decide +kernel)) g1_z hm_z
  replace hm_z := rn_if (am_cur_of (i := (1, 3, .ifCond .ne 27, (15, 0, 0), 0)) (by decide +kernel)) hm_z
  rcases hm_z with ⟨b1814_z, hm_z⟩ | ⟨b1814_z, hm_z⟩
  · replace b1814_z : ¬ w = (0 : Int32) ∧ ¬ w.toInt = (0 : Int32).toInt := b1814_z
    replace hm_z := rn_aload_n (am_cur_of (i := (28, 1, .aload_n 0, (0, 0, 0), 0)) (by decide +kernel)) g0_z hm_z
    replace hm_z := rn_iconst (w := 1) (am_cur_of (i := (29, 1, .iconst 1, (0, 0, 0), 0)) (by decide +kernel)) (by decide) hm_z
    replace hm_z := rn_iconst (w := 0) (am_cur_of (i := (30, 1, .iconst 0, (0, 0, 0), 0)) (by decide +kernel)) (by decide) hm_z
    replace hm_z := rn_callV (M' := am_m197) (o := 164) (ar := [.int 0, .int 1]) (rest := []) (L := lv_args 0 [.ref 164, .int 1, .int 0]) (am_cur_of (i := (31, 3, .invokevirtual 428, (197, 1820, 3), 0)) (by decide +kernel)) rfl rfl rfl rfl hm_z
    obtain ⟨r1815_z, h1816_z, q1817_z, hm_z⟩ := hm_z
    have k1818_z := fk_197_1_0 q1817_z
    have vo := rn_void rfl q1817_z
    subst vo
    replace hm_z : rn _ _ _ _ [] _ _ _ := hm_z
    replace hm_z := rn_aload_n (am_cur_of (i := (34, 1, .aload_n 0, (0, 0, 0), 0)) (by decide +kernel)) g0_z hm_z
    replace hm_z := rn_aload_n (am_cur_of (i := (35, 1, .aload_n 0, (0, 0, 0), 0)) (by decide +kernel)) g0_z hm_z
    replace hm_z := rn_getR (x := 189) (am_cur_of (i := (36, 3, .getfield 88, (12, 51, 1435), 0)) (by decide +kernel)) (by decide +kernel) hm_z
    replace hm_z := rn_iconst (w := 0) (am_cur_of (i := (39, 1, .iconst 0, (0, 0, 0), 0)) (by decide +kernel)) (by decide) hm_z
    replace hm_z := rn_iaload (N := 4) (q := 0) (v := rg_v h1816_z 189 0) (am_cur_of (i := (40, 1, .iaload, (0, 0, 0), 0)) (by decide +kernel)) (by decide +kernel) rfl rfl hm_z
    obtain ⟨p1819_z, hm_z⟩ := hm_z
    replace hm_z := rn_put (am_cur_of (i := (41, 3, .putfield 447, (12, 63, 1447), 0)) (by decide +kernel)) (by decide +kernel) hm_z
    replace hm_z := rn_iconst (w := (-1)) (am_cur_of (i := (44, 1, .iconst (-1), (0, 0, 0), 0)) (by decide +kernel)) (by decide) hm_z
    replace hm_z := rn_istore_n (am_cur_of (i := (45, 1, .istore_n 2, (0, 0, 0), 0)) (by decide +kernel)) hm_z
    obtain ⟨_, s1820_z, s1821_z, g2_z, hm_z⟩ := hm_z
    replace g0_z := s1820_z 0 _ (by decide) rfl g0_z
    replace g1_z := s1820_z 1 _ (by decide) rfl g1_z
    clear s1820_z s1821_z
    have H27 := (fk_237_L (r := r) (g' := g') (w := w)  nst)
    exact bk_t (bk_u (by decide) (bk_t bk_r k1818_z)) (H27 (-1) _ _ g0_z g1_z g2_z (show -1 ≤ ((-1) : Int32).toInt ∧ ((-1) : Int32).toInt ≤ 3 by decide) (tkm_b (bk_u (by decide) (bk_t bk_r k1818_z)) T) hm_z)
  · replace b1814_z : w = (0 : Int32) ∧ w.toInt = (0 : Int32).toInt := b1814_z
    replace hm_z := rn_aload_n (am_cur_of (i := (4, 1, .aload_n 0, (0, 0, 0), 0)) (by decide +kernel)) g0_z hm_z
    replace hm_z := rn_callV (M' := am_m214) (o := 164) (ar := []) (rest := []) (L := lv_args 0 [.ref 164]) (am_cur_of (i := (5, 3, .invokevirtual 464, (214, 1887, 3), 0)) (by decide +kernel)) rfl rfl rfl rfl hm_z
    obtain ⟨r1822_z, h1823_z, q1824_z, hm_z⟩ := hm_z
    have k1825_z := fk_214 (tkm_b bk_r T) q1824_z
    obtain ⟨v1826_z, rfl⟩ := rn_ret (M := am_m214) rfl (by decide) q1824_z
    replace hm_z : rn _ _ _ _ [.int v1826_z] _ _ _ := hm_z
    replace hm_z := rn_if (am_cur_of (i := (8, 3, .ifCond .eq 17, (13, 0, 0), 0)) (by decide +kernel)) hm_z
    rcases hm_z with ⟨b1827_z, hm_z⟩ | ⟨b1827_z, hm_z⟩
    · replace b1827_z : v1826_z = (0 : Int32) ∧ v1826_z.toInt = (0 : Int32).toInt := b1827_z
      replace hm_z := rn_bipush (w := (-2)) (am_cur_of (i := (25, 2, .bipush (-2), (0, 0, 0), 0)) (by decide +kernel)) (by decide) hm_z
      replace hm_z := rn_iret (am_cur_of (i := (27, 1, .ireturn, (0, 0, 0), 0)) (by decide +kernel)) hm_z
      obtain ⟨e1828_z, e1829_z⟩ := hm_z
      rw [e1829_z]
      exact (bk_t bk_r k1825_z)
    · replace b1827_z : ¬ v1826_z = (0 : Int32) ∧ ¬ v1826_z.toInt = (0 : Int32).toInt := b1827_z
      replace hm_z := rn_aload_n (am_cur_of (i := (11, 1, .aload_n 0, (0, 0, 0), 0)) (by decide +kernel)) g0_z hm_z
      replace hm_z := rn_getR (x := 189) (am_cur_of (i := (12, 3, .getfield 88, (12, 51, 1435), 0)) (by decide +kernel)) (by decide +kernel) hm_z
      replace hm_z := rn_iconst (w := 1) (am_cur_of (i := (15, 1, .iconst 1, (0, 0, 0), 0)) (by decide +kernel)) (by decide) hm_z
      replace hm_z := rn_iaload (N := 4) (q := 1) (v := rg_v h1823_z 189 1) (am_cur_of (i := (16, 1, .iaload, (0, 0, 0), 0)) (by decide +kernel)) (by decide +kernel) rfl rfl hm_z
      obtain ⟨p1830_z, hm_z⟩ := hm_z
      replace hm_z := rn_aload_n (am_cur_of (i := (17, 1, .aload_n 0, (0, 0, 0), 0)) (by decide +kernel)) g0_z hm_z
      replace hm_z := rn_getI (v := rg_v h1823_z 164 63) (am_cur_of (i := (18, 3, .getfield 447, (12, 63, 1447), 0)) (by decide +kernel)) (by decide +kernel) rfl hm_z
      replace hm_z := rn_isub (w := (rg_v h1823_z 189 1) - (rg_v h1823_z 164 63)) (am_cur_of (i := (21, 1, .isub, (0, 0, 0), 0)) (by decide +kernel)) rfl hm_z
      replace hm_z := rn_goto (am_cur_of (i := (22, 3, .goto 5, (14, 0, 0), 0)) (by decide +kernel)) hm_z
      replace hm_z := rn_iret (am_cur_of (i := (27, 1, .ireturn, (0, 0, 0), 0)) (by decide +kernel)) hm_z
      obtain ⟨e1831_z, e1832_z⟩ := hm_z
      rw [e1832_z]
      exact (bk_t bk_r k1825_z)
theorem fk_236_L {r : Option Value} {g' : am_H} {w : Int32}  : ∀ f : Nat, (∀ (ls : am_L) (g : am_H), tkm g → rn f am_m236 16 ls [] g r g' → bk g g') ∧ (∀ (ls : am_L) (g : am_H), am_get ls 0 = some (.ref 164) → am_get ls 1 = some (.int w) → tkm g → rn f am_m236 18 ls [] g r g' → bk g g') := by
  intro f
  induction f with
  | zero =>
    exact ⟨fun _ _ _ hm_z => absurd hm_z rn_0, fun _ _ _ _ _ hm_z => absurd hm_z rn_0⟩
  | succ f ih_z =>
    obtain ⟨I16, I18⟩ := ih_z
    have H18 : ∀ (ls : am_L) (g : am_H), am_get ls 0 = some (.ref 164) → am_get ls 1 = some (.int w) → tkm g → rn (f + 1) am_m236 18 ls [] g r g' → bk g g' := by
      intro ls g g0_z g1_z T hm_z
      replace hm_z := rn_aload_n (am_cur_of (i := (34, 1, .aload_n 0, (0, 0, 0), 0)) (by decide +kernel)) g0_z hm_z
      replace hm_z := rn_iload_n (am_cur_of (i := (35, 1, .iload_n 1, (0, 0, 0), 0)) (by decide +kernel)) g1_z hm_z
      replace hm_z := rn_callV (M' := am_m237) (o := 164) (ar := [.int w]) (rest := []) (L := lv_args 0 [.ref 164, .int w]) (am_cur_of (i := (36, 3, .invokevirtual 517, (237, 1979, 3), 0)) (by decide +kernel)) rfl rfl rfl rfl hm_z
      obtain ⟨r1833_z, h1834_z, q1835_z, hm_z⟩ := hm_z
      have k1836_z := fk_237 (tkm_b bk_r T) q1835_z
      obtain ⟨v1837_z, rfl⟩ := rn_ret (M := am_m237) rfl (by decide) q1835_z
      replace hm_z : rn _ _ _ _ [.int v1837_z] _ _ _ := hm_z
      replace hm_z := rn_iret (am_cur_of (i := (39, 1, .ireturn, (0, 0, 0), 0)) (by decide +kernel)) hm_z
      obtain ⟨e1838_z, e1839_z⟩ := hm_z
      rw [e1839_z]
      exact (bk_t bk_r k1836_z)
    have H16 : ∀ (ls : am_L) (g : am_H), tkm g → rn (f + 1) am_m236 16 ls [] g r g' → bk g g' := by
      intro ls g T hm_z
      replace hm_z := rn_iconst (w := (-1)) (am_cur_of (i := (32, 1, .iconst (-1), (0, 0, 0), 0)) (by decide +kernel)) (by decide) hm_z
      replace hm_z := rn_iret (am_cur_of (i := (33, 1, .ireturn, (0, 0, 0), 0)) (by decide +kernel)) hm_z
      obtain ⟨e1840_z, e1841_z⟩ := hm_z
      rw [e1841_z]
      exact bk_r
    exact ⟨H16, H18⟩
theorem fk_236 {nst : Nat} {r : Option Value} {g g' : am_H} {w : Int32}  (T : tkm g) (hm_z : rn nst am_m236 0 (lv_args 0 [.ref 164, .int w]) [] g r g') : bk g g' := by
  have z0_z : (0 : Int32).toInt = 0 := by decide
  have g0_z : am_get (lv_args 0 [.ref 164, .int w]) 0 = some (.ref 164) := rfl
  have g1_z : am_get (lv_args 0 [.ref 164, .int w]) 1 = some (.int w) := rfl
  replace hm_z := rn_aload_n (am_cur_of (i := (0, 1, .aload_n 0, (0, 0, 0), 0)) (by decide +kernel)) g0_z hm_z
  replace hm_z := rn_iconst (w := 0) (am_cur_of (i := (1, 1, .iconst 0, (0, 0, 0), 0)) (by decide +kernel)) (by decide) hm_z
  replace hm_z := rn_put (am_cur_of (i := (2, 3, .putfield 139, (12, 2, 1386), 0)) (by decide +kernel)) (by decide +kernel) hm_z
  replace hm_z := rn_iload_n (am_cur_of (i := (5, 1, .iload_n 1, (0, 0, 0), 0)) (by decide +kernel)) g1_z hm_z
  replace hm_z := rn_iconst (w := 0) (am_cur_of (i := (6, 1, .iconst 0, (0, 0, 0), 0)) (by decide +kernel)) (by decide) hm_z
  replace hm_z := rn_iconst (w := 3) (am_cur_of (i := (7, 1, .iconst 3, (0, 0, 0), 0)) (by decide +kernel)) (by decide) hm_z
  replace hm_z := rn_callS (M' := am_m162) (ar := [.int 3, .int 0, .int w]) (rest := []) (L := lv_args 0 [.int w, .int 0, .int 3]) (am_cur_of (i := (8, 3, .invokestatic 184, (162, 1681, 3), 0)) (by decide +kernel)) rfl rfl rfl rfl hm_z
  obtain ⟨r1842_z, h1843_z, q1844_z, hm_z⟩ := hm_z
  have k1845_z := nq_162 q1844_z
  obtain ⟨v1846_z, rfl⟩ := rn_ret (M := am_m162) rfl (by decide) q1844_z
  replace hm_z : rn _ _ _ _ [.int v1846_z] _ _ _ := hm_z
  replace hm_z := rn_if (am_cur_of (i := (11, 3, .ifCond .eq 21, (16, 0, 0), 0)) (by decide +kernel)) hm_z
  rcases hm_z with ⟨b1847_z, hm_z⟩ | ⟨b1847_z, hm_z⟩
  · replace b1847_z : v1846_z = (0 : Int32) ∧ v1846_z.toInt = (0 : Int32).toInt := b1847_z
    have H16 := (fk_236_L (r := r) (g' := g') (w := w)  nst).1
    exact bk_t (bk_t (bk_u (by decide) bk_r) (bk_n k1845_z)) (H16 _ _ (tkm_b (bk_t (bk_u (by decide) bk_r) (bk_n k1845_z)) T) hm_z)
  · replace b1847_z : ¬ v1846_z = (0 : Int32) ∧ ¬ v1846_z.toInt = (0 : Int32).toInt := b1847_z
    replace hm_z := rn_aload_n (am_cur_of (i := (14, 1, .aload_n 0, (0, 0, 0), 0)) (by decide +kernel)) g0_z hm_z
    replace hm_z := rn_getI (v := rg_v h1843_z 164 12) (am_cur_of (i := (15, 3, .getfield 219, (12, 12, 1396), 0)) (by decide +kernel)) (by decide +kernel) rfl hm_z
    replace hm_z := rn_if (am_cur_of (i := (18, 3, .ifCond .eq 14, (16, 0, 0), 0)) (by decide +kernel)) hm_z
    rcases hm_z with ⟨b1848_z, hm_z⟩ | ⟨b1848_z, hm_z⟩
    · replace b1848_z : (rg_v h1843_z 164 12) = (0 : Int32) ∧ (rg_v h1843_z 164 12).toInt = (0 : Int32).toInt := b1848_z
      have H16 := (fk_236_L (r := r) (g' := g') (w := w)  nst).1
      exact bk_t (bk_t (bk_u (by decide) bk_r) (bk_n k1845_z)) (H16 _ _ (tkm_b (bk_t (bk_u (by decide) bk_r) (bk_n k1845_z)) T) hm_z)
    · replace b1848_z : ¬ (rg_v h1843_z 164 12) = (0 : Int32) ∧ ¬ (rg_v h1843_z 164 12).toInt = (0 : Int32).toInt := b1848_z
      replace hm_z := rn_iload_n (am_cur_of (i := (21, 1, .iload_n 1, (0, 0, 0), 0)) (by decide +kernel)) g1_z hm_z
      replace hm_z := rn_if (am_cur_of (i := (22, 3, .ifCond .ne 12, (18, 0, 0), 0)) (by decide +kernel)) hm_z
      rcases hm_z with ⟨b1849_z, hm_z⟩ | ⟨b1849_z, hm_z⟩
      · replace b1849_z : ¬ w = (0 : Int32) ∧ ¬ w.toInt = (0 : Int32).toInt := b1849_z
        have H18 := (fk_236_L (r := r) (g' := g') (w := w)  nst).2
        exact bk_t (bk_t (bk_u (by decide) bk_r) (bk_n k1845_z)) (H18 _ _ g0_z g1_z (tkm_b (bk_t (bk_u (by decide) bk_r) (bk_n k1845_z)) T) hm_z)
      · replace b1849_z : w = (0 : Int32) ∧ w.toInt = (0 : Int32).toInt := b1849_z
        replace hm_z := rn_aload_n (am_cur_of (i := (25, 1, .aload_n 0, (0, 0, 0), 0)) (by decide +kernel)) g0_z hm_z
        replace hm_z := rn_getI (v := rg_v h1843_z 164 13) (am_cur_of (i := (26, 3, .getfield 222, (12, 13, 1397), 0)) (by decide +kernel)) (by decide +kernel) rfl hm_z
        replace hm_z := rn_if (am_cur_of (i := (29, 3, .ifCond .ne 5, (18, 0, 0), 0)) (by decide +kernel)) hm_z
        rcases hm_z with ⟨b1850_z, hm_z⟩ | ⟨b1850_z, hm_z⟩
        · replace b1850_z : ¬ (rg_v h1843_z 164 13) = (0 : Int32) ∧ ¬ (rg_v h1843_z 164 13).toInt = (0 : Int32).toInt := b1850_z
          have H18 := (fk_236_L (r := r) (g' := g') (w := w)  nst).2
          exact bk_t (bk_t (bk_u (by decide) bk_r) (bk_n k1845_z)) (H18 _ _ g0_z g1_z (tkm_b (bk_t (bk_u (by decide) bk_r) (bk_n k1845_z)) T) hm_z)
        · replace b1850_z : (rg_v h1843_z 164 13) = (0 : Int32) ∧ (rg_v h1843_z 164 13).toInt = (0 : Int32).toInt := b1850_z
          have H16 := (fk_236_L (r := r) (g' := g') (w := w)  nst).1
          exact bk_t (bk_t (bk_u (by decide) bk_r) (bk_n k1845_z)) (H16 _ _ (tkm_b (bk_t (bk_u (by decide) bk_r) (bk_n k1845_z)) T) hm_z)
theorem fk_239_L {r : Option Value} {g' : am_H}  : ∀ f : Nat, (∀ (v1_z : Int32) (v2_z : Int32) (v3_z : Int32) (ls : am_L) (g : am_H), am_get ls 0 = some (.ref 164) → am_get ls 1 = some (.int v1_z) → am_get ls 2 = some (.int v2_z) → am_get ls 3 = some (.int v3_z) → tkm g → rn f am_m239 19 ls [] g r g' → bk g g') ∧ (∀ (v3_z : Int32) (v4_z : Int32) (ls : am_L) (g : am_H), am_get ls 0 = some (.ref 164) → am_get ls 3 = some (.int v3_z) → am_get ls 4 = some (.int v4_z) → tkm g → rn f am_m239 34 ls [] g r g' → bk g g') ∧ (∀ (v1_z : Int32) (v2_z : Int32) (v3_z : Int32) (ls : am_L) (g : am_H), am_get ls 0 = some (.ref 164) → am_get ls 1 = some (.int v1_z) → am_get ls 2 = some (.int v2_z) → am_get ls 3 = some (.int v3_z) → tkm g → rn f am_m239 38 ls [] g r g' → bk g g') := by
  intro f
  induction f with
  | zero =>
    exact ⟨fun _ _ _ _ _ _ _ _ _ _ hm_z => absurd hm_z rn_0, fun _ _ _ _ _ _ _ _ hm_z => absurd hm_z rn_0, fun _ _ _ _ _ _ _ _ _ _ hm_z => absurd hm_z rn_0⟩
  | succ f ih_z =>
    obtain ⟨I19, I34, I38⟩ := ih_z
    have H38 : ∀ (v1_z : Int32) (v2_z : Int32) (v3_z : Int32) (ls : am_L) (g : am_H), am_get ls 0 = some (.ref 164) → am_get ls 1 = some (.int v1_z) → am_get ls 2 = some (.int v2_z) → am_get ls 3 = some (.int v3_z) → tkm g → rn (f + 1) am_m239 38 ls [] g r g' → bk g g' := by
      intro v1_z v2_z v3_z ls g g0_z g1_z g2_z g3_z T hm_z
      replace hm_z := rn_iinc (w := v3_z + 1) (am_cur_of (i := (67, 3, .iinc 3 1, (0, 0, 0), 0)) (by decide +kernel)) g3_z rfl hm_z
      obtain ⟨_, s1851_z, s1852_z, g3_z, hm_z⟩ := hm_z
      replace g0_z := s1851_z 0 _ (by decide) rfl g0_z
      replace g1_z := s1851_z 1 _ (by decide) rfl g1_z
      replace g2_z := s1851_z 2 _ (by decide) rfl g2_z
      clear s1851_z s1852_z
      replace hm_z := rn_gotoL (am_cur_of (i := (70, 3, .goto (-38), (19, 0, 0), 0)) (by decide +kernel)) hm_z
      exact bk_t bk_r (I19 v1_z v2_z (v3_z + 1) _ _ g0_z g1_z g2_z g3_z (tkm_b bk_r T) hm_z)
    have H34 : ∀ (v3_z : Int32) (v4_z : Int32) (ls : am_L) (g : am_H), am_get ls 0 = some (.ref 164) → am_get ls 3 = some (.int v3_z) → am_get ls 4 = some (.int v4_z) → tkm g → rn (f + 1) am_m239 34 ls [] g r g' → bk g g' := by
      intro v3_z v4_z ls g g0_z g3_z g4_z T hm_z
      replace hm_z := rn_iload_n (am_cur_of (i := (62, 1, .iload_n 3, (0, 0, 0), 0)) (by decide +kernel)) g3_z hm_z
      replace hm_z := rn_istore_n (am_cur_of (i := (63, 1, .istore_n 1, (0, 0, 0), 0)) (by decide +kernel)) hm_z
      obtain ⟨_, s1853_z, s1854_z, g1_z, hm_z⟩ := hm_z
      replace g0_z := s1853_z 0 _ (by decide) rfl g0_z
      replace g3_z := s1853_z 3 _ (by decide) rfl g3_z
      replace g4_z := s1853_z 4 _ (by decide) rfl g4_z
      clear s1853_z s1854_z
      replace hm_z := rn_iload (am_cur_of (i := (64, 2, .iload 4, (0, 0, 0), 0)) (by decide +kernel)) g4_z hm_z
      replace hm_z := rn_istore_n (am_cur_of (i := (66, 1, .istore_n 2, (0, 0, 0), 0)) (by decide +kernel)) hm_z
      obtain ⟨_, s1855_z, s1856_z, g2_z, hm_z⟩ := hm_z
      replace g0_z := s1855_z 0 _ (by decide) rfl g0_z
      replace g3_z := s1855_z 3 _ (by decide) rfl g3_z
      replace g4_z := s1855_z 4 _ (by decide) rfl g4_z
      replace g1_z := s1855_z 1 _ (by decide) rfl g1_z
      clear s1855_z s1856_z
      exact bk_t bk_r (H38 v3_z v4_z v3_z _ _ g0_z g1_z g2_z g3_z (tkm_b bk_r T) hm_z)
    have H19 : ∀ (v1_z : Int32) (v2_z : Int32) (v3_z : Int32) (ls : am_L) (g : am_H), am_get ls 0 = some (.ref 164) → am_get ls 1 = some (.int v1_z) → am_get ls 2 = some (.int v2_z) → am_get ls 3 = some (.int v3_z) → tkm g → rn (f + 1) am_m239 19 ls [] g r g' → bk g g' := by
      intro v1_z v2_z v3_z ls g g0_z g1_z g2_z g3_z T hm_z
      have z0_z : (0 : Int32).toInt = 0 := by decide
      have z4_z : (4 : Int32).toInt = 4 := by decide
      replace hm_z := rn_iload_n (am_cur_of (i := (32, 1, .iload_n 3, (0, 0, 0), 0)) (by decide +kernel)) g3_z hm_z
      replace hm_z := rn_iconst (w := 4) (am_cur_of (i := (33, 1, .iconst 4, (0, 0, 0), 0)) (by decide +kernel)) (by decide) hm_z
      replace hm_z := rn_cmp (am_cur_of (i := (34, 3, .if_icmp .ge 39, (40, 0, 0), 0)) (by decide +kernel)) hm_z
      rcases hm_z with ⟨b1857_z, hm_z⟩ | ⟨b1857_z, hm_z⟩
      · replace b1857_z : (4 : Int32).toInt ≤ v3_z.toInt := b1857_z
        replace hm_z := rn_iload_n (am_cur_of (i := (73, 1, .iload_n 1, (0, 0, 0), 0)) (by decide +kernel)) g1_z hm_z
        replace hm_z := rn_iret (am_cur_of (i := (74, 1, .ireturn, (0, 0, 0), 0)) (by decide +kernel)) hm_z
        obtain ⟨e1858_z, e1859_z⟩ := hm_z
        rw [e1859_z]
        exact bk_r
      · replace b1857_z : v3_z.toInt < (4 : Int32).toInt := b1857_z
        replace hm_z := rn_aload_n (am_cur_of (i := (37, 1, .aload_n 0, (0, 0, 0), 0)) (by decide +kernel)) g0_z hm_z
        replace hm_z := rn_iload_n (am_cur_of (i := (38, 1, .iload_n 3, (0, 0, 0), 0)) (by decide +kernel)) g3_z hm_z
        replace hm_z := rn_callV (M' := am_m237) (o := 164) (ar := [.int v3_z]) (rest := []) (L := lv_args 0 [.ref 164, .int v3_z]) (am_cur_of (i := (39, 3, .invokevirtual 517, (237, 1979, 3), 0)) (by decide +kernel)) rfl rfl rfl rfl hm_z
        obtain ⟨r1860_z, h1861_z, q1862_z, hm_z⟩ := hm_z
        have k1863_z := fk_237 (tkm_b bk_r T) q1862_z
        obtain ⟨v1864_z, rfl⟩ := rn_ret (M := am_m237) rfl (by decide) q1862_z
        replace hm_z : rn _ _ _ _ [.int v1864_z] _ _ _ := hm_z
        replace hm_z := rn_istore (am_cur_of (i := (42, 2, .istore 4, (0, 0, 0), 0)) (by decide +kernel)) hm_z
        obtain ⟨_, s1865_z, s1866_z, g4_z, hm_z⟩ := hm_z
        replace g0_z := s1865_z 0 _ (by decide) rfl g0_z
        replace g1_z := s1865_z 1 _ (by decide) rfl g1_z
        replace g2_z := s1865_z 2 _ (by decide) rfl g2_z
        replace g3_z := s1865_z 3 _ (by decide) rfl g3_z
        clear s1865_z s1866_z
        replace hm_z := rn_iload (am_cur_of (i := (44, 2, .iload 4, (0, 0, 0), 0)) (by decide +kernel)) g4_z hm_z
        replace hm_z := rn_if (am_cur_of (i := (46, 3, .ifCond .lt 21, (38, 0, 0), 0)) (by decide +kernel)) hm_z
        rcases hm_z with ⟨b1867_z, hm_z⟩ | ⟨b1867_z, hm_z⟩
        · replace b1867_z : v1864_z.toInt < (0 : Int32).toInt := b1867_z
          exact bk_t (bk_t bk_r k1863_z) (H38 v1_z v2_z v3_z _ _ g0_z g1_z g2_z g3_z (tkm_b (bk_t bk_r k1863_z) T) hm_z)
        · replace b1867_z : (0 : Int32).toInt ≤ v1864_z.toInt := b1867_z
          replace hm_z := rn_iload_n (am_cur_of (i := (49, 1, .iload_n 1, (0, 0, 0), 0)) (by decide +kernel)) g1_z hm_z
          replace hm_z := rn_if (am_cur_of (i := (50, 3, .ifCond .lt 12, (34, 0, 0), 0)) (by decide +kernel)) hm_z
          rcases hm_z with ⟨b1868_z, hm_z⟩ | ⟨b1868_z, hm_z⟩
          · replace b1868_z : v1_z.toInt < (0 : Int32).toInt := b1868_z
            exact bk_t (bk_t bk_r k1863_z) (H34 v3_z v1864_z _ _ g0_z g3_z g4_z (tkm_b (bk_t bk_r k1863_z) T) hm_z)
          · replace b1868_z : (0 : Int32).toInt ≤ v1_z.toInt := b1868_z
            replace hm_z := rn_iload (am_cur_of (i := (53, 2, .iload 4, (0, 0, 0), 0)) (by decide +kernel)) g4_z hm_z
            replace hm_z := rn_iload_n (am_cur_of (i := (55, 1, .iload_n 2, (0, 0, 0), 0)) (by decide +kernel)) g2_z hm_z
            replace hm_z := rn_cmp (am_cur_of (i := (56, 3, .if_icmp .lt 6, (34, 0, 0), 0)) (by decide +kernel)) hm_z
            rcases hm_z with ⟨b1869_z, hm_z⟩ | ⟨b1869_z, hm_z⟩
            · replace b1869_z : v1864_z.toInt < v2_z.toInt := b1869_z
              exact bk_t (bk_t bk_r k1863_z) (H34 v3_z v1864_z _ _ g0_z g3_z g4_z (tkm_b (bk_t bk_r k1863_z) T) hm_z)
            · replace b1869_z : v2_z.toInt ≤ v1864_z.toInt := b1869_z
              replace hm_z := rn_goto (am_cur_of (i := (59, 3, .goto 8, (38, 0, 0), 0)) (by decide +kernel)) hm_z
              exact bk_t (bk_t bk_r k1863_z) (H38 v1_z v2_z v3_z _ _ g0_z g1_z g2_z g3_z (tkm_b (bk_t bk_r k1863_z) T) hm_z)
    exact ⟨H19, H34, H38⟩
theorem fk_239 {nst : Nat} {r : Option Value} {g g' : am_H}  (T : tkm g) (hm_z : rn nst am_m239 0 (lv_args 0 [.ref 164]) [] g r g') : bk g g' := by
  have z0_z : (0 : Int32).toInt = 0 := by decide
  have g0_z : am_get (lv_args 0 [.ref 164]) 0 = some (.ref 164) := rfl
  replace hm_z := rn_aload_n (am_cur_of (i := (0, 1, .aload_n 0, (0, 0, 0), 0)) (by decide +kernel)) g0_z hm_z
  replace hm_z := rn_iconst (w := 0) (am_cur_of (i := (1, 1, .iconst 0, (0, 0, 0), 0)) (by decide +kernel)) (by decide) hm_z
  replace hm_z := rn_put (am_cur_of (i := (2, 3, .putfield 139, (12, 2, 1386), 0)) (by decide +kernel)) (by decide +kernel) hm_z
  replace hm_z := rn_aload_n (am_cur_of (i := (5, 1, .aload_n 0, (0, 0, 0), 0)) (by decide +kernel)) g0_z hm_z
  replace hm_z := rn_getI (v := rg_v g 164 12) (am_cur_of (i := (6, 3, .getfield 219, (12, 12, 1396), 0)) (by decide +kernel)) (by decide +kernel) (show rg_v (am_up g 164 2 (.int 0)) 164 12 = rg_v g 164 12 from rfl) hm_z
  replace hm_z := rn_if (am_cur_of (i := (9, 3, .ifCond .ne 5, (8, 0, 0), 0)) (by decide +kernel)) hm_z
  rcases hm_z with ⟨b1870_z, hm_z⟩ | ⟨b1870_z, hm_z⟩
  · replace b1870_z : ¬ (rg_v g 164 12) = (0 : Int32) ∧ ¬ (rg_v g 164 12).toInt = (0 : Int32).toInt := b1870_z
    replace hm_z := rn_bipush (w := (-2)) (am_cur_of (i := (14, 2, .bipush (-2), (0, 0, 0), 0)) (by decide +kernel)) (by decide) hm_z
    replace hm_z := rn_istore_n (am_cur_of (i := (16, 1, .istore_n 1, (0, 0, 0), 0)) (by decide +kernel)) hm_z
    obtain ⟨_, s1871_z, s1872_z, g1_z, hm_z⟩ := hm_z
    replace g0_z := s1871_z 0 _ (by decide) rfl g0_z
    clear s1871_z s1872_z
    replace hm_z := rn_iconst (w := 0) (am_cur_of (i := (17, 1, .iconst 0, (0, 0, 0), 0)) (by decide +kernel)) (by decide) hm_z
    replace hm_z := rn_istore_n (am_cur_of (i := (18, 1, .istore_n 2, (0, 0, 0), 0)) (by decide +kernel)) hm_z
    obtain ⟨_, s1873_z, s1874_z, g2_z, hm_z⟩ := hm_z
    replace g0_z := s1873_z 0 _ (by decide) rfl g0_z
    replace g1_z := s1873_z 1 _ (by decide) rfl g1_z
    clear s1873_z s1874_z
    replace hm_z := rn_aload_n (am_cur_of (i := (19, 1, .aload_n 0, (0, 0, 0), 0)) (by decide +kernel)) g0_z hm_z
    replace hm_z := rn_getI (v := rg_v g 164 13) (am_cur_of (i := (20, 3, .getfield 222, (12, 13, 1397), 0)) (by decide +kernel)) (by decide +kernel) (show rg_v (am_up g 164 2 (.int 0)) 164 13 = rg_v g 164 13 from rfl) hm_z
    replace hm_z := rn_if (am_cur_of (i := (23, 3, .ifCond .ne 7, (17, 0, 0), 0)) (by decide +kernel)) hm_z
    rcases hm_z with ⟨b1875_z, hm_z⟩ | ⟨b1875_z, hm_z⟩
    · replace b1875_z : ¬ (rg_v g 164 13) = (0 : Int32) ∧ ¬ (rg_v g 164 13).toInt = (0 : Int32).toInt := b1875_z
      replace hm_z := rn_iconst (w := 0) (am_cur_of (i := (30, 1, .iconst 0, (0, 0, 0), 0)) (by decide +kernel)) (by decide) hm_z
      replace hm_z := rn_istore_n (am_cur_of (i := (31, 1, .istore_n 3, (0, 0, 0), 0)) (by decide +kernel)) hm_z
      obtain ⟨_, s1876_z, s1877_z, g3_z, hm_z⟩ := hm_z
      replace g0_z := s1876_z 0 _ (by decide) rfl g0_z
      replace g1_z := s1876_z 1 _ (by decide) rfl g1_z
      replace g2_z := s1876_z 2 _ (by decide) rfl g2_z
      clear s1876_z s1877_z
      have H19 := (fk_239_L (r := r) (g' := g')  nst).1
      exact bk_t (bk_u (by decide) bk_r) (H19 (-2) 0 0 _ _ g0_z g1_z g2_z g3_z (tkm_b (bk_u (by decide) bk_r) T) hm_z)
    · replace b1875_z : (rg_v g 164 13) = (0 : Int32) ∧ (rg_v g 164 13).toInt = (0 : Int32).toInt := b1875_z
      replace hm_z := rn_iconst (w := 1) (am_cur_of (i := (26, 1, .iconst 1, (0, 0, 0), 0)) (by decide +kernel)) (by decide) hm_z
      replace hm_z := rn_goto (am_cur_of (i := (27, 3, .goto 4, (18, 0, 0), 0)) (by decide +kernel)) hm_z
      replace hm_z := rn_istore_n (am_cur_of (i := (31, 1, .istore_n 3, (0, 0, 0), 0)) (by decide +kernel)) hm_z
      obtain ⟨_, s1878_z, s1879_z, g3_z, hm_z⟩ := hm_z
      replace g0_z := s1878_z 0 _ (by decide) rfl g0_z
      replace g1_z := s1878_z 1 _ (by decide) rfl g1_z
      replace g2_z := s1878_z 2 _ (by decide) rfl g2_z
      clear s1878_z s1879_z
      have H19 := (fk_239_L (r := r) (g' := g')  nst).1
      exact bk_t (bk_u (by decide) bk_r) (H19 (-2) 0 1 _ _ g0_z g1_z g2_z g3_z (tkm_b (bk_u (by decide) bk_r) T) hm_z)
  · replace b1870_z : (rg_v g 164 12) = (0 : Int32) ∧ (rg_v g 164 12).toInt = (0 : Int32).toInt := b1870_z
    replace hm_z := rn_iconst (w := (-1)) (am_cur_of (i := (12, 1, .iconst (-1), (0, 0, 0), 0)) (by decide +kernel)) (by decide) hm_z
    replace hm_z := rn_iret (am_cur_of (i := (13, 1, .ireturn, (0, 0, 0), 0)) (by decide +kernel)) hm_z
    obtain ⟨e1880_z, e1881_z⟩ := hm_z
    rw [e1881_z]
    exact (bk_u (by decide) bk_r)
theorem fk_245 {nst : Nat} {r : Option Value} {g g' : am_H}  (hm_z : rn nst am_m245 0 (lv_args 0 [.ref 164]) [] g r g') : bk g g' := by
  have z0_z : (0 : Int32).toInt = 0 := by decide
  have g0_z : am_get (lv_args 0 [.ref 164]) 0 = some (.ref 164) := rfl
  replace hm_z := rn_aload_n (am_cur_of (i := (0, 1, .aload_n 0, (0, 0, 0), 0)) (by decide +kernel)) g0_z hm_z
  replace hm_z := rn_getI (v := rg_v g 164 74) (am_cur_of (i := (1, 3, .getfield 118, (12, 74, 1458), 0)) (by decide +kernel)) (by decide +kernel) rfl hm_z
  replace hm_z := rn_if (am_cur_of (i := (4, 3, .ifCond .ge 10, (6, 0, 0), 0)) (by decide +kernel)) hm_z
  rcases hm_z with ⟨b1882_z, hm_z⟩ | ⟨b1882_z, hm_z⟩
  · replace b1882_z : (0 : Int32).toInt ≤ (rg_v g 164 74).toInt := b1882_z
    replace hm_z := rn_aload_n (am_cur_of (i := (14, 1, .aload_n 0, (0, 0, 0), 0)) (by decide +kernel)) g0_z hm_z
    replace hm_z := rn_getI (v := rg_v g 164 74) (am_cur_of (i := (15, 3, .getfield 118, (12, 74, 1458), 0)) (by decide +kernel)) (by decide +kernel) rfl hm_z
    replace hm_z := rn_iret (am_cur_of (i := (18, 1, .ireturn, (0, 0, 0), 0)) (by decide +kernel)) hm_z
    obtain ⟨e1883_z, e1884_z⟩ := hm_z
    rw [e1884_z]
    exact bk_r
  · replace b1882_z : (rg_v g 164 74).toInt < (0 : Int32).toInt := b1882_z
    replace hm_z := rn_aload_n (am_cur_of (i := (7, 1, .aload_n 0, (0, 0, 0), 0)) (by decide +kernel)) g0_z hm_z
    replace hm_z := rn_getI (v := rg_v g 164 73) (am_cur_of (i := (8, 3, .getfield 368, (12, 73, 1457), 0)) (by decide +kernel)) (by decide +kernel) rfl hm_z
    replace hm_z := rn_goto (am_cur_of (i := (11, 3, .goto 7, (8, 0, 0), 0)) (by decide +kernel)) hm_z
    replace hm_z := rn_iret (am_cur_of (i := (18, 1, .ireturn, (0, 0, 0), 0)) (by decide +kernel)) hm_z
    obtain ⟨e1885_z, e1886_z⟩ := hm_z
    rw [e1886_z]
    exact bk_r
theorem fk_246_L {r : Option Value} {g' : am_H}  : ∀ f : Nat, (∀ (v1_z : Int32) (ls : am_L) (g : am_H), am_get ls 0 = some (.ref 164) → am_get ls 1 = some (.int v1_z) → rn f am_m246 2 ls [] g r g' → bk g g') ∧ (∀ (v1_z : Int32) (v2_z : Int32) (v3_z : Int32) (ls : am_L) (g : am_H), am_get ls 0 = some (.ref 164) → am_get ls 1 = some (.int v1_z) → am_get ls 2 = some (.int v2_z) → am_get ls 3 = some (.int v3_z) → 0 ≤ v2_z.toInt → rn f am_m246 26 ls [] g r g' → bk g g') ∧ (∀ (v1_z : Int32) (ls : am_L) (g : am_H), am_get ls 0 = some (.ref 164) → am_get ls 1 = some (.int v1_z) → rn f am_m246 77 ls [] g r g' → bk g g') := by
  intro f
  induction f with
  | zero =>
    exact ⟨fun _ _ _ _ _ hm_z => absurd hm_z rn_0, fun _ _ _ _ _ _ _ _ _ _ hm_z => absurd hm_z rn_0, fun _ _ _ _ _ hm_z => absurd hm_z rn_0⟩
  | succ f ih_z =>
    obtain ⟨I2, I26, I77⟩ := ih_z
    have H77 : ∀ (v1_z : Int32) (ls : am_L) (g : am_H), am_get ls 0 = some (.ref 164) → am_get ls 1 = some (.int v1_z) → rn (f + 1) am_m246 77 ls [] g r g' → bk g g' := by
      intro v1_z ls g g0_z g1_z hm_z
      replace hm_z := rn_iinc (w := v1_z + 1) (am_cur_of (i := (119, 3, .iinc 1 1, (0, 0, 0), 0)) (by decide +kernel)) g1_z rfl hm_z
      obtain ⟨_, s1887_z, s1888_z, g1_z, hm_z⟩ := hm_z
      replace g0_z := s1887_z 0 _ (by decide) rfl g0_z
      clear s1887_z s1888_z
      replace hm_z := rn_gotoL (am_cur_of (i := (122, 3, .goto (-120), (2, 0, 0), 0)) (by decide +kernel)) hm_z
      exact bk_t bk_r (I2 (v1_z + 1) _ _ g0_z g1_z hm_z)
    have H26 : ∀ (v1_z : Int32) (v2_z : Int32) (v3_z : Int32) (ls : am_L) (g : am_H), am_get ls 0 = some (.ref 164) → am_get ls 1 = some (.int v1_z) → am_get ls 2 = some (.int v2_z) → am_get ls 3 = some (.int v3_z) → 0 ≤ v2_z.toInt → rn (f + 1) am_m246 26 ls [] g r g' → bk g g' := by
      intro v1_z v2_z v3_z ls g g0_z g1_z g2_z g3_z i2_0 hm_z
      have z1_z : (1 : Int32).toInt = 1 := by decide
      replace hm_z := rn_iload_n (am_cur_of (i := (42, 1, .iload_n 3, (0, 0, 0), 0)) (by decide +kernel)) g3_z hm_z
      replace hm_z := rn_aload_n (am_cur_of (i := (43, 1, .aload_n 0, (0, 0, 0), 0)) (by decide +kernel)) g0_z hm_z
      replace hm_z := rn_getR (x := 198) (am_cur_of (i := (44, 3, .getfield 121, (12, 75, 1459), 0)) (by decide +kernel)) (by decide +kernel) hm_z
      replace hm_z := rn_iconst (w := 4) (am_cur_of (i := (47, 1, .iconst 4, (0, 0, 0), 0)) (by decide +kernel)) (by decide) hm_z
      replace hm_z := rn_iload_n (am_cur_of (i := (48, 1, .iload_n 1, (0, 0, 0), 0)) (by decide +kernel)) g1_z hm_z
      replace hm_z := rn_imul (w := (4 : Int32) * v1_z) (am_cur_of (i := (49, 1, .imul, (0, 0, 0), 0)) (by decide +kernel)) rfl hm_z
      replace hm_z := rn_iconst (w := 1) (am_cur_of (i := (50, 1, .iconst 1, (0, 0, 0), 0)) (by decide +kernel)) (by decide) hm_z
      replace hm_z := rn_iadd (w := ((4 : Int32) * v1_z) + 1) (am_cur_of (i := (51, 1, .iadd, (0, 0, 0), 0)) (by decide +kernel)) rfl hm_z
      replace hm_z := rn_iaload (N := 96) (q := (((4 : Int32) * v1_z) + 1).toNatClampNeg) (v := rg_v g 198 ((((4 : Int32) * v1_z) + 1).toNatClampNeg)) (am_cur_of (i := (52, 1, .iaload, (0, 0, 0), 0)) (by decide +kernel)) (by decide +kernel) rfl rfl hm_z
      obtain ⟨p1889_z, hm_z⟩ := hm_z
      replace hm_z := rn_cmp (am_cur_of (i := (53, 3, .if_icmp .ge 16, (43, 0, 0), 0)) (by decide +kernel)) hm_z
      rcases hm_z with ⟨b1890_z, hm_z⟩ | ⟨b1890_z, hm_z⟩
      · replace b1890_z : (rg_v g 198 ((((4 : Int32) * v1_z) + 1).toNatClampNeg)).toInt ≤ v3_z.toInt := b1890_z
        replace hm_z := rn_aload_n (am_cur_of (i := (69, 1, .aload_n 0, (0, 0, 0), 0)) (by decide +kernel)) g0_z hm_z
        replace hm_z := rn_getR (x := 188) (am_cur_of (i := (70, 3, .getfield 85, (12, 50, 1434), 0)) (by decide +kernel)) (by decide +kernel) hm_z
        replace hm_z := rn_iconst (w := 1) (am_cur_of (i := (73, 1, .iconst 1, (0, 0, 0), 0)) (by decide +kernel)) (by decide) hm_z
        replace hm_z := rn_iaload (N := 4) (q := 1) (v := rg_v g 188 1) (am_cur_of (i := (74, 1, .iaload, (0, 0, 0), 0)) (by decide +kernel)) (by decide +kernel) rfl rfl hm_z
        obtain ⟨p1891_z, hm_z⟩ := hm_z
        replace hm_z := rn_aload_n (am_cur_of (i := (75, 1, .aload_n 0, (0, 0, 0), 0)) (by decide +kernel)) g0_z hm_z
        replace hm_z := rn_getR (x := 198) (am_cur_of (i := (76, 3, .getfield 121, (12, 75, 1459), 0)) (by decide +kernel)) (by decide +kernel) hm_z
        replace hm_z := rn_iconst (w := 4) (am_cur_of (i := (79, 1, .iconst 4, (0, 0, 0), 0)) (by decide +kernel)) (by decide) hm_z
        replace hm_z := rn_iload_n (am_cur_of (i := (80, 1, .iload_n 1, (0, 0, 0), 0)) (by decide +kernel)) g1_z hm_z
        replace hm_z := rn_imul (w := (4 : Int32) * v1_z) (am_cur_of (i := (81, 1, .imul, (0, 0, 0), 0)) (by decide +kernel)) rfl hm_z
        replace hm_z := rn_iconst (w := 2) (am_cur_of (i := (82, 1, .iconst 2, (0, 0, 0), 0)) (by decide +kernel)) (by decide) hm_z
        replace hm_z := rn_iadd (w := ((4 : Int32) * v1_z) + 2) (am_cur_of (i := (83, 1, .iadd, (0, 0, 0), 0)) (by decide +kernel)) rfl hm_z
        replace hm_z := rn_iaload (N := 96) (q := (((4 : Int32) * v1_z) + 2).toNatClampNeg) (v := rg_v g 198 ((((4 : Int32) * v1_z) + 2).toNatClampNeg)) (am_cur_of (i := (84, 1, .iaload, (0, 0, 0), 0)) (by decide +kernel)) (by decide +kernel) rfl rfl hm_z
        obtain ⟨p1892_z, hm_z⟩ := hm_z
        replace hm_z := rn_cmp (am_cur_of (i := (85, 3, .if_icmp .lt 7, (58, 0, 0), 0)) (by decide +kernel)) hm_z
        rcases hm_z with ⟨b1893_z, hm_z⟩ | ⟨b1893_z, hm_z⟩
        · replace b1893_z : (rg_v g 188 1).toInt < (rg_v g 198 ((((4 : Int32) * v1_z) + 2).toNatClampNeg)).toInt := b1893_z
          replace hm_z := rn_iconst (w := 0) (am_cur_of (i := (92, 1, .iconst 0, (0, 0, 0), 0)) (by decide +kernel)) (by decide) hm_z
          replace hm_z := rn_istore_n (am_cur_of (i := (93, 1, .istore_n 3, (0, 0, 0), 0)) (by decide +kernel)) hm_z
          obtain ⟨_, s1894_z, s1895_z, g3_z, hm_z⟩ := hm_z
          replace g0_z := s1894_z 0 _ (by decide) rfl g0_z
          replace g1_z := s1894_z 1 _ (by decide) rfl g1_z
          replace g2_z := s1894_z 2 _ (by decide) rfl g2_z
          clear s1894_z s1895_z
          replace hm_z := rn_iload_n (am_cur_of (i := (94, 1, .iload_n 3, (0, 0, 0), 0)) (by decide +kernel)) g3_z hm_z
          replace hm_z := rn_aload_n (am_cur_of (i := (95, 1, .aload_n 0, (0, 0, 0), 0)) (by decide +kernel)) g0_z hm_z
          replace hm_z := rn_getR (x := 198) (am_cur_of (i := (96, 3, .getfield 121, (12, 75, 1459), 0)) (by decide +kernel)) (by decide +kernel) hm_z
          replace hm_z := rn_iconst (w := 4) (am_cur_of (i := (99, 1, .iconst 4, (0, 0, 0), 0)) (by decide +kernel)) (by decide) hm_z
          replace hm_z := rn_iload_n (am_cur_of (i := (100, 1, .iload_n 1, (0, 0, 0), 0)) (by decide +kernel)) g1_z hm_z
          replace hm_z := rn_imul (w := (4 : Int32) * v1_z) (am_cur_of (i := (101, 1, .imul, (0, 0, 0), 0)) (by decide +kernel)) rfl hm_z
          replace hm_z := rn_iconst (w := 3) (am_cur_of (i := (102, 1, .iconst 3, (0, 0, 0), 0)) (by decide +kernel)) (by decide) hm_z
          replace hm_z := rn_iadd (w := ((4 : Int32) * v1_z) + 3) (am_cur_of (i := (103, 1, .iadd, (0, 0, 0), 0)) (by decide +kernel)) rfl hm_z
          replace hm_z := rn_iaload (N := 96) (q := (((4 : Int32) * v1_z) + 3).toNatClampNeg) (v := rg_v g 198 ((((4 : Int32) * v1_z) + 3).toNatClampNeg)) (am_cur_of (i := (104, 1, .iaload, (0, 0, 0), 0)) (by decide +kernel)) (by decide +kernel) rfl rfl hm_z
          obtain ⟨p1896_z, hm_z⟩ := hm_z
          replace hm_z := rn_iconst (w := 1) (am_cur_of (i := (105, 1, .iconst 1, (0, 0, 0), 0)) (by decide +kernel)) (by decide) hm_z
          replace hm_z := rn_cmp (am_cur_of (i := (106, 3, .if_icmp .ne 7, (73, 0, 0), 0)) (by decide +kernel)) hm_z
          rcases hm_z with ⟨b1897_z, hm_z⟩ | ⟨b1897_z, hm_z⟩
          · replace b1897_z : ¬ (rg_v g 198 ((((4 : Int32) * v1_z) + 3).toNatClampNeg)) = (1 : Int32) ∧ ¬ (rg_v g 198 ((((4 : Int32) * v1_z) + 3).toNatClampNeg)).toInt = (1 : Int32).toInt := b1897_z
            replace hm_z := rn_iconst (w := 0) (am_cur_of (i := (113, 1, .iconst 0, (0, 0, 0), 0)) (by decide +kernel)) (by decide) hm_z
            replace hm_z := rn_cmpT (am_cur_of (i := (114, 3, .if_icmp .eq 5, (77, 0, 0), 0)) (by decide +kernel)) (by decide) hm_z
            exact bk_t bk_r (H77 v1_z _ _ g0_z g1_z hm_z)
          · replace b1897_z : (rg_v g 198 ((((4 : Int32) * v1_z) + 3).toNatClampNeg)) = (1 : Int32) ∧ (rg_v g 198 ((((4 : Int32) * v1_z) + 3).toNatClampNeg)).toInt = (1 : Int32).toInt := b1897_z
            replace hm_z := rn_iconst (w := 1) (am_cur_of (i := (109, 1, .iconst 1, (0, 0, 0), 0)) (by decide +kernel)) (by decide) hm_z
            replace hm_z := rn_goto (am_cur_of (i := (110, 3, .goto 4, (74, 0, 0), 0)) (by decide +kernel)) hm_z
            replace hm_z := rn_cmpF (am_cur_of (i := (114, 3, .if_icmp .eq 5, (77, 0, 0), 0)) (by decide +kernel)) (by decide) hm_z
            replace hm_z := rn_iconst (w := 0) (am_cur_of (i := (117, 1, .iconst 0, (0, 0, 0), 0)) (by decide +kernel)) (by decide) hm_z
            replace hm_z := rn_iret (am_cur_of (i := (118, 1, .ireturn, (0, 0, 0), 0)) (by decide +kernel)) hm_z
            obtain ⟨e1898_z, e1899_z⟩ := hm_z
            rw [e1899_z]
            exact bk_r
        · replace b1893_z : (rg_v g 198 ((((4 : Int32) * v1_z) + 2).toNatClampNeg)).toInt ≤ (rg_v g 188 1).toInt := b1893_z
          replace hm_z := rn_iconst (w := 1) (am_cur_of (i := (88, 1, .iconst 1, (0, 0, 0), 0)) (by decide +kernel)) (by decide) hm_z
          replace hm_z := rn_goto (am_cur_of (i := (89, 3, .goto 4, (59, 0, 0), 0)) (by decide +kernel)) hm_z
          replace hm_z := rn_istore_n (am_cur_of (i := (93, 1, .istore_n 3, (0, 0, 0), 0)) (by decide +kernel)) hm_z
          obtain ⟨_, s1900_z, s1901_z, g3_z, hm_z⟩ := hm_z
          replace g0_z := s1900_z 0 _ (by decide) rfl g0_z
          replace g1_z := s1900_z 1 _ (by decide) rfl g1_z
          replace g2_z := s1900_z 2 _ (by decide) rfl g2_z
          clear s1900_z s1901_z
          replace hm_z := rn_iload_n (am_cur_of (i := (94, 1, .iload_n 3, (0, 0, 0), 0)) (by decide +kernel)) g3_z hm_z
          replace hm_z := rn_aload_n (am_cur_of (i := (95, 1, .aload_n 0, (0, 0, 0), 0)) (by decide +kernel)) g0_z hm_z
          replace hm_z := rn_getR (x := 198) (am_cur_of (i := (96, 3, .getfield 121, (12, 75, 1459), 0)) (by decide +kernel)) (by decide +kernel) hm_z
          replace hm_z := rn_iconst (w := 4) (am_cur_of (i := (99, 1, .iconst 4, (0, 0, 0), 0)) (by decide +kernel)) (by decide) hm_z
          replace hm_z := rn_iload_n (am_cur_of (i := (100, 1, .iload_n 1, (0, 0, 0), 0)) (by decide +kernel)) g1_z hm_z
          replace hm_z := rn_imul (w := (4 : Int32) * v1_z) (am_cur_of (i := (101, 1, .imul, (0, 0, 0), 0)) (by decide +kernel)) rfl hm_z
          replace hm_z := rn_iconst (w := 3) (am_cur_of (i := (102, 1, .iconst 3, (0, 0, 0), 0)) (by decide +kernel)) (by decide) hm_z
          replace hm_z := rn_iadd (w := ((4 : Int32) * v1_z) + 3) (am_cur_of (i := (103, 1, .iadd, (0, 0, 0), 0)) (by decide +kernel)) rfl hm_z
          replace hm_z := rn_iaload (N := 96) (q := (((4 : Int32) * v1_z) + 3).toNatClampNeg) (v := rg_v g 198 ((((4 : Int32) * v1_z) + 3).toNatClampNeg)) (am_cur_of (i := (104, 1, .iaload, (0, 0, 0), 0)) (by decide +kernel)) (by decide +kernel) rfl rfl hm_z
          obtain ⟨p1902_z, hm_z⟩ := hm_z
          replace hm_z := rn_iconst (w := 1) (am_cur_of (i := (105, 1, .iconst 1, (0, 0, 0), 0)) (by decide +kernel)) (by decide) hm_z
          replace hm_z := rn_cmp (am_cur_of (i := (106, 3, .if_icmp .ne 7, (73, 0, 0), 0)) (by decide +kernel)) hm_z
          rcases hm_z with ⟨b1903_z, hm_z⟩ | ⟨b1903_z, hm_z⟩
          · replace b1903_z : ¬ (rg_v g 198 ((((4 : Int32) * v1_z) + 3).toNatClampNeg)) = (1 : Int32) ∧ ¬ (rg_v g 198 ((((4 : Int32) * v1_z) + 3).toNatClampNeg)).toInt = (1 : Int32).toInt := b1903_z
            replace hm_z := rn_iconst (w := 0) (am_cur_of (i := (113, 1, .iconst 0, (0, 0, 0), 0)) (by decide +kernel)) (by decide) hm_z
            replace hm_z := rn_cmpF (am_cur_of (i := (114, 3, .if_icmp .eq 5, (77, 0, 0), 0)) (by decide +kernel)) (by decide) hm_z
            replace hm_z := rn_iconst (w := 0) (am_cur_of (i := (117, 1, .iconst 0, (0, 0, 0), 0)) (by decide +kernel)) (by decide) hm_z
            replace hm_z := rn_iret (am_cur_of (i := (118, 1, .ireturn, (0, 0, 0), 0)) (by decide +kernel)) hm_z
            obtain ⟨e1904_z, e1905_z⟩ := hm_z
            rw [e1905_z]
            exact bk_r
          · replace b1903_z : (rg_v g 198 ((((4 : Int32) * v1_z) + 3).toNatClampNeg)) = (1 : Int32) ∧ (rg_v g 198 ((((4 : Int32) * v1_z) + 3).toNatClampNeg)).toInt = (1 : Int32).toInt := b1903_z
            replace hm_z := rn_iconst (w := 1) (am_cur_of (i := (109, 1, .iconst 1, (0, 0, 0), 0)) (by decide +kernel)) (by decide) hm_z
            replace hm_z := rn_goto (am_cur_of (i := (110, 3, .goto 4, (74, 0, 0), 0)) (by decide +kernel)) hm_z
            replace hm_z := rn_cmpT (am_cur_of (i := (114, 3, .if_icmp .eq 5, (77, 0, 0), 0)) (by decide +kernel)) (by decide) hm_z
            exact bk_t bk_r (H77 v1_z _ _ g0_z g1_z hm_z)
      · replace b1890_z : v3_z.toInt < (rg_v g 198 ((((4 : Int32) * v1_z) + 1).toNatClampNeg)).toInt := b1890_z
        replace hm_z := rn_aload_n (am_cur_of (i := (56, 1, .aload_n 0, (0, 0, 0), 0)) (by decide +kernel)) g0_z hm_z
        replace hm_z := rn_iconst (w := 1) (am_cur_of (i := (57, 1, .iconst 1, (0, 0, 0), 0)) (by decide +kernel)) (by decide) hm_z
        replace hm_z := rn_iload_n (am_cur_of (i := (58, 1, .iload_n 2, (0, 0, 0), 0)) (by decide +kernel)) g2_z hm_z
        replace hm_z := rn_callV (M' := am_m220) (o := 164) (ar := [.int v2_z, .int 1]) (rest := []) (L := lv_args 0 [.ref 164, .int 1, .int v2_z]) (am_cur_of (i := (59, 3, .invokevirtual 476, (220, 1911, 3), 0)) (by decide +kernel)) rfl rfl rfl rfl hm_z
        obtain ⟨r1906_z, h1907_z, q1908_z, hm_z⟩ := hm_z
        have k1909_z := fk_220_1 (by omega) q1908_z
        obtain ⟨v1910_z, rfl⟩ := rn_ret (M := am_m220) rfl (by decide) q1908_z
        replace hm_z : rn _ _ _ _ [.int v1910_z] _ _ _ := hm_z
        replace hm_z := rn_pop (am_cur_of (i := (62, 1, .pop, (0, 0, 0), 0)) (by decide +kernel)) hm_z
        replace hm_z := rn_iinc (w := v3_z + 1) (am_cur_of (i := (63, 3, .iinc 3 1, (0, 0, 0), 0)) (by decide +kernel)) g3_z rfl hm_z
        obtain ⟨_, s1911_z, s1912_z, g3_z, hm_z⟩ := hm_z
        replace g0_z := s1911_z 0 _ (by decide) rfl g0_z
        replace g1_z := s1911_z 1 _ (by decide) rfl g1_z
        replace g2_z := s1911_z 2 _ (by decide) rfl g2_z
        clear s1911_z s1912_z
        replace hm_z := rn_gotoL (am_cur_of (i := (66, 3, .goto (-24), (26, 0, 0), 0)) (by decide +kernel)) hm_z
        exact bk_t (bk_t bk_r k1909_z) (I26 v1_z v2_z (v3_z + 1) _ _ g0_z g1_z g2_z g3_z (show 0 ≤ v2_z.toInt by omega) hm_z)
    have H2 : ∀ (v1_z : Int32) (ls : am_L) (g : am_H), am_get ls 0 = some (.ref 164) → am_get ls 1 = some (.int v1_z) → rn (f + 1) am_m246 2 ls [] g r g' → bk g g' := by
      intro v1_z ls g g0_z g1_z hm_z
      have z0_z : (0 : Int32).toInt = 0 := by decide
      replace hm_z := rn_iload_n (am_cur_of (i := (2, 1, .iload_n 1, (0, 0, 0), 0)) (by decide +kernel)) g1_z hm_z
      replace hm_z := rn_aload_n (am_cur_of (i := (3, 1, .aload_n 0, (0, 0, 0), 0)) (by decide +kernel)) g0_z hm_z
      replace hm_z := rn_callV (M' := am_m245) (o := 164) (ar := []) (rest := [.int v1_z]) (L := lv_args 0 [.ref 164]) (am_cur_of (i := (4, 3, .invokevirtual 524, (245, 2011, 3), 0)) (by decide +kernel)) rfl rfl rfl rfl hm_z
      obtain ⟨r1913_z, h1914_z, q1915_z, hm_z⟩ := hm_z
      have k1916_z := fk_245 q1915_z
      obtain ⟨v1917_z, rfl⟩ := rn_ret (M := am_m245) rfl (by decide) q1915_z
      replace hm_z : rn _ _ _ _ [.int v1917_z, .int v1_z] _ _ _ := hm_z
      replace hm_z := rn_cmp (am_cur_of (i := (7, 3, .if_icmp .ge 118, (79, 0, 0), 0)) (by decide +kernel)) hm_z
      rcases hm_z with ⟨b1918_z, hm_z⟩ | ⟨b1918_z, hm_z⟩
      · replace b1918_z : v1917_z.toInt ≤ v1_z.toInt := b1918_z
        replace hm_z := rn_iconst (w := 1) (am_cur_of (i := (125, 1, .iconst 1, (0, 0, 0), 0)) (by decide +kernel)) (by decide) hm_z
        replace hm_z := rn_iret (am_cur_of (i := (126, 1, .ireturn, (0, 0, 0), 0)) (by decide +kernel)) hm_z
        obtain ⟨e1919_z, e1920_z⟩ := hm_z
        rw [e1920_z]
        exact (bk_t bk_r k1916_z)
      · replace b1918_z : v1_z.toInt < v1917_z.toInt := b1918_z
        replace hm_z := rn_aload_n (am_cur_of (i := (10, 1, .aload_n 0, (0, 0, 0), 0)) (by decide +kernel)) g0_z hm_z
        replace hm_z := rn_getR (x := 198) (am_cur_of (i := (11, 3, .getfield 121, (12, 75, 1459), 0)) (by decide +kernel)) (by decide +kernel) hm_z
        replace hm_z := rn_iconst (w := 4) (am_cur_of (i := (14, 1, .iconst 4, (0, 0, 0), 0)) (by decide +kernel)) (by decide) hm_z
        replace hm_z := rn_iload_n (am_cur_of (i := (15, 1, .iload_n 1, (0, 0, 0), 0)) (by decide +kernel)) g1_z hm_z
        replace hm_z := rn_imul (w := (4 : Int32) * v1_z) (am_cur_of (i := (16, 1, .imul, (0, 0, 0), 0)) (by decide +kernel)) rfl hm_z
        replace hm_z := rn_iaload (N := 96) (q := ((4 : Int32) * v1_z).toNatClampNeg) (v := rg_v h1914_z 198 (((4 : Int32) * v1_z).toNatClampNeg)) (am_cur_of (i := (17, 1, .iaload, (0, 0, 0), 0)) (by decide +kernel)) (by decide +kernel) rfl rfl hm_z
        obtain ⟨p1921_z, hm_z⟩ := hm_z
        replace hm_z := rn_istore_n (am_cur_of (i := (18, 1, .istore_n 2, (0, 0, 0), 0)) (by decide +kernel)) hm_z
        obtain ⟨_, s1922_z, s1923_z, g2_z, hm_z⟩ := hm_z
        replace g0_z := s1922_z 0 _ (by decide) rfl g0_z
        replace g1_z := s1922_z 1 _ (by decide) rfl g1_z
        clear s1922_z s1923_z
        replace hm_z := rn_aload_n (am_cur_of (i := (19, 1, .aload_n 0, (0, 0, 0), 0)) (by decide +kernel)) g0_z hm_z
        replace hm_z := rn_getR (x := 199) (am_cur_of (i := (20, 3, .getfield 124, (12, 76, 1460), 0)) (by decide +kernel)) (by decide +kernel) hm_z
        replace hm_z := rn_iload_n (am_cur_of (i := (23, 1, .iload_n 1, (0, 0, 0), 0)) (by decide +kernel)) g1_z hm_z
        replace hm_z := rn_baload (N := 24) (q := v1_z.toNatClampNeg) (v := rg_v h1914_z 199 v1_z.toNatClampNeg) (am_cur_of (i := (24, 1, .baload, (0, 0, 0), 0)) (by decide +kernel)) (by decide +kernel) rfl rfl hm_z
        obtain ⟨p1924_z, hm_z⟩ := hm_z
        replace hm_z := rn_if (am_cur_of (i := (25, 3, .ifCond .eq 94, (77, 0, 0), 0)) (by decide +kernel)) hm_z
        rcases hm_z with ⟨b1925_z, hm_z⟩ | ⟨b1925_z, hm_z⟩
        · replace b1925_z : (rg_v h1914_z 199 v1_z.toNatClampNeg) = (0 : Int32) ∧ (rg_v h1914_z 199 v1_z.toNatClampNeg).toInt = (0 : Int32).toInt := b1925_z
          exact bk_t (bk_t bk_r k1916_z) (H77 v1_z _ _ g0_z g1_z hm_z)
        · replace b1925_z : ¬ (rg_v h1914_z 199 v1_z.toNatClampNeg) = (0 : Int32) ∧ ¬ (rg_v h1914_z 199 v1_z.toNatClampNeg).toInt = (0 : Int32).toInt := b1925_z
          replace hm_z := rn_iload_n (am_cur_of (i := (28, 1, .iload_n 2, (0, 0, 0), 0)) (by decide +kernel)) g2_z hm_z
          replace hm_z := rn_if (am_cur_of (i := (29, 3, .ifCond .ge 6, (21, 0, 0), 0)) (by decide +kernel)) hm_z
          rcases hm_z with ⟨b1926_z, hm_z⟩ | ⟨b1926_z, hm_z⟩
          · replace b1926_z : (0 : Int32).toInt ≤ (rg_v h1914_z 198 (((4 : Int32) * v1_z).toNatClampNeg)).toInt := b1926_z
            replace hm_z := rn_aload_n (am_cur_of (i := (35, 1, .aload_n 0, (0, 0, 0), 0)) (by decide +kernel)) g0_z hm_z
            replace hm_z := rn_iconst (w := 1) (am_cur_of (i := (36, 1, .iconst 1, (0, 0, 0), 0)) (by decide +kernel)) (by decide) hm_z
            replace hm_z := rn_callV (M' := am_m147) (o := 164) (ar := [.int 1]) (rest := []) (L := lv_args 0 [.ref 164, .int 1]) (am_cur_of (i := (37, 3, .invokevirtual 346, (147, 1372, 3), 0)) (by decide +kernel)) rfl rfl rfl rfl hm_z
            obtain ⟨r1927_z, h1928_z, q1929_z, hm_z⟩ := hm_z
            have k1930_z := fk_147_1 q1929_z
            have vo := rn_void rfl q1929_z
            subst vo
            replace hm_z : rn _ _ _ _ [] _ _ _ := hm_z
            replace hm_z := rn_iconst (w := 0) (am_cur_of (i := (40, 1, .iconst 0, (0, 0, 0), 0)) (by decide +kernel)) (by decide) hm_z
            replace hm_z := rn_istore_n (am_cur_of (i := (41, 1, .istore_n 3, (0, 0, 0), 0)) (by decide +kernel)) hm_z
            obtain ⟨_, s1931_z, s1932_z, g3_z, hm_z⟩ := hm_z
            replace g0_z := s1931_z 0 _ (by decide) rfl g0_z
            replace g1_z := s1931_z 1 _ (by decide) rfl g1_z
            replace g2_z := s1931_z 2 _ (by decide) rfl g2_z
            clear s1931_z s1932_z
            exact bk_t (bk_t (bk_t bk_r k1916_z) k1930_z) (H26 v1_z (rg_v h1914_z 198 (((4 : Int32) * v1_z).toNatClampNeg)) 0 _ _ g0_z g1_z g2_z g3_z (show 0 ≤ (rg_v h1914_z 198 (((4 : Int32) * v1_z).toNatClampNeg)).toInt by omega) hm_z)
          · replace b1926_z : (rg_v h1914_z 198 (((4 : Int32) * v1_z).toNatClampNeg)).toInt < (0 : Int32).toInt := b1926_z
            replace hm_z := rn_goto (am_cur_of (i := (32, 3, .goto 87, (77, 0, 0), 0)) (by decide +kernel)) hm_z
            exact bk_t (bk_t bk_r k1916_z) (H77 v1_z _ _ g0_z g1_z hm_z)
    exact ⟨H2, H26, H77⟩
theorem fk_246 {nst : Nat} {r : Option Value} {g g' : am_H}  (hm_z : rn nst am_m246 0 (lv_args 0 [.ref 164]) [] g r g') : bk g g' := by
  have g0_z : am_get (lv_args 0 [.ref 164]) 0 = some (.ref 164) := rfl
  replace hm_z := rn_iconst (w := 0) (am_cur_of (i := (0, 1, .iconst 0, (0, 0, 0), 0)) (by decide +kernel)) (by decide) hm_z
  replace hm_z := rn_istore_n (am_cur_of (i := (1, 1, .istore_n 1, (0, 0, 0), 0)) (by decide +kernel)) hm_z
  obtain ⟨_, s1933_z, s1934_z, g1_z, hm_z⟩ := hm_z
  replace g0_z := s1933_z 0 _ (by decide) rfl g0_z
  clear s1933_z s1934_z
  have H2 := (fk_246_L (r := r) (g' := g')  nst).1
  exact bk_t bk_r (H2 0 _ _ g0_z g1_z hm_z)
theorem fk_244_L {r : Option Value} {g' : am_H}  : ∀ f : Nat, (∀ (v1_z : Int32) (ls : am_L) (g : am_H), am_get ls 0 = some (.ref 164) → am_get ls 1 = some (.int v1_z) → rn f am_m244 5 ls [] g r g' → bk g g') ∧ (∀ (v1_z : Int32) (ls : am_L) (g : am_H), am_get ls 0 = some (.ref 164) → am_get ls 1 = some (.int v1_z) → rn f am_m244 21 ls [] g r g' → bk g g') ∧ (∀ (v1_z : Int32) (ls : am_L) (g : am_H), am_get ls 0 = some (.ref 164) → am_get ls 1 = some (.int v1_z) → rn f am_m244 47 ls [] g r g' → bk g g') ∧ (∀ (v1_z : Int32) (v2_z : Int32) (v3_z : Int32) (ls : am_L) (g : am_H), am_get ls 0 = some (.ref 164) → am_get ls 1 = some (.int v1_z) → am_get ls 2 = some (.int v2_z) → am_get ls 3 = some (.int v3_z) → rn f am_m244 59 ls [] g r g' → bk g g') := by
  intro f
  induction f with
  | zero =>
    exact ⟨fun _ _ _ _ _ hm_z => absurd hm_z rn_0, fun _ _ _ _ _ hm_z => absurd hm_z rn_0, fun _ _ _ _ _ hm_z => absurd hm_z rn_0, fun _ _ _ _ _ _ _ _ _ hm_z => absurd hm_z rn_0⟩
  | succ f ih_z =>
    obtain ⟨I5, I21, I47, I59⟩ := ih_z
    have H59 : ∀ (v1_z : Int32) (v2_z : Int32) (v3_z : Int32) (ls : am_L) (g : am_H), am_get ls 0 = some (.ref 164) → am_get ls 1 = some (.int v1_z) → am_get ls 2 = some (.int v2_z) → am_get ls 3 = some (.int v3_z) → rn (f + 1) am_m244 59 ls [] g r g' → bk g g' := by
      intro v1_z v2_z v3_z ls g g0_z g1_z g2_z g3_z hm_z
      have z0_z : (0 : Int32).toInt = 0 := by decide
      replace hm_z := rn_iload_n (am_cur_of (i := (95, 1, .iload_n 3, (0, 0, 0), 0)) (by decide +kernel)) g3_z hm_z
      replace hm_z := rn_aload_n (am_cur_of (i := (96, 1, .aload_n 0, (0, 0, 0), 0)) (by decide +kernel)) g0_z hm_z
      replace hm_z := rn_getI (v := rg_v g 164 14) (am_cur_of (i := (97, 3, .getfield 225, (12, 14, 1398), 0)) (by decide +kernel)) (by decide +kernel) rfl hm_z
      replace hm_z := rn_cmp (am_cur_of (i := (100, 3, .if_icmp .gt 31, (79, 0, 0), 0)) (by decide +kernel)) hm_z
      rcases hm_z with ⟨b1935_z, hm_z⟩ | ⟨b1935_z, hm_z⟩
      · replace b1935_z : (rg_v g 164 14).toInt < v3_z.toInt := b1935_z
        replace hm_z := rn_aload_n (am_cur_of (i := (131, 1, .aload_n 0, (0, 0, 0), 0)) (by decide +kernel)) g0_z hm_z
        replace hm_z := rn_iload_n (am_cur_of (i := (132, 1, .iload_n 2, (0, 0, 0), 0)) (by decide +kernel)) g2_z hm_z
        replace hm_z := rn_put (am_cur_of (i := (133, 3, .putfield 349, (12, 57, 1441), 0)) (by decide +kernel)) (by decide +kernel) hm_z
        replace hm_z := rn_aload_n (am_cur_of (i := (136, 1, .aload_n 0, (0, 0, 0), 0)) (by decide +kernel)) g0_z hm_z
        replace hm_z := rn_iconst (w := (-1)) (am_cur_of (i := (137, 1, .iconst (-1), (0, 0, 0), 0)) (by decide +kernel)) (by decide) hm_z
        replace hm_z := rn_put (am_cur_of (i := (138, 3, .putfield 106, (12, 62, 1446), 0)) (by decide +kernel)) (by decide +kernel) hm_z
        replace hm_z := rn_iload_n (am_cur_of (i := (141, 1, .iload_n 1, (0, 0, 0), 0)) (by decide +kernel)) g1_z hm_z
        replace hm_z := rn_iret (am_cur_of (i := (142, 1, .ireturn, (0, 0, 0), 0)) (by decide +kernel)) hm_z
        obtain ⟨e1936_z, e1937_z⟩ := hm_z
        rw [e1937_z]
        exact (bk_u (by decide) (bk_u (by decide) bk_r))
      · replace b1935_z : v3_z.toInt ≤ (rg_v g 164 14).toInt := b1935_z
        replace hm_z := rn_aload_n (am_cur_of (i := (103, 1, .aload_n 0, (0, 0, 0), 0)) (by decide +kernel)) g0_z hm_z
        replace hm_z := rn_iload_n (am_cur_of (i := (104, 1, .iload_n 3, (0, 0, 0), 0)) (by decide +kernel)) g3_z hm_z
        replace hm_z := rn_put (am_cur_of (i := (105, 3, .putfield 106, (12, 62, 1446), 0)) (by decide +kernel)) (by decide +kernel) hm_z
        replace hm_z := rn_iload_n (am_cur_of (i := (108, 1, .iload_n 1, (0, 0, 0), 0)) (by decide +kernel)) g1_z hm_z
        replace hm_z := rn_aload_n (am_cur_of (i := (109, 1, .aload_n 0, (0, 0, 0), 0)) (by decide +kernel)) g0_z hm_z
        replace hm_z := rn_callV (M' := am_m246) (o := 164) (ar := []) (rest := [.int v1_z]) (L := lv_args 0 [.ref 164]) (am_cur_of (i := (110, 3, .invokevirtual 527, (246, 2015, 3), 0)) (by decide +kernel)) rfl rfl rfl rfl hm_z
        obtain ⟨r1938_z, h1939_z, q1940_z, hm_z⟩ := hm_z
        have k1941_z := fk_246 q1940_z
        obtain ⟨v1942_z, rfl⟩ := rn_ret (M := am_m246) rfl (by decide) q1940_z
        replace hm_z : rn _ _ _ _ [.int v1942_z, .int v1_z] _ _ _ := hm_z
        replace hm_z := rn_if (am_cur_of (i := (113, 3, .ifCond .eq 9, (74, 0, 0), 0)) (by decide +kernel)) hm_z
        rcases hm_z with ⟨b1943_z, hm_z⟩ | ⟨b1943_z, hm_z⟩
        · replace b1943_z : v1942_z = (0 : Int32) ∧ v1942_z.toInt = (0 : Int32).toInt := b1943_z
          replace hm_z := rn_iconst (w := 0) (am_cur_of (i := (122, 1, .iconst 0, (0, 0, 0), 0)) (by decide +kernel)) (by decide) hm_z
          replace hm_z := rn_ior (w := v1_z ||| 0) (am_cur_of (i := (123, 1, .ior, (0, 0, 0), 0)) (by decide +kernel)) rfl hm_z
          replace hm_z := rn_istore_n (am_cur_of (i := (124, 1, .istore_n 1, (0, 0, 0), 0)) (by decide +kernel)) hm_z
          obtain ⟨_, s1944_z, s1945_z, g1_z, hm_z⟩ := hm_z
          replace g0_z := s1944_z 0 _ (by decide) rfl g0_z
          replace g2_z := s1944_z 2 _ (by decide) rfl g2_z
          replace g3_z := s1944_z 3 _ (by decide) rfl g3_z
          clear s1944_z s1945_z
          replace hm_z := rn_iinc (w := v3_z + 1) (am_cur_of (i := (125, 3, .iinc 3 1, (0, 0, 0), 0)) (by decide +kernel)) g3_z rfl hm_z
          obtain ⟨_, s1946_z, s1947_z, g3_z, hm_z⟩ := hm_z
          replace g0_z := s1946_z 0 _ (by decide) rfl g0_z
          replace g1_z := s1946_z 1 _ (by decide) rfl g1_z
          replace g2_z := s1946_z 2 _ (by decide) rfl g2_z
          clear s1946_z s1947_z
          replace hm_z := rn_gotoL (am_cur_of (i := (128, 3, .goto (-33), (59, 0, 0), 0)) (by decide +kernel)) hm_z
          exact bk_t (bk_t (bk_u (by decide) bk_r) k1941_z) (I59 (v1_z ||| 0) v2_z (v3_z + 1) _ _ g0_z g1_z g2_z g3_z hm_z)
        · replace b1943_z : ¬ v1942_z = (0 : Int32) ∧ ¬ v1942_z.toInt = (0 : Int32).toInt := b1943_z
          replace hm_z := rn_iconst (w := 1) (am_cur_of (i := (116, 1, .iconst 1, (0, 0, 0), 0)) (by decide +kernel)) (by decide) hm_z
          replace hm_z := rn_iload_n (am_cur_of (i := (117, 1, .iload_n 3, (0, 0, 0), 0)) (by decide +kernel)) g3_z hm_z
          replace hm_z := rn_ishl (w := (1 : Int32) <<< (v3_z &&& 31)) (am_cur_of (i := (118, 1, .ishl, (0, 0, 0), 0)) (by decide +kernel)) rfl hm_z
          replace hm_z := rn_goto (am_cur_of (i := (119, 3, .goto 4, (75, 0, 0), 0)) (by decide +kernel)) hm_z
          replace hm_z := rn_ior (w := v1_z ||| ((1 : Int32) <<< (v3_z &&& 31))) (am_cur_of (i := (123, 1, .ior, (0, 0, 0), 0)) (by decide +kernel)) rfl hm_z
          replace hm_z := rn_istore_n (am_cur_of (i := (124, 1, .istore_n 1, (0, 0, 0), 0)) (by decide +kernel)) hm_z
          obtain ⟨_, s1948_z, s1949_z, g1_z, hm_z⟩ := hm_z
          replace g0_z := s1948_z 0 _ (by decide) rfl g0_z
          replace g2_z := s1948_z 2 _ (by decide) rfl g2_z
          replace g3_z := s1948_z 3 _ (by decide) rfl g3_z
          clear s1948_z s1949_z
          replace hm_z := rn_iinc (w := v3_z + 1) (am_cur_of (i := (125, 3, .iinc 3 1, (0, 0, 0), 0)) (by decide +kernel)) g3_z rfl hm_z
          obtain ⟨_, s1950_z, s1951_z, g3_z, hm_z⟩ := hm_z
          replace g0_z := s1950_z 0 _ (by decide) rfl g0_z
          replace g1_z := s1950_z 1 _ (by decide) rfl g1_z
          replace g2_z := s1950_z 2 _ (by decide) rfl g2_z
          clear s1950_z s1951_z
          replace hm_z := rn_gotoL (am_cur_of (i := (128, 3, .goto (-33), (59, 0, 0), 0)) (by decide +kernel)) hm_z
          exact bk_t (bk_t (bk_u (by decide) bk_r) k1941_z) (I59 (v1_z ||| ((1 : Int32) <<< (v3_z &&& 31))) v2_z (v3_z + 1) _ _ g0_z g1_z g2_z g3_z hm_z)
    have H47 : ∀ (v1_z : Int32) (ls : am_L) (g : am_H), am_get ls 0 = some (.ref 164) → am_get ls 1 = some (.int v1_z) → rn (f + 1) am_m244 47 ls [] g r g' → bk g g' := by
      intro v1_z ls g g0_z g1_z hm_z
      replace hm_z := rn_iinc (w := v1_z + (-1)) (am_cur_of (i := (75, 3, .iinc 1 (-1), (0, 0, 0), 0)) (by decide +kernel)) g1_z (congrArg (fun z => v1_z + z) (show Int32.ofInt (-1) = (-1) by decide)) hm_z
      obtain ⟨_, s1952_z, s1953_z, g1_z, hm_z⟩ := hm_z
      replace g0_z := s1952_z 0 _ (by decide) rfl g0_z
      clear s1952_z s1953_z
      replace hm_z := rn_gotoL (am_cur_of (i := (78, 3, .goto (-43), (21, 0, 0), 0)) (by decide +kernel)) hm_z
      exact bk_t bk_r (I21 (v1_z + (-1)) _ _ g0_z g1_z hm_z)
    have H21 : ∀ (v1_z : Int32) (ls : am_L) (g : am_H), am_get ls 0 = some (.ref 164) → am_get ls 1 = some (.int v1_z) → rn (f + 1) am_m244 21 ls [] g r g' → bk g g' := by
      intro v1_z ls g g0_z g1_z hm_z
      have z0_z : (0 : Int32).toInt = 0 := by decide
      replace hm_z := rn_iload_n (am_cur_of (i := (35, 1, .iload_n 1, (0, 0, 0), 0)) (by decide +kernel)) g1_z hm_z
      replace hm_z := rn_if (am_cur_of (i := (36, 3, .ifCond .lt 45, (49, 0, 0), 0)) (by decide +kernel)) hm_z
      rcases hm_z with ⟨b1954_z, hm_z⟩ | ⟨b1954_z, hm_z⟩
      · replace b1954_z : v1_z.toInt < (0 : Int32).toInt := b1954_z
        replace hm_z := rn_iconst (w := 0) (am_cur_of (i := (81, 1, .iconst 0, (0, 0, 0), 0)) (by decide +kernel)) (by decide) hm_z
        replace hm_z := rn_istore_n (am_cur_of (i := (82, 1, .istore_n 1, (0, 0, 0), 0)) (by decide +kernel)) hm_z
        obtain ⟨_, s1955_z, s1956_z, g1_z, hm_z⟩ := hm_z
        replace g0_z := s1955_z 0 _ (by decide) rfl g0_z
        clear s1955_z s1956_z
        replace hm_z := rn_aload_n (am_cur_of (i := (83, 1, .aload_n 0, (0, 0, 0), 0)) (by decide +kernel)) g0_z hm_z
        replace hm_z := rn_getI (v := rg_v g 164 57) (am_cur_of (i := (84, 3, .getfield 349, (12, 57, 1441), 0)) (by decide +kernel)) (by decide +kernel) rfl hm_z
        replace hm_z := rn_istore_n (am_cur_of (i := (87, 1, .istore_n 2, (0, 0, 0), 0)) (by decide +kernel)) hm_z
        obtain ⟨_, s1957_z, s1958_z, g2_z, hm_z⟩ := hm_z
        replace g0_z := s1957_z 0 _ (by decide) rfl g0_z
        replace g1_z := s1957_z 1 _ (by decide) rfl g1_z
        clear s1957_z s1958_z
        replace hm_z := rn_aload_n (am_cur_of (i := (88, 1, .aload_n 0, (0, 0, 0), 0)) (by decide +kernel)) g0_z hm_z
        replace hm_z := rn_iconst (w := 0) (am_cur_of (i := (89, 1, .iconst 0, (0, 0, 0), 0)) (by decide +kernel)) (by decide) hm_z
        replace hm_z := rn_put (am_cur_of (i := (90, 3, .putfield 349, (12, 57, 1441), 0)) (by decide +kernel)) (by decide +kernel) hm_z
        replace hm_z := rn_iconst (w := 0) (am_cur_of (i := (93, 1, .iconst 0, (0, 0, 0), 0)) (by decide +kernel)) (by decide) hm_z
        replace hm_z := rn_istore_n (am_cur_of (i := (94, 1, .istore_n 3, (0, 0, 0), 0)) (by decide +kernel)) hm_z
        obtain ⟨_, s1959_z, s1960_z, g3_z, hm_z⟩ := hm_z
        replace g0_z := s1959_z 0 _ (by decide) rfl g0_z
        replace g1_z := s1959_z 1 _ (by decide) rfl g1_z
        replace g2_z := s1959_z 2 _ (by decide) rfl g2_z
        clear s1959_z s1960_z
        exact bk_t (bk_u (by decide) bk_r) (H59 0 (rg_v g 164 57) 0 _ _ g0_z g1_z g2_z g3_z hm_z)
      · replace b1954_z : (0 : Int32).toInt ≤ v1_z.toInt := b1954_z
        replace hm_z := rn_aload_n (am_cur_of (i := (39, 1, .aload_n 0, (0, 0, 0), 0)) (by decide +kernel)) g0_z hm_z
        replace hm_z := rn_getR (x := 199) (am_cur_of (i := (40, 3, .getfield 124, (12, 76, 1460), 0)) (by decide +kernel)) (by decide +kernel) hm_z
        replace hm_z := rn_iload_n (am_cur_of (i := (43, 1, .iload_n 1, (0, 0, 0), 0)) (by decide +kernel)) g1_z hm_z
        replace hm_z := rn_baload (N := 24) (q := v1_z.toNatClampNeg) (v := rg_v g 199 v1_z.toNatClampNeg) (am_cur_of (i := (44, 1, .baload, (0, 0, 0), 0)) (by decide +kernel)) (by decide +kernel) rfl rfl hm_z
        obtain ⟨p1961_z, hm_z⟩ := hm_z
        replace hm_z := rn_if (am_cur_of (i := (45, 3, .ifCond .eq 30, (47, 0, 0), 0)) (by decide +kernel)) hm_z
        rcases hm_z with ⟨b1962_z, hm_z⟩ | ⟨b1962_z, hm_z⟩
        · replace b1962_z : (rg_v g 199 v1_z.toNatClampNeg) = (0 : Int32) ∧ (rg_v g 199 v1_z.toNatClampNeg).toInt = (0 : Int32).toInt := b1962_z
          exact bk_t bk_r (H47 v1_z _ _ g0_z g1_z hm_z)
        · replace b1962_z : ¬ (rg_v g 199 v1_z.toNatClampNeg) = (0 : Int32) ∧ ¬ (rg_v g 199 v1_z.toNatClampNeg).toInt = (0 : Int32).toInt := b1962_z
          replace hm_z := rn_aload_n (am_cur_of (i := (48, 1, .aload_n 0, (0, 0, 0), 0)) (by decide +kernel)) g0_z hm_z
          replace hm_z := rn_getR (x := 198) (am_cur_of (i := (49, 3, .getfield 121, (12, 75, 1459), 0)) (by decide +kernel)) (by decide +kernel) hm_z
          replace hm_z := rn_iconst (w := 4) (am_cur_of (i := (52, 1, .iconst 4, (0, 0, 0), 0)) (by decide +kernel)) (by decide) hm_z
          replace hm_z := rn_iload_n (am_cur_of (i := (53, 1, .iload_n 1, (0, 0, 0), 0)) (by decide +kernel)) g1_z hm_z
          replace hm_z := rn_imul (w := (4 : Int32) * v1_z) (am_cur_of (i := (54, 1, .imul, (0, 0, 0), 0)) (by decide +kernel)) rfl hm_z
          replace hm_z := rn_iaload (N := 96) (q := ((4 : Int32) * v1_z).toNatClampNeg) (v := rg_v g 198 (((4 : Int32) * v1_z).toNatClampNeg)) (am_cur_of (i := (55, 1, .iaload, (0, 0, 0), 0)) (by decide +kernel)) (by decide +kernel) rfl rfl hm_z
          obtain ⟨p1963_z, hm_z⟩ := hm_z
          replace hm_z := rn_if (am_cur_of (i := (56, 3, .ifCond .ge 19, (47, 0, 0), 0)) (by decide +kernel)) hm_z
          rcases hm_z with ⟨b1964_z, hm_z⟩ | ⟨b1964_z, hm_z⟩
          · replace b1964_z : (0 : Int32).toInt ≤ (rg_v g 198 (((4 : Int32) * v1_z).toNatClampNeg)).toInt := b1964_z
            exact bk_t bk_r (H47 v1_z _ _ g0_z g1_z hm_z)
          · replace b1964_z : (rg_v g 198 (((4 : Int32) * v1_z).toNatClampNeg)).toInt < (0 : Int32).toInt := b1964_z
            replace hm_z := rn_aload_n (am_cur_of (i := (59, 1, .aload_n 0, (0, 0, 0), 0)) (by decide +kernel)) g0_z hm_z
            replace hm_z := rn_getR (x := 199) (am_cur_of (i := (60, 3, .getfield 124, (12, 76, 1460), 0)) (by decide +kernel)) (by decide +kernel) hm_z
            replace hm_z := rn_aload_n (am_cur_of (i := (63, 1, .aload_n 0, (0, 0, 0), 0)) (by decide +kernel)) g0_z hm_z
            replace hm_z := rn_getR (x := 198) (am_cur_of (i := (64, 3, .getfield 121, (12, 75, 1459), 0)) (by decide +kernel)) (by decide +kernel) hm_z
            replace hm_z := rn_iconst (w := 4) (am_cur_of (i := (67, 1, .iconst 4, (0, 0, 0), 0)) (by decide +kernel)) (by decide) hm_z
            replace hm_z := rn_iload_n (am_cur_of (i := (68, 1, .iload_n 1, (0, 0, 0), 0)) (by decide +kernel)) g1_z hm_z
            replace hm_z := rn_imul (w := (4 : Int32) * v1_z) (am_cur_of (i := (69, 1, .imul, (0, 0, 0), 0)) (by decide +kernel)) rfl hm_z
            replace hm_z := rn_iconst (w := 1) (am_cur_of (i := (70, 1, .iconst 1, (0, 0, 0), 0)) (by decide +kernel)) (by decide) hm_z
            replace hm_z := rn_iadd (w := ((4 : Int32) * v1_z) + 1) (am_cur_of (i := (71, 1, .iadd, (0, 0, 0), 0)) (by decide +kernel)) rfl hm_z
            replace hm_z := rn_iaload (N := 96) (q := (((4 : Int32) * v1_z) + 1).toNatClampNeg) (v := rg_v g 198 ((((4 : Int32) * v1_z) + 1).toNatClampNeg)) (am_cur_of (i := (72, 1, .iaload, (0, 0, 0), 0)) (by decide +kernel)) (by decide +kernel) rfl rfl hm_z
            obtain ⟨p1965_z, hm_z⟩ := hm_z
            replace hm_z := rn_iconst (w := 0) (am_cur_of (i := (73, 1, .iconst 0, (0, 0, 0), 0)) (by decide +kernel)) (by decide) hm_z
            replace hm_z := rn_bastore (N := 24) (q := (rg_v g 198 ((((4 : Int32) * v1_z) + 1).toNatClampNeg)).toNatClampNeg) (am_cur_of (i := (74, 1, .bastore, (0, 0, 0), 0)) (by decide +kernel)) (by decide +kernel) rfl hm_z
            obtain ⟨p1966_z, hm_z⟩ := hm_z
            exact bk_t (bk_u rfl bk_r) (H47 v1_z _ _ g0_z g1_z hm_z)
    have H5 : ∀ (v1_z : Int32) (ls : am_L) (g : am_H), am_get ls 0 = some (.ref 164) → am_get ls 1 = some (.int v1_z) → rn (f + 1) am_m244 5 ls [] g r g' → bk g g' := by
      intro v1_z ls g g0_z g1_z hm_z
      replace hm_z := rn_iload_n (am_cur_of (i := (7, 1, .iload_n 1, (0, 0, 0), 0)) (by decide +kernel)) g1_z hm_z
      replace hm_z := rn_aload_n (am_cur_of (i := (8, 1, .aload_n 0, (0, 0, 0), 0)) (by decide +kernel)) g0_z hm_z
      replace hm_z := rn_callV (M' := am_m245) (o := 164) (ar := []) (rest := [.int v1_z]) (L := lv_args 0 [.ref 164]) (am_cur_of (i := (9, 3, .invokevirtual 524, (245, 2011, 3), 0)) (by decide +kernel)) rfl rfl rfl rfl hm_z
      obtain ⟨r1967_z, h1968_z, q1969_z, hm_z⟩ := hm_z
      have k1970_z := fk_245 q1969_z
      obtain ⟨v1971_z, rfl⟩ := rn_ret (M := am_m245) rfl (by decide) q1969_z
      replace hm_z : rn _ _ _ _ [.int v1971_z, .int v1_z] _ _ _ := hm_z
      replace hm_z := rn_cmp (am_cur_of (i := (12, 3, .if_icmp .ge 16, (16, 0, 0), 0)) (by decide +kernel)) hm_z
      rcases hm_z with ⟨b1972_z, hm_z⟩ | ⟨b1972_z, hm_z⟩
      · replace b1972_z : v1971_z.toInt ≤ v1_z.toInt := b1972_z
        replace hm_z := rn_aload_n (am_cur_of (i := (28, 1, .aload_n 0, (0, 0, 0), 0)) (by decide +kernel)) g0_z hm_z
        replace hm_z := rn_callV (M' := am_m245) (o := 164) (ar := []) (rest := []) (L := lv_args 0 [.ref 164]) (am_cur_of (i := (29, 3, .invokevirtual 524, (245, 2011, 3), 0)) (by decide +kernel)) rfl rfl rfl rfl hm_z
        obtain ⟨r1973_z, h1974_z, q1975_z, hm_z⟩ := hm_z
        have k1976_z := fk_245 q1975_z
        obtain ⟨v1977_z, rfl⟩ := rn_ret (M := am_m245) rfl (by decide) q1975_z
        replace hm_z : rn _ _ _ _ [.int v1977_z] _ _ _ := hm_z
        replace hm_z := rn_iconst (w := 1) (am_cur_of (i := (32, 1, .iconst 1, (0, 0, 0), 0)) (by decide +kernel)) (by decide) hm_z
        replace hm_z := rn_isub (w := v1977_z - 1) (am_cur_of (i := (33, 1, .isub, (0, 0, 0), 0)) (by decide +kernel)) rfl hm_z
        replace hm_z := rn_istore_n (am_cur_of (i := (34, 1, .istore_n 1, (0, 0, 0), 0)) (by decide +kernel)) hm_z
        obtain ⟨_, s1978_z, s1979_z, g1_z, hm_z⟩ := hm_z
        replace g0_z := s1978_z 0 _ (by decide) rfl g0_z
        clear s1978_z s1979_z
        exact bk_t (bk_t (bk_t bk_r k1970_z) k1976_z) (H21 (v1977_z - 1) _ _ g0_z g1_z hm_z)
      · replace b1972_z : v1_z.toInt < v1971_z.toInt := b1972_z
        replace hm_z := rn_aload_n (am_cur_of (i := (15, 1, .aload_n 0, (0, 0, 0), 0)) (by decide +kernel)) g0_z hm_z
        replace hm_z := rn_getR (x := 199) (am_cur_of (i := (16, 3, .getfield 124, (12, 76, 1460), 0)) (by decide +kernel)) (by decide +kernel) hm_z
        replace hm_z := rn_iload_n (am_cur_of (i := (19, 1, .iload_n 1, (0, 0, 0), 0)) (by decide +kernel)) g1_z hm_z
        replace hm_z := rn_iconst (w := 1) (am_cur_of (i := (20, 1, .iconst 1, (0, 0, 0), 0)) (by decide +kernel)) (by decide) hm_z
        replace hm_z := rn_bastore (N := 24) (q := v1_z.toNatClampNeg) (am_cur_of (i := (21, 1, .bastore, (0, 0, 0), 0)) (by decide +kernel)) (by decide +kernel) rfl hm_z
        obtain ⟨p1980_z, hm_z⟩ := hm_z
        replace hm_z := rn_iinc (w := v1_z + 1) (am_cur_of (i := (22, 3, .iinc 1 1, (0, 0, 0), 0)) (by decide +kernel)) g1_z rfl hm_z
        obtain ⟨_, s1981_z, s1982_z, g1_z, hm_z⟩ := hm_z
        replace g0_z := s1981_z 0 _ (by decide) rfl g0_z
        clear s1981_z s1982_z
        replace hm_z := rn_gotoL (am_cur_of (i := (25, 3, .goto (-18), (5, 0, 0), 0)) (by decide +kernel)) hm_z
        exact bk_t (bk_u rfl (bk_t bk_r k1970_z)) (I5 (v1_z + 1) _ _ g0_z g1_z hm_z)
    exact ⟨H5, H21, H47, H59⟩
theorem fk_244 {nst : Nat} {r : Option Value} {g g' : am_H}  (hm_z : rn nst am_m244 0 (lv_args 0 [.ref 164]) [] g r g') : bk g g' := by
  have g0_z : am_get (lv_args 0 [.ref 164]) 0 = some (.ref 164) := rfl
  replace hm_z := rn_aload_n (am_cur_of (i := (0, 1, .aload_n 0, (0, 0, 0), 0)) (by decide +kernel)) g0_z hm_z
  replace hm_z := rn_iconst (w := 0) (am_cur_of (i := (1, 1, .iconst 0, (0, 0, 0), 0)) (by decide +kernel)) (by decide) hm_z
  replace hm_z := rn_put (am_cur_of (i := (2, 3, .putfield 139, (12, 2, 1386), 0)) (by decide +kernel)) (by decide +kernel) hm_z
  replace hm_z := rn_iconst (w := 0) (am_cur_of (i := (5, 1, .iconst 0, (0, 0, 0), 0)) (by decide +kernel)) (by decide) hm_z
  replace hm_z := rn_istore_n (am_cur_of (i := (6, 1, .istore_n 1, (0, 0, 0), 0)) (by decide +kernel)) hm_z
  obtain ⟨_, s1983_z, s1984_z, g1_z, hm_z⟩ := hm_z
  replace g0_z := s1983_z 0 _ (by decide) rfl g0_z
  clear s1983_z s1984_z
  have H5 := (fk_244_L (r := r) (g' := g')  nst).1
  exact bk_t (bk_u (by decide) bk_r) (H5 0 _ _ g0_z g1_z hm_z)
theorem fk_247_L {r : Option Value} {g' : am_H} {x : Int32} {n : Int32} {y : Int32}  : ∀ f : Nat, (∀ (ls : am_L) (g : am_H), rn f am_m247 15 ls [] g r g' → bk g g') ∧ (∀ (v4_z : Int64) (v6_z : Int32) (v7_z : Int32) (ls : am_L) (g : am_H), am_get ls 0 = some (.ref 164) → am_get ls 2 = some (.int n) → am_get ls 3 = some (.int y) → am_get ls 4 = some (.long v4_z) → am_get ls 6 = some (.int v6_z) → am_get ls 7 = some (.int v7_z) → rn f am_m247 28 ls [] g r g' → bk g g') ∧ (∀ (v4_z : Int64) (v6_z : Int32) (v7_z : Int32) (v8_z : Int32) (ls : am_L) (g : am_H), am_get ls 0 = some (.ref 164) → am_get ls 2 = some (.int n) → am_get ls 3 = some (.int y) → am_get ls 4 = some (.long v4_z) → am_get ls 6 = some (.int v6_z) → am_get ls 7 = some (.int v7_z) → am_get ls 8 = some (.int v8_z) → rn f am_m247 37 ls [] g r g' → bk g g') := by
  intro f
  induction f with
  | zero =>
    exact ⟨fun _ _ hm_z => absurd hm_z rn_0, fun _ _ _ _ _ _ _ _ _ _ _ hm_z => absurd hm_z rn_0, fun _ _ _ _ _ _ _ _ _ _ _ _ _ hm_z => absurd hm_z rn_0⟩
  | succ f ih_z =>
    obtain ⟨I15, I28, I37⟩ := ih_z
    have H37 : ∀ (v4_z : Int64) (v6_z : Int32) (v7_z : Int32) (v8_z : Int32) (ls : am_L) (g : am_H), am_get ls 0 = some (.ref 164) → am_get ls 2 = some (.int n) → am_get ls 3 = some (.int y) → am_get ls 4 = some (.long v4_z) → am_get ls 6 = some (.int v6_z) → am_get ls 7 = some (.int v7_z) → am_get ls 8 = some (.int v8_z) → rn (f + 1) am_m247 37 ls [] g r g' → bk g g' := by
      intro v4_z v6_z v7_z v8_z ls g g0_z g2_z g3_z g4_z g6_z g7_z g8_z hm_z
      replace hm_z := rn_iload (am_cur_of (i := (67, 2, .iload 8, (0, 0, 0), 0)) (by decide +kernel)) g8_z hm_z
      replace hm_z := rn_iload_n (am_cur_of (i := (69, 1, .iload_n 2, (0, 0, 0), 0)) (by decide +kernel)) g2_z hm_z
      replace hm_z := rn_cmp (am_cur_of (i := (70, 3, .if_icmp .ge 40, (59, 0, 0), 0)) (by decide +kernel)) hm_z
      rcases hm_z with ⟨b1985_z, hm_z⟩ | ⟨b1985_z, hm_z⟩
      · replace b1985_z : n.toInt ≤ v8_z.toInt := b1985_z
        replace hm_z := rn_iload (am_cur_of (i := (110, 2, .iload 6, (0, 0, 0), 0)) (by decide +kernel)) g6_z hm_z
        replace hm_z := rn_aload_n (am_cur_of (i := (112, 1, .aload_n 0, (0, 0, 0), 0)) (by decide +kernel)) g0_z hm_z
        replace hm_z := rn_getR (x := 188) (am_cur_of (i := (113, 3, .getfield 85, (12, 50, 1434), 0)) (by decide +kernel)) (by decide +kernel) hm_z
        replace hm_z := rn_iconst (w := 1) (am_cur_of (i := (116, 1, .iconst 1, (0, 0, 0), 0)) (by decide +kernel)) (by decide) hm_z
        replace hm_z := rn_iaload (N := 4) (q := 1) (v := rg_v g 188 1) (am_cur_of (i := (117, 1, .iaload, (0, 0, 0), 0)) (by decide +kernel)) (by decide +kernel) rfl rfl hm_z
        obtain ⟨p1986_z, hm_z⟩ := hm_z
        replace hm_z := rn_iload_n (am_cur_of (i := (118, 1, .iload_n 3, (0, 0, 0), 0)) (by decide +kernel)) g3_z hm_z
        replace hm_z := rn_cmp (am_cur_of (i := (119, 3, .if_icmp .lt 7, (68, 0, 0), 0)) (by decide +kernel)) hm_z
        rcases hm_z with ⟨b1987_z, hm_z⟩ | ⟨b1987_z, hm_z⟩
        · replace b1987_z : (rg_v g 188 1).toInt < y.toInt := b1987_z
          replace hm_z := rn_iconst (w := 0) (am_cur_of (i := (126, 1, .iconst 0, (0, 0, 0), 0)) (by decide +kernel)) (by decide) hm_z
          replace hm_z := rn_iadd (w := v6_z + 0) (am_cur_of (i := (127, 1, .iadd, (0, 0, 0), 0)) (by decide +kernel)) rfl hm_z
          replace hm_z := rn_istore (am_cur_of (i := (128, 2, .istore 6, (0, 0, 0), 0)) (by decide +kernel)) hm_z
          obtain ⟨_, s1988_z, s1989_z, g6_z, hm_z⟩ := hm_z
          replace g0_z := s1988_z 0 _ (by decide) rfl g0_z
          replace g2_z := s1988_z 2 _ (by decide) rfl g2_z
          replace g3_z := s1988_z 3 _ (by decide) rfl g3_z
          replace g4_z := s1989_z 4 _ (by decide) (by decide) g4_z
          replace g7_z := s1988_z 7 _ (by decide) rfl g7_z
          replace g8_z := s1988_z 8 _ (by decide) rfl g8_z
          clear s1988_z s1989_z
          replace hm_z := rn_iinc (w := v7_z + 1) (am_cur_of (i := (130, 3, .iinc 7 1, (0, 0, 0), 0)) (by decide +kernel)) g7_z rfl hm_z
          obtain ⟨_, s1990_z, s1991_z, g7_z, hm_z⟩ := hm_z
          replace g0_z := s1990_z 0 _ (by decide) rfl g0_z
          replace g2_z := s1990_z 2 _ (by decide) rfl g2_z
          replace g3_z := s1990_z 3 _ (by decide) rfl g3_z
          replace g4_z := s1991_z 4 _ (by decide) (by decide) g4_z
          replace g6_z := s1990_z 6 _ (by decide) rfl g6_z
          replace g8_z := s1990_z 8 _ (by decide) rfl g8_z
          clear s1990_z s1991_z
          replace hm_z := rn_gotoL (am_cur_of (i := (133, 3, .goto (-82), (28, 0, 0), 0)) (by decide +kernel)) hm_z
          exact bk_t bk_r (I28 v4_z (v6_z + 0) (v7_z + 1) _ _ g0_z g2_z g3_z g4_z g6_z g7_z hm_z)
        · replace b1987_z : y.toInt ≤ (rg_v g 188 1).toInt := b1987_z
          replace hm_z := rn_iconst (w := 1) (am_cur_of (i := (122, 1, .iconst 1, (0, 0, 0), 0)) (by decide +kernel)) (by decide) hm_z
          replace hm_z := rn_goto (am_cur_of (i := (123, 3, .goto 4, (69, 0, 0), 0)) (by decide +kernel)) hm_z
          replace hm_z := rn_iadd (w := v6_z + 1) (am_cur_of (i := (127, 1, .iadd, (0, 0, 0), 0)) (by decide +kernel)) rfl hm_z
          replace hm_z := rn_istore (am_cur_of (i := (128, 2, .istore 6, (0, 0, 0), 0)) (by decide +kernel)) hm_z
          obtain ⟨_, s1992_z, s1993_z, g6_z, hm_z⟩ := hm_z
          replace g0_z := s1992_z 0 _ (by decide) rfl g0_z
          replace g2_z := s1992_z 2 _ (by decide) rfl g2_z
          replace g3_z := s1992_z 3 _ (by decide) rfl g3_z
          replace g4_z := s1993_z 4 _ (by decide) (by decide) g4_z
          replace g7_z := s1992_z 7 _ (by decide) rfl g7_z
          replace g8_z := s1992_z 8 _ (by decide) rfl g8_z
          clear s1992_z s1993_z
          replace hm_z := rn_iinc (w := v7_z + 1) (am_cur_of (i := (130, 3, .iinc 7 1, (0, 0, 0), 0)) (by decide +kernel)) g7_z rfl hm_z
          obtain ⟨_, s1994_z, s1995_z, g7_z, hm_z⟩ := hm_z
          replace g0_z := s1994_z 0 _ (by decide) rfl g0_z
          replace g2_z := s1994_z 2 _ (by decide) rfl g2_z
          replace g3_z := s1994_z 3 _ (by decide) rfl g3_z
          replace g4_z := s1995_z 4 _ (by decide) (by decide) g4_z
          replace g6_z := s1994_z 6 _ (by decide) rfl g6_z
          replace g8_z := s1994_z 8 _ (by decide) rfl g8_z
          clear s1994_z s1995_z
          replace hm_z := rn_gotoL (am_cur_of (i := (133, 3, .goto (-82), (28, 0, 0), 0)) (by decide +kernel)) hm_z
          exact bk_t bk_r (I28 v4_z (v6_z + 1) (v7_z + 1) _ _ g0_z g2_z g3_z g4_z g6_z g7_z hm_z)
      · replace b1985_z : v8_z.toInt < n.toInt := b1985_z
        replace hm_z := rn_aload_n (am_cur_of (i := (73, 1, .aload_n 0, (0, 0, 0), 0)) (by decide +kernel)) g0_z hm_z
        replace hm_z := rn_sipush (w := 1000) (am_cur_of (i := (74, 3, .sipush 1000, (0, 0, 0), 0)) (by decide +kernel)) (by decide) hm_z
        replace hm_z := rn_callV (M' := am_m148) (o := 164) (ar := [.int 1000]) (rest := []) (L := lv_args 0 [.ref 164, .int 1000]) (am_cur_of (i := (77, 3, .invokevirtual 365, (148, 1376, 3), 0)) (by decide +kernel)) rfl rfl rfl rfl hm_z
        obtain ⟨r1996_z, h1997_z, q1998_z, hm_z⟩ := hm_z
        have k1999_z := fk_148 q1998_z
        obtain ⟨v2000_z, rfl⟩ := rn_ret (M := am_m148) rfl (by decide) q1998_z
        replace hm_z : rn _ _ _ _ [.int v2000_z] _ _ _ := hm_z
        replace hm_z := rn_aload_n (am_cur_of (i := (80, 1, .aload_n 0, (0, 0, 0), 0)) (by decide +kernel)) g0_z hm_z
        replace hm_z := rn_getR (x := 168) (am_cur_of (i := (81, 3, .getfield 24, (12, 23, 1407), 0)) (by decide +kernel)) (by decide +kernel) hm_z
        replace hm_z := rn_iconst (w := 4) (am_cur_of (i := (84, 1, .iconst 4, (0, 0, 0), 0)) (by decide +kernel)) (by decide) hm_z
        replace hm_z := rn_iaload (N := 12) (q := 4) (v := rg_v h1997_z 168 4) (am_cur_of (i := (85, 1, .iaload, (0, 0, 0), 0)) (by decide +kernel)) (by decide +kernel) rfl rfl hm_z
        obtain ⟨p2001_z, hm_z⟩ := hm_z
        replace hm_z := rn_cmp (am_cur_of (i := (86, 3, .if_icmp .ge 7, (50, 0, 0), 0)) (by decide +kernel)) hm_z
        rcases hm_z with ⟨b2002_z, hm_z⟩ | ⟨b2002_z, hm_z⟩
        · replace b2002_z : (rg_v h1997_z 168 4).toInt ≤ v2000_z.toInt := b2002_z
          replace hm_z := rn_iconst (w := 0) (am_cur_of (i := (93, 1, .iconst 0, (0, 0, 0), 0)) (by decide +kernel)) (by decide) hm_z
          replace hm_z := rn_istore (am_cur_of (i := (94, 2, .istore 9, (0, 0, 0), 0)) (by decide +kernel)) hm_z
          obtain ⟨_, s2003_z, s2004_z, g9_z, hm_z⟩ := hm_z
          replace g0_z := s2003_z 0 _ (by decide) rfl g0_z
          replace g2_z := s2003_z 2 _ (by decide) rfl g2_z
          replace g3_z := s2003_z 3 _ (by decide) rfl g3_z
          replace g4_z := s2004_z 4 _ (by decide) (by decide) g4_z
          replace g6_z := s2003_z 6 _ (by decide) rfl g6_z
          replace g7_z := s2003_z 7 _ (by decide) rfl g7_z
          replace g8_z := s2003_z 8 _ (by decide) rfl g8_z
          clear s2003_z s2004_z
          replace hm_z := rn_aload_n (am_cur_of (i := (96, 1, .aload_n 0, (0, 0, 0), 0)) (by decide +kernel)) g0_z hm_z
          replace hm_z := rn_iconst (w := 1) (am_cur_of (i := (97, 1, .iconst 1, (0, 0, 0), 0)) (by decide +kernel)) (by decide) hm_z
          replace hm_z := rn_iload (am_cur_of (i := (98, 2, .iload 9, (0, 0, 0), 0)) (by decide +kernel)) g9_z hm_z
          replace hm_z := rn_iconst (w := 0) (am_cur_of (i := (100, 1, .iconst 0, (0, 0, 0), 0)) (by decide +kernel)) (by decide) hm_z
          replace hm_z := rn_callV (M' := am_m199) (o := 164) (ar := [.int 0, .int 0, .int 1]) (rest := []) (L := lv_args 0 [.ref 164, .int 1, .int 0, .int 0]) (am_cur_of (i := (101, 3, .invokevirtual 434, (199, 1828, 3), 0)) (by decide +kernel)) rfl rfl rfl rfl hm_z
          obtain ⟨r2005_z, h2006_z, q2007_z, hm_z⟩ := hm_z
          have k2008_z := fk_199_1 q2007_z
          have vo := rn_void rfl q2007_z
          subst vo
          replace hm_z : rn _ _ _ _ [] _ _ _ := hm_z
          replace hm_z := rn_iinc (w := v8_z + 1) (am_cur_of (i := (104, 3, .iinc 8 1, (0, 0, 0), 0)) (by decide +kernel)) g8_z rfl hm_z
          obtain ⟨_, s2009_z, s2010_z, g8_z, hm_z⟩ := hm_z
          replace g0_z := s2009_z 0 _ (by decide) rfl g0_z
          replace g2_z := s2009_z 2 _ (by decide) rfl g2_z
          replace g3_z := s2009_z 3 _ (by decide) rfl g3_z
          replace g4_z := s2010_z 4 _ (by decide) (by decide) g4_z
          replace g6_z := s2009_z 6 _ (by decide) rfl g6_z
          replace g7_z := s2009_z 7 _ (by decide) rfl g7_z
          replace g9_z := s2009_z 9 _ (by decide) rfl g9_z
          clear s2009_z s2010_z
          replace hm_z := rn_gotoL (am_cur_of (i := (107, 3, .goto (-40), (37, 0, 0), 0)) (by decide +kernel)) hm_z
          exact bk_t (bk_t (bk_t bk_r k1999_z) k2008_z) (I37 v4_z v6_z v7_z (v8_z + 1) _ _ g0_z g2_z g3_z g4_z g6_z g7_z g8_z hm_z)
        · replace b2002_z : v2000_z.toInt < (rg_v h1997_z 168 4).toInt := b2002_z
          replace hm_z := rn_iconst (w := 1) (am_cur_of (i := (89, 1, .iconst 1, (0, 0, 0), 0)) (by decide +kernel)) (by decide) hm_z
          replace hm_z := rn_goto (am_cur_of (i := (90, 3, .goto 4, (51, 0, 0), 0)) (by decide +kernel)) hm_z
          replace hm_z := rn_istore (am_cur_of (i := (94, 2, .istore 9, (0, 0, 0), 0)) (by decide +kernel)) hm_z
          obtain ⟨_, s2011_z, s2012_z, g9_z, hm_z⟩ := hm_z
          replace g0_z := s2011_z 0 _ (by decide) rfl g0_z
          replace g2_z := s2011_z 2 _ (by decide) rfl g2_z
          replace g3_z := s2011_z 3 _ (by decide) rfl g3_z
          replace g4_z := s2012_z 4 _ (by decide) (by decide) g4_z
          replace g6_z := s2011_z 6 _ (by decide) rfl g6_z
          replace g7_z := s2011_z 7 _ (by decide) rfl g7_z
          replace g8_z := s2011_z 8 _ (by decide) rfl g8_z
          clear s2011_z s2012_z
          replace hm_z := rn_aload_n (am_cur_of (i := (96, 1, .aload_n 0, (0, 0, 0), 0)) (by decide +kernel)) g0_z hm_z
          replace hm_z := rn_iconst (w := 1) (am_cur_of (i := (97, 1, .iconst 1, (0, 0, 0), 0)) (by decide +kernel)) (by decide) hm_z
          replace hm_z := rn_iload (am_cur_of (i := (98, 2, .iload 9, (0, 0, 0), 0)) (by decide +kernel)) g9_z hm_z
          replace hm_z := rn_iconst (w := 0) (am_cur_of (i := (100, 1, .iconst 0, (0, 0, 0), 0)) (by decide +kernel)) (by decide) hm_z
          replace hm_z := rn_callV (M' := am_m199) (o := 164) (ar := [.int 0, .int 1, .int 1]) (rest := []) (L := lv_args 0 [.ref 164, .int 1, .int 1, .int 0]) (am_cur_of (i := (101, 3, .invokevirtual 434, (199, 1828, 3), 0)) (by decide +kernel)) rfl rfl rfl rfl hm_z
          obtain ⟨r2013_z, h2014_z, q2015_z, hm_z⟩ := hm_z
          have k2016_z := fk_199_1 q2015_z
          have vo := rn_void rfl q2015_z
          subst vo
          replace hm_z : rn _ _ _ _ [] _ _ _ := hm_z
          replace hm_z := rn_iinc (w := v8_z + 1) (am_cur_of (i := (104, 3, .iinc 8 1, (0, 0, 0), 0)) (by decide +kernel)) g8_z rfl hm_z
          obtain ⟨_, s2017_z, s2018_z, g8_z, hm_z⟩ := hm_z
          replace g0_z := s2017_z 0 _ (by decide) rfl g0_z
          replace g2_z := s2017_z 2 _ (by decide) rfl g2_z
          replace g3_z := s2017_z 3 _ (by decide) rfl g3_z
          replace g4_z := s2018_z 4 _ (by decide) (by decide) g4_z
          replace g6_z := s2017_z 6 _ (by decide) rfl g6_z
          replace g7_z := s2017_z 7 _ (by decide) rfl g7_z
          replace g9_z := s2017_z 9 _ (by decide) rfl g9_z
          clear s2017_z s2018_z
          replace hm_z := rn_gotoL (am_cur_of (i := (107, 3, .goto (-40), (37, 0, 0), 0)) (by decide +kernel)) hm_z
          exact bk_t (bk_t (bk_t bk_r k1999_z) k2016_z) (I37 v4_z v6_z v7_z (v8_z + 1) _ _ g0_z g2_z g3_z g4_z g6_z g7_z g8_z hm_z)
    have H28 : ∀ (v4_z : Int64) (v6_z : Int32) (v7_z : Int32) (ls : am_L) (g : am_H), am_get ls 0 = some (.ref 164) → am_get ls 2 = some (.int n) → am_get ls 3 = some (.int y) → am_get ls 4 = some (.long v4_z) → am_get ls 6 = some (.int v6_z) → am_get ls 7 = some (.int v7_z) → rn (f + 1) am_m247 28 ls [] g r g' → bk g g' := by
      intro v4_z v6_z v7_z ls g g0_z g2_z g3_z g4_z g6_z g7_z hm_z
      have z10_z : (10 : Int32).toInt = 10 := by decide
      replace hm_z := rn_iload (am_cur_of (i := (51, 2, .iload 7, (0, 0, 0), 0)) (by decide +kernel)) g7_z hm_z
      replace hm_z := rn_bipush (w := 10) (am_cur_of (i := (53, 2, .bipush 10, (0, 0, 0), 0)) (by decide +kernel)) (by decide) hm_z
      replace hm_z := rn_cmp (am_cur_of (i := (55, 3, .if_icmp .ge 81, (73, 0, 0), 0)) (by decide +kernel)) hm_z
      rcases hm_z with ⟨b2019_z, hm_z⟩ | ⟨b2019_z, hm_z⟩
      · replace b2019_z : (10 : Int32).toInt ≤ v7_z.toInt := b2019_z
        replace hm_z := rn_aload_n (am_cur_of (i := (136, 1, .aload_n 0, (0, 0, 0), 0)) (by decide +kernel)) g0_z hm_z
        replace hm_z := rn_lload (am_cur_of (i := (137, 2, .lload 4, (0, 0, 0), 0)) (by decide +kernel)) g4_z hm_z
        replace hm_z := rn_put (am_cur_of (i := (139, 3, .putfield 358, (12, 59, 1443), 0)) (by decide +kernel)) (by decide +kernel) hm_z
        replace hm_z := rn_iload (am_cur_of (i := (142, 2, .iload 6, (0, 0, 0), 0)) (by decide +kernel)) g6_z hm_z
        replace hm_z := rn_iret (am_cur_of (i := (144, 1, .ireturn, (0, 0, 0), 0)) (by decide +kernel)) hm_z
        obtain ⟨e2020_z, e2021_z⟩ := hm_z
        rw [e2021_z]
        exact (bk_u (by decide) bk_r)
      · replace b2019_z : v7_z.toInt < (10 : Int32).toInt := b2019_z
        replace hm_z := rn_aload_n (am_cur_of (i := (58, 1, .aload_n 0, (0, 0, 0), 0)) (by decide +kernel)) g0_z hm_z
        replace hm_z := rn_iconst (w := 1) (am_cur_of (i := (59, 1, .iconst 1, (0, 0, 0), 0)) (by decide +kernel)) (by decide) hm_z
        replace hm_z := rn_iconst (w := 0) (am_cur_of (i := (60, 1, .iconst 0, (0, 0, 0), 0)) (by decide +kernel)) (by decide) hm_z
        replace hm_z := rn_callV (M' := am_m197) (o := 164) (ar := [.int 0, .int 1]) (rest := []) (L := lv_args 0 [.ref 164, .int 1, .int 0]) (am_cur_of (i := (61, 3, .invokevirtual 428, (197, 1820, 3), 0)) (by decide +kernel)) rfl rfl rfl rfl hm_z
        obtain ⟨r2022_z, h2023_z, q2024_z, hm_z⟩ := hm_z
        have k2025_z := fk_197_1_0 q2024_z
        have vo := rn_void rfl q2024_z
        subst vo
        replace hm_z : rn _ _ _ _ [] _ _ _ := hm_z
        replace hm_z := rn_iconst (w := 0) (am_cur_of (i := (64, 1, .iconst 0, (0, 0, 0), 0)) (by decide +kernel)) (by decide) hm_z
        replace hm_z := rn_istore (am_cur_of (i := (65, 2, .istore 8, (0, 0, 0), 0)) (by decide +kernel)) hm_z
        obtain ⟨_, s2026_z, s2027_z, g8_z, hm_z⟩ := hm_z
        replace g0_z := s2026_z 0 _ (by decide) rfl g0_z
        replace g2_z := s2026_z 2 _ (by decide) rfl g2_z
        replace g3_z := s2026_z 3 _ (by decide) rfl g3_z
        replace g4_z := s2027_z 4 _ (by decide) (by decide) g4_z
        replace g6_z := s2026_z 6 _ (by decide) rfl g6_z
        replace g7_z := s2026_z 7 _ (by decide) rfl g7_z
        clear s2026_z s2027_z
        exact bk_t (bk_t bk_r k2025_z) (H37 v4_z v6_z v7_z 0 _ _ g0_z g2_z g3_z g4_z g6_z g7_z g8_z hm_z)
    have H15 : ∀ (ls : am_L) (g : am_H), rn (f + 1) am_m247 15 ls [] g r g' → bk g g' := by
      intro ls g hm_z
      replace hm_z := rn_iconst (w := (-1)) (am_cur_of (i := (31, 1, .iconst (-1), (0, 0, 0), 0)) (by decide +kernel)) (by decide) hm_z
      replace hm_z := rn_iret (am_cur_of (i := (32, 1, .ireturn, (0, 0, 0), 0)) (by decide +kernel)) hm_z
      obtain ⟨e2028_z, e2029_z⟩ := hm_z
      rw [e2029_z]
      exact bk_r
    exact ⟨H15, H28, H37⟩
theorem fk_247 {nst : Nat} {r : Option Value} {g g' : am_H} {x : Int32} {n : Int32} {y : Int32}  (hm_z : rn nst am_m247 0 (lv_args 0 [.ref 164, .int x, .int n, .int y]) [] g r g') : bk g g' := by
  have z0_z : (0 : Int32).toInt = 0 := by decide
  have g0_z : am_get (lv_args 0 [.ref 164, .int x, .int n, .int y]) 0 = some (.ref 164) := rfl
  have g1_z : am_get (lv_args 0 [.ref 164, .int x, .int n, .int y]) 1 = some (.int x) := rfl
  have g2_z : am_get (lv_args 0 [.ref 164, .int x, .int n, .int y]) 2 = some (.int n) := rfl
  have g3_z : am_get (lv_args 0 [.ref 164, .int x, .int n, .int y]) 3 = some (.int y) := rfl
  replace hm_z := rn_aload_n (am_cur_of (i := (0, 1, .aload_n 0, (0, 0, 0), 0)) (by decide +kernel)) g0_z hm_z
  replace hm_z := rn_iconst (w := 0) (am_cur_of (i := (1, 1, .iconst 0, (0, 0, 0), 0)) (by decide +kernel)) (by decide) hm_z
  replace hm_z := rn_put (am_cur_of (i := (2, 3, .putfield 139, (12, 2, 1386), 0)) (by decide +kernel)) (by decide +kernel) hm_z
  replace hm_z := rn_iload_n (am_cur_of (i := (5, 1, .iload_n 1, (0, 0, 0), 0)) (by decide +kernel)) g1_z hm_z
  replace hm_z := rn_if (am_cur_of (i := (6, 3, .ifCond .lt 25, (15, 0, 0), 0)) (by decide +kernel)) hm_z
  rcases hm_z with ⟨b2030_z, hm_z⟩ | ⟨b2030_z, hm_z⟩
  · replace b2030_z : x.toInt < (0 : Int32).toInt := b2030_z
    have H15 := (fk_247_L (r := r) (g' := g') (x := x) (n := n) (y := y)  nst).1
    exact bk_t (bk_u (by decide) bk_r) (H15 _ _ hm_z)
  · replace b2030_z : (0 : Int32).toInt ≤ x.toInt := b2030_z
    replace hm_z := rn_iload_n (am_cur_of (i := (9, 1, .iload_n 2, (0, 0, 0), 0)) (by decide +kernel)) g2_z hm_z
    replace hm_z := rn_iconst (w := 1) (am_cur_of (i := (10, 1, .iconst 1, (0, 0, 0), 0)) (by decide +kernel)) (by decide) hm_z
    replace hm_z := rn_sipush (w := 600) (am_cur_of (i := (11, 3, .sipush 600, (0, 0, 0), 0)) (by decide +kernel)) (by decide) hm_z
    replace hm_z := rn_callS (M' := am_m162) (ar := [.int 600, .int 1, .int n]) (rest := []) (L := lv_args 0 [.int n, .int 1, .int 600]) (am_cur_of (i := (14, 3, .invokestatic 184, (162, 1681, 3), 0)) (by decide +kernel)) rfl rfl rfl rfl hm_z
    obtain ⟨r2031_z, h2032_z, q2033_z, hm_z⟩ := hm_z
    have k2034_z := nq_162 q2033_z
    obtain ⟨v2035_z, rfl⟩ := rn_ret (M := am_m162) rfl (by decide) q2033_z
    replace hm_z : rn _ _ _ _ [.int v2035_z] _ _ _ := hm_z
    replace hm_z := rn_if (am_cur_of (i := (17, 3, .ifCond .eq 14, (15, 0, 0), 0)) (by decide +kernel)) hm_z
    rcases hm_z with ⟨b2036_z, hm_z⟩ | ⟨b2036_z, hm_z⟩
    · replace b2036_z : v2035_z = (0 : Int32) ∧ v2035_z.toInt = (0 : Int32).toInt := b2036_z
      have H15 := (fk_247_L (r := r) (g' := g') (x := x) (n := n) (y := y)  nst).1
      exact bk_t (bk_t (bk_u (by decide) bk_r) (bk_n k2034_z)) (H15 _ _ hm_z)
    · replace b2036_z : ¬ v2035_z = (0 : Int32) ∧ ¬ v2035_z.toInt = (0 : Int32).toInt := b2036_z
      replace hm_z := rn_iload_n (am_cur_of (i := (20, 1, .iload_n 3, (0, 0, 0), 0)) (by decide +kernel)) g3_z hm_z
      replace hm_z := rn_iconst (w := 0) (am_cur_of (i := (21, 1, .iconst 0, (0, 0, 0), 0)) (by decide +kernel)) (by decide) hm_z
      replace hm_z := rn_sipush (w := 9999) (am_cur_of (i := (22, 3, .sipush 9999, (0, 0, 0), 0)) (by decide +kernel)) (by decide) hm_z
      replace hm_z := rn_callS (M' := am_m162) (ar := [.int 9999, .int 0, .int y]) (rest := []) (L := lv_args 0 [.int y, .int 0, .int 9999]) (am_cur_of (i := (25, 3, .invokestatic 184, (162, 1681, 3), 0)) (by decide +kernel)) rfl rfl rfl rfl hm_z
      obtain ⟨r2037_z, h2038_z, q2039_z, hm_z⟩ := hm_z
      have k2040_z := nq_162 q2039_z
      obtain ⟨v2041_z, rfl⟩ := rn_ret (M := am_m162) rfl (by decide) q2039_z
      replace hm_z : rn _ _ _ _ [.int v2041_z] _ _ _ := hm_z
      replace hm_z := rn_if (am_cur_of (i := (28, 3, .ifCond .ne 5, (17, 0, 0), 0)) (by decide +kernel)) hm_z
      rcases hm_z with ⟨b2042_z, hm_z⟩ | ⟨b2042_z, hm_z⟩
      · replace b2042_z : ¬ v2041_z = (0 : Int32) ∧ ¬ v2041_z.toInt = (0 : Int32).toInt := b2042_z
        replace hm_z := rn_aload_n (am_cur_of (i := (33, 1, .aload_n 0, (0, 0, 0), 0)) (by decide +kernel)) g0_z hm_z
        replace hm_z := rn_getL (v := rg_l h2038_z 164 59) (am_cur_of (i := (34, 3, .getfield 358, (12, 59, 1443), 0)) (by decide +kernel)) (by decide +kernel) rfl hm_z
        replace hm_z := rn_lstore (am_cur_of (i := (37, 2, .lstore 4, (0, 0, 0), 0)) (by decide +kernel)) hm_z
        obtain ⟨_, s2043_z, s2044_z, g4_z, hm_z⟩ := hm_z
        replace g0_z := s2043_z 0 _ (by decide) (by decide) rfl g0_z
        replace g1_z := s2043_z 1 _ (by decide) (by decide) rfl g1_z
        replace g2_z := s2043_z 2 _ (by decide) (by decide) rfl g2_z
        replace g3_z := s2043_z 3 _ (by decide) (by decide) rfl g3_z
        clear s2043_z s2044_z
        replace hm_z := rn_aload_n (am_cur_of (i := (39, 1, .aload_n 0, (0, 0, 0), 0)) (by decide +kernel)) g0_z hm_z
        replace hm_z := rn_iload_n (am_cur_of (i := (40, 1, .iload_n 1, (0, 0, 0), 0)) (by decide +kernel)) g1_z hm_z
        replace hm_z := rn_i2l (w := x.toInt64) (am_cur_of (i := (41, 1, .i2l, (0, 0, 0), 0)) (by decide +kernel)) rfl hm_z
        replace hm_z := rn_put (am_cur_of (i := (42, 3, .putfield 358, (12, 59, 1443), 0)) (by decide +kernel)) (by decide +kernel) hm_z
        replace hm_z := rn_iconst (w := 0) (am_cur_of (i := (45, 1, .iconst 0, (0, 0, 0), 0)) (by decide +kernel)) (by decide) hm_z
        replace hm_z := rn_istore (am_cur_of (i := (46, 2, .istore 6, (0, 0, 0), 0)) (by decide +kernel)) hm_z
        obtain ⟨_, s2045_z, s2046_z, g6_z, hm_z⟩ := hm_z
        replace g0_z := s2045_z 0 _ (by decide) rfl g0_z
        replace g1_z := s2045_z 1 _ (by decide) rfl g1_z
        replace g2_z := s2045_z 2 _ (by decide) rfl g2_z
        replace g3_z := s2045_z 3 _ (by decide) rfl g3_z
        replace g4_z := s2046_z 4 _ (by decide) (by decide) g4_z
        clear s2045_z s2046_z
        replace hm_z := rn_iconst (w := 0) (am_cur_of (i := (48, 1, .iconst 0, (0, 0, 0), 0)) (by decide +kernel)) (by decide) hm_z
        replace hm_z := rn_istore (am_cur_of (i := (49, 2, .istore 7, (0, 0, 0), 0)) (by decide +kernel)) hm_z
        obtain ⟨_, s2047_z, s2048_z, g7_z, hm_z⟩ := hm_z
        replace g0_z := s2047_z 0 _ (by decide) rfl g0_z
        replace g1_z := s2047_z 1 _ (by decide) rfl g1_z
        replace g2_z := s2047_z 2 _ (by decide) rfl g2_z
        replace g3_z := s2047_z 3 _ (by decide) rfl g3_z
        replace g4_z := s2048_z 4 _ (by decide) (by decide) g4_z
        replace g6_z := s2047_z 6 _ (by decide) rfl g6_z
        clear s2047_z s2048_z
        have H28 := (fk_247_L (r := r) (g' := g') (x := x) (n := n) (y := y)  nst).2.1
        exact bk_t (bk_u (by decide) (bk_t (bk_t (bk_u (by decide) bk_r) (bk_n k2034_z)) (bk_n k2040_z))) (H28 (rg_l h2038_z 164 59) 0 0 _ _ g0_z g2_z g3_z g4_z g6_z g7_z hm_z)
      · replace b2042_z : v2041_z = (0 : Int32) ∧ v2041_z.toInt = (0 : Int32).toInt := b2042_z
        have H15 := (fk_247_L (r := r) (g' := g') (x := x) (n := n) (y := y)  nst).1
        exact bk_t (bk_t (bk_t (bk_u (by decide) bk_r) (bk_n k2034_z)) (bk_n k2040_z)) (H15 _ _ hm_z)
theorem fk_248_L {r : Option Value} {g' : am_H} {w : Int32} {i : Int32} {n : Int32}  : ∀ f : Nat, (∀ (ls : am_L) (g : am_H), am_get ls 0 = some (.ref 164) → am_get ls 1 = some (.int w) → am_get ls 2 = some (.int i) → am_get ls 3 = some (.int n) → rn f am_m248 25 ls [] g r g' → bk g g') ∧ (∀ (ls : am_L) (g : am_H), rn f am_m248 33 ls [] g r g' → bk g g') ∧ (∀ (ls : am_L) (g : am_H), am_get ls 0 = some (.ref 164) → am_get ls 1 = some (.int w) → am_get ls 2 = some (.int i) → am_get ls 3 = some (.int n) → rn f am_m248 35 ls [] g r g' → bk g g') ∧ (∀ (v4_z : Int32) (ls : am_L) (g : am_H), am_get ls 0 = some (.ref 164) → am_get ls 1 = some (.int w) → am_get ls 3 = some (.int n) → am_get ls 4 = some (.int v4_z) → rn f am_m248 64 ls [] g r g' → bk g g') := by
  intro f
  induction f with
  | zero =>
    exact ⟨fun _ _ _ _ _ _ hm_z => absurd hm_z rn_0, fun _ _ hm_z => absurd hm_z rn_0, fun _ _ _ _ _ _ hm_z => absurd hm_z rn_0, fun _ _ _ _ _ _ _ hm_z => absurd hm_z rn_0⟩
  | succ f ih_z =>
    obtain ⟨I25, I33, I35, I64⟩ := ih_z
    have H64 : ∀ (v4_z : Int32) (ls : am_L) (g : am_H), am_get ls 0 = some (.ref 164) → am_get ls 1 = some (.int w) → am_get ls 3 = some (.int n) → am_get ls 4 = some (.int v4_z) → rn (f + 1) am_m248 64 ls [] g r g' → bk g g' := by
      intro v4_z ls g g0_z g1_z g3_z g4_z hm_z
      have z1_z : (1 : Int32).toInt = 1 := by decide
      have z3_z : (3 : Int32).toInt = 3 := by decide
      replace hm_z := rn_iload (am_cur_of (i := (115, 2, .iload 4, (0, 0, 0), 0)) (by decide +kernel)) g4_z hm_z
      replace hm_z := rn_iload_n (am_cur_of (i := (117, 1, .iload_n 3, (0, 0, 0), 0)) (by decide +kernel)) g3_z hm_z
      replace hm_z := rn_cmp (am_cur_of (i := (118, 3, .if_icmp .ge 34, (84, 0, 0), 0)) (by decide +kernel)) hm_z
      rcases hm_z with ⟨b2049_z, hm_z⟩ | ⟨b2049_z, hm_z⟩
      · replace b2049_z : n.toInt ≤ v4_z.toInt := b2049_z
        replace hm_z := rn_aload_n (am_cur_of (i := (152, 1, .aload_n 0, (0, 0, 0), 0)) (by decide +kernel)) g0_z hm_z
        replace hm_z := rn_iconst (w := 0) (am_cur_of (i := (153, 1, .iconst 0, (0, 0, 0), 0)) (by decide +kernel)) (by decide) hm_z
        replace hm_z := rn_put (am_cur_of (i := (154, 3, .putfield 352, (12, 60, 1444), 0)) (by decide +kernel)) (by decide +kernel) hm_z
        replace hm_z := rn_aload_n (am_cur_of (i := (157, 1, .aload_n 0, (0, 0, 0), 0)) (by decide +kernel)) g0_z hm_z
        replace hm_z := rn_iconst (w := 0) (am_cur_of (i := (158, 1, .iconst 0, (0, 0, 0), 0)) (by decide +kernel)) (by decide) hm_z
        replace hm_z := rn_put (am_cur_of (i := (159, 3, .putfield 355, (12, 61, 1445), 0)) (by decide +kernel)) (by decide +kernel) hm_z
        replace hm_z := rn_aload_n (am_cur_of (i := (162, 1, .aload_n 0, (0, 0, 0), 0)) (by decide +kernel)) g0_z hm_z
        replace hm_z := rn_iconst (w := (-1)) (am_cur_of (i := (163, 1, .iconst (-1), (0, 0, 0), 0)) (by decide +kernel)) (by decide) hm_z
        replace hm_z := rn_put (am_cur_of (i := (164, 3, .putfield 106, (12, 62, 1446), 0)) (by decide +kernel)) (by decide +kernel) hm_z
        replace hm_z := rn_aload_n (am_cur_of (i := (167, 1, .aload_n 0, (0, 0, 0), 0)) (by decide +kernel)) g0_z hm_z
        replace hm_z := rn_getR (x := 188) (am_cur_of (i := (168, 3, .getfield 85, (12, 50, 1434), 0)) (by decide +kernel)) (by decide +kernel) hm_z
        replace hm_z := rn_iconst (w := 1) (am_cur_of (i := (171, 1, .iconst 1, (0, 0, 0), 0)) (by decide +kernel)) (by decide) hm_z
        replace hm_z := rn_iaload (N := 4) (q := 1) (v := rg_v g 188 1) (am_cur_of (i := (172, 1, .iaload, (0, 0, 0), 0)) (by decide +kernel)) (by decide +kernel) rfl (show rg_v (am_up (am_up (am_up g 164 60 (.int 0)) 164 61 (.int 0)) 164 62 (.int (-1))) 188 1 = rg_v g 188 1 from rfl) hm_z
        obtain ⟨p2050_z, hm_z⟩ := hm_z
        replace hm_z := rn_iret (am_cur_of (i := (173, 1, .ireturn, (0, 0, 0), 0)) (by decide +kernel)) hm_z
        obtain ⟨e2051_z, e2052_z⟩ := hm_z
        rw [e2052_z]
        exact (bk_u (by decide) (bk_u (by decide) (bk_u (by decide) bk_r)))
      · replace b2049_z : v4_z.toInt < n.toInt := b2049_z
        replace hm_z := rn_aload_n (am_cur_of (i := (121, 1, .aload_n 0, (0, 0, 0), 0)) (by decide +kernel)) g0_z hm_z
        replace hm_z := rn_iconst (w := 1) (am_cur_of (i := (122, 1, .iconst 1, (0, 0, 0), 0)) (by decide +kernel)) (by decide) hm_z
        replace hm_z := rn_iload_n (am_cur_of (i := (123, 1, .iload_n 1, (0, 0, 0), 0)) (by decide +kernel)) g1_z hm_z
        replace hm_z := rn_iconst (w := 1) (am_cur_of (i := (124, 1, .iconst 1, (0, 0, 0), 0)) (by decide +kernel)) (by decide) hm_z
        replace hm_z := rn_cmp (am_cur_of (i := (125, 3, .if_icmp .ne 7, (74, 0, 0), 0)) (by decide +kernel)) hm_z
        rcases hm_z with ⟨b2053_z, hm_z⟩ | ⟨b2053_z, hm_z⟩
        · replace b2053_z : ¬ w = (1 : Int32) ∧ ¬ w.toInt = (1 : Int32).toInt := b2053_z
          replace hm_z := rn_iconst (w := 0) (am_cur_of (i := (132, 1, .iconst 0, (0, 0, 0), 0)) (by decide +kernel)) (by decide) hm_z
          replace hm_z := rn_iload_n (am_cur_of (i := (133, 1, .iload_n 1, (0, 0, 0), 0)) (by decide +kernel)) g1_z hm_z
          replace hm_z := rn_iconst (w := 3) (am_cur_of (i := (134, 1, .iconst 3, (0, 0, 0), 0)) (by decide +kernel)) (by decide) hm_z
          replace hm_z := rn_cmp (am_cur_of (i := (135, 3, .if_icmp .ne 7, (80, 0, 0), 0)) (by decide +kernel)) hm_z
          rcases hm_z with ⟨b2054_z, hm_z⟩ | ⟨b2054_z, hm_z⟩
          · replace b2054_z : ¬ w = (3 : Int32) ∧ ¬ w.toInt = (3 : Int32).toInt := b2054_z
            replace hm_z := rn_iconst (w := 0) (am_cur_of (i := (142, 1, .iconst 0, (0, 0, 0), 0)) (by decide +kernel)) (by decide) hm_z
            replace hm_z := rn_callV (M' := am_m199) (o := 164) (ar := [.int 0, .int 0, .int 1]) (rest := []) (L := lv_args 0 [.ref 164, .int 1, .int 0, .int 0]) (am_cur_of (i := (143, 3, .invokevirtual 434, (199, 1828, 3), 0)) (by decide +kernel)) rfl rfl rfl rfl hm_z
            obtain ⟨r2055_z, h2056_z, q2057_z, hm_z⟩ := hm_z
            have k2058_z := fk_199_1 q2057_z
            have vo := rn_void rfl q2057_z
            subst vo
            replace hm_z : rn _ _ _ _ [] _ _ _ := hm_z
            replace hm_z := rn_iinc (w := v4_z + 1) (am_cur_of (i := (146, 3, .iinc 4 1, (0, 0, 0), 0)) (by decide +kernel)) g4_z rfl hm_z
            obtain ⟨_, s2059_z, s2060_z, g4_z, hm_z⟩ := hm_z
            replace g0_z := s2059_z 0 _ (by decide) rfl g0_z
            replace g1_z := s2059_z 1 _ (by decide) rfl g1_z
            replace g3_z := s2059_z 3 _ (by decide) rfl g3_z
            clear s2059_z s2060_z
            replace hm_z := rn_gotoL (am_cur_of (i := (149, 3, .goto (-34), (64, 0, 0), 0)) (by decide +kernel)) hm_z
            exact bk_t (bk_t bk_r k2058_z) (I64 (v4_z + 1) _ _ g0_z g1_z g3_z g4_z hm_z)
          · replace b2054_z : w = (3 : Int32) ∧ w.toInt = (3 : Int32).toInt := b2054_z
            replace hm_z := rn_iconst (w := 1) (am_cur_of (i := (138, 1, .iconst 1, (0, 0, 0), 0)) (by decide +kernel)) (by decide) hm_z
            replace hm_z := rn_goto (am_cur_of (i := (139, 3, .goto 4, (81, 0, 0), 0)) (by decide +kernel)) hm_z
            replace hm_z := rn_callV (M' := am_m199) (o := 164) (ar := [.int 1, .int 0, .int 1]) (rest := []) (L := lv_args 0 [.ref 164, .int 1, .int 0, .int 1]) (am_cur_of (i := (143, 3, .invokevirtual 434, (199, 1828, 3), 0)) (by decide +kernel)) rfl rfl rfl rfl hm_z
            obtain ⟨r2061_z, h2062_z, q2063_z, hm_z⟩ := hm_z
            have k2064_z := fk_199_1 q2063_z
            have vo := rn_void rfl q2063_z
            subst vo
            replace hm_z : rn _ _ _ _ [] _ _ _ := hm_z
            replace hm_z := rn_iinc (w := v4_z + 1) (am_cur_of (i := (146, 3, .iinc 4 1, (0, 0, 0), 0)) (by decide +kernel)) g4_z rfl hm_z
            obtain ⟨_, s2065_z, s2066_z, g4_z, hm_z⟩ := hm_z
            replace g0_z := s2065_z 0 _ (by decide) rfl g0_z
            replace g1_z := s2065_z 1 _ (by decide) rfl g1_z
            replace g3_z := s2065_z 3 _ (by decide) rfl g3_z
            clear s2065_z s2066_z
            replace hm_z := rn_gotoL (am_cur_of (i := (149, 3, .goto (-34), (64, 0, 0), 0)) (by decide +kernel)) hm_z
            exact bk_t (bk_t bk_r k2064_z) (I64 (v4_z + 1) _ _ g0_z g1_z g3_z g4_z hm_z)
        · replace b2053_z : w = (1 : Int32) ∧ w.toInt = (1 : Int32).toInt := b2053_z
          replace hm_z := rn_iconst (w := 1) (am_cur_of (i := (128, 1, .iconst 1, (0, 0, 0), 0)) (by decide +kernel)) (by decide) hm_z
          replace hm_z := rn_goto (am_cur_of (i := (129, 3, .goto 4, (75, 0, 0), 0)) (by decide +kernel)) hm_z
          replace hm_z := rn_iload_n (am_cur_of (i := (133, 1, .iload_n 1, (0, 0, 0), 0)) (by decide +kernel)) g1_z hm_z
          replace hm_z := rn_iconst (w := 3) (am_cur_of (i := (134, 1, .iconst 3, (0, 0, 0), 0)) (by decide +kernel)) (by decide) hm_z
          replace hm_z := rn_cmp (am_cur_of (i := (135, 3, .if_icmp .ne 7, (80, 0, 0), 0)) (by decide +kernel)) hm_z
          rcases hm_z with ⟨b2067_z, hm_z⟩ | ⟨b2067_z, hm_z⟩
          · replace b2067_z : ¬ w = (3 : Int32) ∧ ¬ w.toInt = (3 : Int32).toInt := b2067_z
            replace hm_z := rn_iconst (w := 0) (am_cur_of (i := (142, 1, .iconst 0, (0, 0, 0), 0)) (by decide +kernel)) (by decide) hm_z
            replace hm_z := rn_callV (M' := am_m199) (o := 164) (ar := [.int 0, .int 1, .int 1]) (rest := []) (L := lv_args 0 [.ref 164, .int 1, .int 1, .int 0]) (am_cur_of (i := (143, 3, .invokevirtual 434, (199, 1828, 3), 0)) (by decide +kernel)) rfl rfl rfl rfl hm_z
            obtain ⟨r2068_z, h2069_z, q2070_z, hm_z⟩ := hm_z
            have k2071_z := fk_199_1 q2070_z
            have vo := rn_void rfl q2070_z
            subst vo
            replace hm_z : rn _ _ _ _ [] _ _ _ := hm_z
            replace hm_z := rn_iinc (w := v4_z + 1) (am_cur_of (i := (146, 3, .iinc 4 1, (0, 0, 0), 0)) (by decide +kernel)) g4_z rfl hm_z
            obtain ⟨_, s2072_z, s2073_z, g4_z, hm_z⟩ := hm_z
            replace g0_z := s2072_z 0 _ (by decide) rfl g0_z
            replace g1_z := s2072_z 1 _ (by decide) rfl g1_z
            replace g3_z := s2072_z 3 _ (by decide) rfl g3_z
            clear s2072_z s2073_z
            replace hm_z := rn_gotoL (am_cur_of (i := (149, 3, .goto (-34), (64, 0, 0), 0)) (by decide +kernel)) hm_z
            exact bk_t (bk_t bk_r k2071_z) (I64 (v4_z + 1) _ _ g0_z g1_z g3_z g4_z hm_z)
          · replace b2067_z : w = (3 : Int32) ∧ w.toInt = (3 : Int32).toInt := b2067_z
            replace hm_z := rn_iconst (w := 1) (am_cur_of (i := (138, 1, .iconst 1, (0, 0, 0), 0)) (by decide +kernel)) (by decide) hm_z
            replace hm_z := rn_goto (am_cur_of (i := (139, 3, .goto 4, (81, 0, 0), 0)) (by decide +kernel)) hm_z
            replace hm_z := rn_callV (M' := am_m199) (o := 164) (ar := [.int 1, .int 1, .int 1]) (rest := []) (L := lv_args 0 [.ref 164, .int 1, .int 1, .int 1]) (am_cur_of (i := (143, 3, .invokevirtual 434, (199, 1828, 3), 0)) (by decide +kernel)) rfl rfl rfl rfl hm_z
            obtain ⟨r2074_z, h2075_z, q2076_z, hm_z⟩ := hm_z
            have k2077_z := fk_199_1 q2076_z
            have vo := rn_void rfl q2076_z
            subst vo
            replace hm_z : rn _ _ _ _ [] _ _ _ := hm_z
            replace hm_z := rn_iinc (w := v4_z + 1) (am_cur_of (i := (146, 3, .iinc 4 1, (0, 0, 0), 0)) (by decide +kernel)) g4_z rfl hm_z
            obtain ⟨_, s2078_z, s2079_z, g4_z, hm_z⟩ := hm_z
            replace g0_z := s2078_z 0 _ (by decide) rfl g0_z
            replace g1_z := s2078_z 1 _ (by decide) rfl g1_z
            replace g3_z := s2078_z 3 _ (by decide) rfl g3_z
            clear s2078_z s2079_z
            replace hm_z := rn_gotoL (am_cur_of (i := (149, 3, .goto (-34), (64, 0, 0), 0)) (by decide +kernel)) hm_z
            exact bk_t (bk_t bk_r k2077_z) (I64 (v4_z + 1) _ _ g0_z g1_z g3_z g4_z hm_z)
    have H35 : ∀ (ls : am_L) (g : am_H), am_get ls 0 = some (.ref 164) → am_get ls 1 = some (.int w) → am_get ls 2 = some (.int i) → am_get ls 3 = some (.int n) → rn (f + 1) am_m248 35 ls [] g r g' → bk g g' := by
      intro ls g g0_z g1_z g2_z g3_z hm_z
      have z0_z : (0 : Int32).toInt = 0 := by decide
      have z2_z : (2 : Int32).toInt = 2 := by decide
      have z4_z : (4 : Int32).toInt = 4 := by decide
      replace hm_z := rn_aload_n (am_cur_of (i := (65, 1, .aload_n 0, (0, 0, 0), 0)) (by decide +kernel)) g0_z hm_z
      replace hm_z := rn_iconst (w := 1) (am_cur_of (i := (66, 1, .iconst 1, (0, 0, 0), 0)) (by decide +kernel)) (by decide) hm_z
      replace hm_z := rn_iconst (w := 0) (am_cur_of (i := (67, 1, .iconst 0, (0, 0, 0), 0)) (by decide +kernel)) (by decide) hm_z
      replace hm_z := rn_callV (M' := am_m197) (o := 164) (ar := [.int 0, .int 1]) (rest := []) (L := lv_args 0 [.ref 164, .int 1, .int 0]) (am_cur_of (i := (68, 3, .invokevirtual 428, (197, 1820, 3), 0)) (by decide +kernel)) rfl rfl rfl rfl hm_z
      obtain ⟨r2080_z, h2081_z, q2082_z, hm_z⟩ := hm_z
      have k2083_z := fk_197_1_0 q2082_z
      have vo := rn_void rfl q2082_z
      subst vo
      replace hm_z : rn _ _ _ _ [] _ _ _ := hm_z
      replace hm_z := rn_aload_n (am_cur_of (i := (71, 1, .aload_n 0, (0, 0, 0), 0)) (by decide +kernel)) g0_z hm_z
      replace hm_z := rn_iload_n (am_cur_of (i := (72, 1, .iload_n 1, (0, 0, 0), 0)) (by decide +kernel)) g1_z hm_z
      replace hm_z := rn_if (am_cur_of (i := (73, 3, .ifCond .ne 7, (44, 0, 0), 0)) (by decide +kernel)) hm_z
      rcases hm_z with ⟨b2084_z, hm_z⟩ | ⟨b2084_z, hm_z⟩
      · replace b2084_z : ¬ w = (0 : Int32) ∧ ¬ w.toInt = (0 : Int32).toInt := b2084_z
        replace hm_z := rn_iconst (w := 0) (am_cur_of (i := (80, 1, .iconst 0, (0, 0, 0), 0)) (by decide +kernel)) (by decide) hm_z
        replace hm_z := rn_put (am_cur_of (i := (81, 3, .putfield 352, (12, 60, 1444), 0)) (by decide +kernel)) (by decide +kernel) hm_z
        replace hm_z := rn_aload_n (am_cur_of (i := (84, 1, .aload_n 0, (0, 0, 0), 0)) (by decide +kernel)) g0_z hm_z
        replace hm_z := rn_iload_n (am_cur_of (i := (85, 1, .iload_n 1, (0, 0, 0), 0)) (by decide +kernel)) g1_z hm_z
        replace hm_z := rn_iconst (w := 2) (am_cur_of (i := (86, 1, .iconst 2, (0, 0, 0), 0)) (by decide +kernel)) (by decide) hm_z
        replace hm_z := rn_cmp (am_cur_of (i := (87, 3, .if_icmp .ne 7, (52, 0, 0), 0)) (by decide +kernel)) hm_z
        rcases hm_z with ⟨b2085_z, hm_z⟩ | ⟨b2085_z, hm_z⟩
        · replace b2085_z : ¬ w = (2 : Int32) ∧ ¬ w.toInt = (2 : Int32).toInt := b2085_z
          replace hm_z := rn_iconst (w := 0) (am_cur_of (i := (94, 1, .iconst 0, (0, 0, 0), 0)) (by decide +kernel)) (by decide) hm_z
          replace hm_z := rn_put (am_cur_of (i := (95, 3, .putfield 355, (12, 61, 1445), 0)) (by decide +kernel)) (by decide +kernel) hm_z
          replace hm_z := rn_aload_n (am_cur_of (i := (98, 1, .aload_n 0, (0, 0, 0), 0)) (by decide +kernel)) g0_z hm_z
          replace hm_z := rn_iload_n (am_cur_of (i := (99, 1, .iload_n 1, (0, 0, 0), 0)) (by decide +kernel)) g1_z hm_z
          replace hm_z := rn_iconst (w := 4) (am_cur_of (i := (100, 1, .iconst 4, (0, 0, 0), 0)) (by decide +kernel)) (by decide) hm_z
          replace hm_z := rn_cmp (am_cur_of (i := (101, 3, .if_icmp .ne 7, (60, 0, 0), 0)) (by decide +kernel)) hm_z
          rcases hm_z with ⟨b2086_z, hm_z⟩ | ⟨b2086_z, hm_z⟩
          · replace b2086_z : ¬ w = (4 : Int32) ∧ ¬ w.toInt = (4 : Int32).toInt := b2086_z
            replace hm_z := rn_iconst (w := (-1)) (am_cur_of (i := (108, 1, .iconst (-1), (0, 0, 0), 0)) (by decide +kernel)) (by decide) hm_z
            replace hm_z := rn_put (am_cur_of (i := (109, 3, .putfield 106, (12, 62, 1446), 0)) (by decide +kernel)) (by decide +kernel) hm_z
            replace hm_z := rn_iconst (w := 0) (am_cur_of (i := (112, 1, .iconst 0, (0, 0, 0), 0)) (by decide +kernel)) (by decide) hm_z
            replace hm_z := rn_istore (am_cur_of (i := (113, 2, .istore 4, (0, 0, 0), 0)) (by decide +kernel)) hm_z
            obtain ⟨_, s2087_z, s2088_z, g4_z, hm_z⟩ := hm_z
            replace g0_z := s2087_z 0 _ (by decide) rfl g0_z
            replace g1_z := s2087_z 1 _ (by decide) rfl g1_z
            replace g2_z := s2087_z 2 _ (by decide) rfl g2_z
            replace g3_z := s2087_z 3 _ (by decide) rfl g3_z
            clear s2087_z s2088_z
            exact bk_t (bk_u (by decide) (bk_u (by decide) (bk_u (by decide) (bk_t bk_r k2083_z)))) (H64 0 _ _ g0_z g1_z g3_z g4_z hm_z)
          · replace b2086_z : w = (4 : Int32) ∧ w.toInt = (4 : Int32).toInt := b2086_z
            replace hm_z := rn_iload_n (am_cur_of (i := (104, 1, .iload_n 2, (0, 0, 0), 0)) (by decide +kernel)) g2_z hm_z
            replace hm_z := rn_goto (am_cur_of (i := (105, 3, .goto 4, (61, 0, 0), 0)) (by decide +kernel)) hm_z
            replace hm_z := rn_put (am_cur_of (i := (109, 3, .putfield 106, (12, 62, 1446), 0)) (by decide +kernel)) (by decide +kernel) hm_z
            replace hm_z := rn_iconst (w := 0) (am_cur_of (i := (112, 1, .iconst 0, (0, 0, 0), 0)) (by decide +kernel)) (by decide) hm_z
            replace hm_z := rn_istore (am_cur_of (i := (113, 2, .istore 4, (0, 0, 0), 0)) (by decide +kernel)) hm_z
            obtain ⟨_, s2089_z, s2090_z, g4_z, hm_z⟩ := hm_z
            replace g0_z := s2089_z 0 _ (by decide) rfl g0_z
            replace g1_z := s2089_z 1 _ (by decide) rfl g1_z
            replace g2_z := s2089_z 2 _ (by decide) rfl g2_z
            replace g3_z := s2089_z 3 _ (by decide) rfl g3_z
            clear s2089_z s2090_z
            exact bk_t (bk_u (by decide) (bk_u (by decide) (bk_u (by decide) (bk_t bk_r k2083_z)))) (H64 0 _ _ g0_z g1_z g3_z g4_z hm_z)
        · replace b2085_z : w = (2 : Int32) ∧ w.toInt = (2 : Int32).toInt := b2085_z
          replace hm_z := rn_iconst (w := 1) (am_cur_of (i := (90, 1, .iconst 1, (0, 0, 0), 0)) (by decide +kernel)) (by decide) hm_z
          replace hm_z := rn_goto (am_cur_of (i := (91, 3, .goto 4, (53, 0, 0), 0)) (by decide +kernel)) hm_z
          replace hm_z := rn_put (am_cur_of (i := (95, 3, .putfield 355, (12, 61, 1445), 0)) (by decide +kernel)) (by decide +kernel) hm_z
          replace hm_z := rn_aload_n (am_cur_of (i := (98, 1, .aload_n 0, (0, 0, 0), 0)) (by decide +kernel)) g0_z hm_z
          replace hm_z := rn_iload_n (am_cur_of (i := (99, 1, .iload_n 1, (0, 0, 0), 0)) (by decide +kernel)) g1_z hm_z
          replace hm_z := rn_iconst (w := 4) (am_cur_of (i := (100, 1, .iconst 4, (0, 0, 0), 0)) (by decide +kernel)) (by decide) hm_z
          replace hm_z := rn_cmp (am_cur_of (i := (101, 3, .if_icmp .ne 7, (60, 0, 0), 0)) (by decide +kernel)) hm_z
          rcases hm_z with ⟨b2091_z, hm_z⟩ | ⟨b2091_z, hm_z⟩
          · replace b2091_z : ¬ w = (4 : Int32) ∧ ¬ w.toInt = (4 : Int32).toInt := b2091_z
            replace hm_z := rn_iconst (w := (-1)) (am_cur_of (i := (108, 1, .iconst (-1), (0, 0, 0), 0)) (by decide +kernel)) (by decide) hm_z
            replace hm_z := rn_put (am_cur_of (i := (109, 3, .putfield 106, (12, 62, 1446), 0)) (by decide +kernel)) (by decide +kernel) hm_z
            replace hm_z := rn_iconst (w := 0) (am_cur_of (i := (112, 1, .iconst 0, (0, 0, 0), 0)) (by decide +kernel)) (by decide) hm_z
            replace hm_z := rn_istore (am_cur_of (i := (113, 2, .istore 4, (0, 0, 0), 0)) (by decide +kernel)) hm_z
            obtain ⟨_, s2092_z, s2093_z, g4_z, hm_z⟩ := hm_z
            replace g0_z := s2092_z 0 _ (by decide) rfl g0_z
            replace g1_z := s2092_z 1 _ (by decide) rfl g1_z
            replace g2_z := s2092_z 2 _ (by decide) rfl g2_z
            replace g3_z := s2092_z 3 _ (by decide) rfl g3_z
            clear s2092_z s2093_z
            exact bk_t (bk_u (by decide) (bk_u (by decide) (bk_u (by decide) (bk_t bk_r k2083_z)))) (H64 0 _ _ g0_z g1_z g3_z g4_z hm_z)
          · replace b2091_z : w = (4 : Int32) ∧ w.toInt = (4 : Int32).toInt := b2091_z
            replace hm_z := rn_iload_n (am_cur_of (i := (104, 1, .iload_n 2, (0, 0, 0), 0)) (by decide +kernel)) g2_z hm_z
            replace hm_z := rn_goto (am_cur_of (i := (105, 3, .goto 4, (61, 0, 0), 0)) (by decide +kernel)) hm_z
            replace hm_z := rn_put (am_cur_of (i := (109, 3, .putfield 106, (12, 62, 1446), 0)) (by decide +kernel)) (by decide +kernel) hm_z
            replace hm_z := rn_iconst (w := 0) (am_cur_of (i := (112, 1, .iconst 0, (0, 0, 0), 0)) (by decide +kernel)) (by decide) hm_z
            replace hm_z := rn_istore (am_cur_of (i := (113, 2, .istore 4, (0, 0, 0), 0)) (by decide +kernel)) hm_z
            obtain ⟨_, s2094_z, s2095_z, g4_z, hm_z⟩ := hm_z
            replace g0_z := s2094_z 0 _ (by decide) rfl g0_z
            replace g1_z := s2094_z 1 _ (by decide) rfl g1_z
            replace g2_z := s2094_z 2 _ (by decide) rfl g2_z
            replace g3_z := s2094_z 3 _ (by decide) rfl g3_z
            clear s2094_z s2095_z
            exact bk_t (bk_u (by decide) (bk_u (by decide) (bk_u (by decide) (bk_t bk_r k2083_z)))) (H64 0 _ _ g0_z g1_z g3_z g4_z hm_z)
      · replace b2084_z : w = (0 : Int32) ∧ w.toInt = (0 : Int32).toInt := b2084_z
        replace hm_z := rn_iconst (w := 1) (am_cur_of (i := (76, 1, .iconst 1, (0, 0, 0), 0)) (by decide +kernel)) (by decide) hm_z
        replace hm_z := rn_goto (am_cur_of (i := (77, 3, .goto 4, (45, 0, 0), 0)) (by decide +kernel)) hm_z
        replace hm_z := rn_put (am_cur_of (i := (81, 3, .putfield 352, (12, 60, 1444), 0)) (by decide +kernel)) (by decide +kernel) hm_z
        replace hm_z := rn_aload_n (am_cur_of (i := (84, 1, .aload_n 0, (0, 0, 0), 0)) (by decide +kernel)) g0_z hm_z
        replace hm_z := rn_iload_n (am_cur_of (i := (85, 1, .iload_n 1, (0, 0, 0), 0)) (by decide +kernel)) g1_z hm_z
        replace hm_z := rn_iconst (w := 2) (am_cur_of (i := (86, 1, .iconst 2, (0, 0, 0), 0)) (by decide +kernel)) (by decide) hm_z
        replace hm_z := rn_cmp (am_cur_of (i := (87, 3, .if_icmp .ne 7, (52, 0, 0), 0)) (by decide +kernel)) hm_z
        rcases hm_z with ⟨b2096_z, hm_z⟩ | ⟨b2096_z, hm_z⟩
        · replace b2096_z : ¬ w = (2 : Int32) ∧ ¬ w.toInt = (2 : Int32).toInt := b2096_z
          replace hm_z := rn_iconst (w := 0) (am_cur_of (i := (94, 1, .iconst 0, (0, 0, 0), 0)) (by decide +kernel)) (by decide) hm_z
          replace hm_z := rn_put (am_cur_of (i := (95, 3, .putfield 355, (12, 61, 1445), 0)) (by decide +kernel)) (by decide +kernel) hm_z
          replace hm_z := rn_aload_n (am_cur_of (i := (98, 1, .aload_n 0, (0, 0, 0), 0)) (by decide +kernel)) g0_z hm_z
          replace hm_z := rn_iload_n (am_cur_of (i := (99, 1, .iload_n 1, (0, 0, 0), 0)) (by decide +kernel)) g1_z hm_z
          replace hm_z := rn_iconst (w := 4) (am_cur_of (i := (100, 1, .iconst 4, (0, 0, 0), 0)) (by decide +kernel)) (by decide) hm_z
          replace hm_z := rn_cmp (am_cur_of (i := (101, 3, .if_icmp .ne 7, (60, 0, 0), 0)) (by decide +kernel)) hm_z
          rcases hm_z with ⟨b2097_z, hm_z⟩ | ⟨b2097_z, hm_z⟩
          · replace b2097_z : ¬ w = (4 : Int32) ∧ ¬ w.toInt = (4 : Int32).toInt := b2097_z
            replace hm_z := rn_iconst (w := (-1)) (am_cur_of (i := (108, 1, .iconst (-1), (0, 0, 0), 0)) (by decide +kernel)) (by decide) hm_z
            replace hm_z := rn_put (am_cur_of (i := (109, 3, .putfield 106, (12, 62, 1446), 0)) (by decide +kernel)) (by decide +kernel) hm_z
            replace hm_z := rn_iconst (w := 0) (am_cur_of (i := (112, 1, .iconst 0, (0, 0, 0), 0)) (by decide +kernel)) (by decide) hm_z
            replace hm_z := rn_istore (am_cur_of (i := (113, 2, .istore 4, (0, 0, 0), 0)) (by decide +kernel)) hm_z
            obtain ⟨_, s2098_z, s2099_z, g4_z, hm_z⟩ := hm_z
            replace g0_z := s2098_z 0 _ (by decide) rfl g0_z
            replace g1_z := s2098_z 1 _ (by decide) rfl g1_z
            replace g2_z := s2098_z 2 _ (by decide) rfl g2_z
            replace g3_z := s2098_z 3 _ (by decide) rfl g3_z
            clear s2098_z s2099_z
            exact bk_t (bk_u (by decide) (bk_u (by decide) (bk_u (by decide) (bk_t bk_r k2083_z)))) (H64 0 _ _ g0_z g1_z g3_z g4_z hm_z)
          · replace b2097_z : w = (4 : Int32) ∧ w.toInt = (4 : Int32).toInt := b2097_z
            replace hm_z := rn_iload_n (am_cur_of (i := (104, 1, .iload_n 2, (0, 0, 0), 0)) (by decide +kernel)) g2_z hm_z
            replace hm_z := rn_goto (am_cur_of (i := (105, 3, .goto 4, (61, 0, 0), 0)) (by decide +kernel)) hm_z
            replace hm_z := rn_put (am_cur_of (i := (109, 3, .putfield 106, (12, 62, 1446), 0)) (by decide +kernel)) (by decide +kernel) hm_z
            replace hm_z := rn_iconst (w := 0) (am_cur_of (i := (112, 1, .iconst 0, (0, 0, 0), 0)) (by decide +kernel)) (by decide) hm_z
            replace hm_z := rn_istore (am_cur_of (i := (113, 2, .istore 4, (0, 0, 0), 0)) (by decide +kernel)) hm_z
            obtain ⟨_, s2100_z, s2101_z, g4_z, hm_z⟩ := hm_z
            replace g0_z := s2100_z 0 _ (by decide) rfl g0_z
            replace g1_z := s2100_z 1 _ (by decide) rfl g1_z
            replace g2_z := s2100_z 2 _ (by decide) rfl g2_z
            replace g3_z := s2100_z 3 _ (by decide) rfl g3_z
            clear s2100_z s2101_z
            exact bk_t (bk_u (by decide) (bk_u (by decide) (bk_u (by decide) (bk_t bk_r k2083_z)))) (H64 0 _ _ g0_z g1_z g3_z g4_z hm_z)
        · replace b2096_z : w = (2 : Int32) ∧ w.toInt = (2 : Int32).toInt := b2096_z
          replace hm_z := rn_iconst (w := 1) (am_cur_of (i := (90, 1, .iconst 1, (0, 0, 0), 0)) (by decide +kernel)) (by decide) hm_z
          replace hm_z := rn_goto (am_cur_of (i := (91, 3, .goto 4, (53, 0, 0), 0)) (by decide +kernel)) hm_z
          replace hm_z := rn_put (am_cur_of (i := (95, 3, .putfield 355, (12, 61, 1445), 0)) (by decide +kernel)) (by decide +kernel) hm_z
          replace hm_z := rn_aload_n (am_cur_of (i := (98, 1, .aload_n 0, (0, 0, 0), 0)) (by decide +kernel)) g0_z hm_z
          replace hm_z := rn_iload_n (am_cur_of (i := (99, 1, .iload_n 1, (0, 0, 0), 0)) (by decide +kernel)) g1_z hm_z
          replace hm_z := rn_iconst (w := 4) (am_cur_of (i := (100, 1, .iconst 4, (0, 0, 0), 0)) (by decide +kernel)) (by decide) hm_z
          replace hm_z := rn_cmp (am_cur_of (i := (101, 3, .if_icmp .ne 7, (60, 0, 0), 0)) (by decide +kernel)) hm_z
          rcases hm_z with ⟨b2102_z, hm_z⟩ | ⟨b2102_z, hm_z⟩
          · replace b2102_z : ¬ w = (4 : Int32) ∧ ¬ w.toInt = (4 : Int32).toInt := b2102_z
            replace hm_z := rn_iconst (w := (-1)) (am_cur_of (i := (108, 1, .iconst (-1), (0, 0, 0), 0)) (by decide +kernel)) (by decide) hm_z
            replace hm_z := rn_put (am_cur_of (i := (109, 3, .putfield 106, (12, 62, 1446), 0)) (by decide +kernel)) (by decide +kernel) hm_z
            replace hm_z := rn_iconst (w := 0) (am_cur_of (i := (112, 1, .iconst 0, (0, 0, 0), 0)) (by decide +kernel)) (by decide) hm_z
            replace hm_z := rn_istore (am_cur_of (i := (113, 2, .istore 4, (0, 0, 0), 0)) (by decide +kernel)) hm_z
            obtain ⟨_, s2103_z, s2104_z, g4_z, hm_z⟩ := hm_z
            replace g0_z := s2103_z 0 _ (by decide) rfl g0_z
            replace g1_z := s2103_z 1 _ (by decide) rfl g1_z
            replace g2_z := s2103_z 2 _ (by decide) rfl g2_z
            replace g3_z := s2103_z 3 _ (by decide) rfl g3_z
            clear s2103_z s2104_z
            exact bk_t (bk_u (by decide) (bk_u (by decide) (bk_u (by decide) (bk_t bk_r k2083_z)))) (H64 0 _ _ g0_z g1_z g3_z g4_z hm_z)
          · replace b2102_z : w = (4 : Int32) ∧ w.toInt = (4 : Int32).toInt := b2102_z
            replace hm_z := rn_iload_n (am_cur_of (i := (104, 1, .iload_n 2, (0, 0, 0), 0)) (by decide +kernel)) g2_z hm_z
            replace hm_z := rn_goto (am_cur_of (i := (105, 3, .goto 4, (61, 0, 0), 0)) (by decide +kernel)) hm_z
            replace hm_z := rn_put (am_cur_of (i := (109, 3, .putfield 106, (12, 62, 1446), 0)) (by decide +kernel)) (by decide +kernel) hm_z
            replace hm_z := rn_iconst (w := 0) (am_cur_of (i := (112, 1, .iconst 0, (0, 0, 0), 0)) (by decide +kernel)) (by decide) hm_z
            replace hm_z := rn_istore (am_cur_of (i := (113, 2, .istore 4, (0, 0, 0), 0)) (by decide +kernel)) hm_z
            obtain ⟨_, s2105_z, s2106_z, g4_z, hm_z⟩ := hm_z
            replace g0_z := s2105_z 0 _ (by decide) rfl g0_z
            replace g1_z := s2105_z 1 _ (by decide) rfl g1_z
            replace g2_z := s2105_z 2 _ (by decide) rfl g2_z
            replace g3_z := s2105_z 3 _ (by decide) rfl g3_z
            clear s2105_z s2106_z
            exact bk_t (bk_u (by decide) (bk_u (by decide) (bk_u (by decide) (bk_t bk_r k2083_z)))) (H64 0 _ _ g0_z g1_z g3_z g4_z hm_z)
    have H33 : ∀ (ls : am_L) (g : am_H), rn (f + 1) am_m248 33 ls [] g r g' → bk g g' := by
      intro ls g hm_z
      replace hm_z := rn_iconst (w := (-1)) (am_cur_of (i := (63, 1, .iconst (-1), (0, 0, 0), 0)) (by decide +kernel)) (by decide) hm_z
      replace hm_z := rn_iret (am_cur_of (i := (64, 1, .ireturn, (0, 0, 0), 0)) (by decide +kernel)) hm_z
      obtain ⟨e2107_z, e2108_z⟩ := hm_z
      rw [e2108_z]
      exact bk_r
    have H25 : ∀ (ls : am_L) (g : am_H), am_get ls 0 = some (.ref 164) → am_get ls 1 = some (.int w) → am_get ls 2 = some (.int i) → am_get ls 3 = some (.int n) → rn (f + 1) am_m248 25 ls [] g r g' → bk g g' := by
      intro ls g g0_z g1_z g2_z g3_z hm_z
      have z0_z : (0 : Int32).toInt = 0 := by decide
      have z3_z : (3 : Int32).toInt = 3 := by decide
      replace hm_z := rn_iload_n (am_cur_of (i := (49, 1, .iload_n 1, (0, 0, 0), 0)) (by decide +kernel)) g1_z hm_z
      replace hm_z := rn_iconst (w := 3) (am_cur_of (i := (50, 1, .iconst 3, (0, 0, 0), 0)) (by decide +kernel)) (by decide) hm_z
      replace hm_z := rn_cmp (am_cur_of (i := (51, 3, .if_icmp .ne 14, (35, 0, 0), 0)) (by decide +kernel)) hm_z
      rcases hm_z with ⟨b2109_z, hm_z⟩ | ⟨b2109_z, hm_z⟩
      · replace b2109_z : ¬ w = (3 : Int32) ∧ ¬ w.toInt = (3 : Int32).toInt := b2109_z
        exact bk_t bk_r (H35 _ _ g0_z g1_z g2_z g3_z hm_z)
      · replace b2109_z : w = (3 : Int32) ∧ w.toInt = (3 : Int32).toInt := b2109_z
        replace hm_z := rn_aload_n (am_cur_of (i := (54, 1, .aload_n 0, (0, 0, 0), 0)) (by decide +kernel)) g0_z hm_z
        replace hm_z := rn_getR (x := 168) (am_cur_of (i := (55, 3, .getfield 24, (12, 23, 1407), 0)) (by decide +kernel)) (by decide +kernel) hm_z
        replace hm_z := rn_iconst (w := 2) (am_cur_of (i := (58, 1, .iconst 2, (0, 0, 0), 0)) (by decide +kernel)) (by decide) hm_z
        replace hm_z := rn_iaload (N := 12) (q := 2) (v := rg_v g 168 2) (am_cur_of (i := (59, 1, .iaload, (0, 0, 0), 0)) (by decide +kernel)) (by decide +kernel) rfl rfl hm_z
        obtain ⟨p2110_z, hm_z⟩ := hm_z
        replace hm_z := rn_if (am_cur_of (i := (60, 3, .ifCond .ne 5, (35, 0, 0), 0)) (by decide +kernel)) hm_z
        rcases hm_z with ⟨b2111_z, hm_z⟩ | ⟨b2111_z, hm_z⟩
        · replace b2111_z : ¬ (rg_v g 168 2) = (0 : Int32) ∧ ¬ (rg_v g 168 2).toInt = (0 : Int32).toInt := b2111_z
          exact bk_t bk_r (H35 _ _ g0_z g1_z g2_z g3_z hm_z)
        · replace b2111_z : (rg_v g 168 2) = (0 : Int32) ∧ (rg_v g 168 2).toInt = (0 : Int32).toInt := b2111_z
          exact bk_t bk_r (H33 _ _ hm_z)
    exact ⟨H25, H33, H35, H64⟩
