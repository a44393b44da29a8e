/-! ===== FEED'S BYTES; WHAT STANDS BETWEEN THE CALLS, for text (wip/r/gen99ra.py) ===== -/
theorem rd_u {x : Int32} {c : UInt32} {s : Nat} (h : (c % 32).toBitVec.toNat = s) : (x.toUInt32 >>> c).toInt32 &&& 255 = rd_by x s := by
  subst h
  rfl
theorem rd_i {x c : Int32} {s : Nat} (h : (c.toBitVec.smod 32).toNat = s) (hs_z : s ≤ 24) : x >>> c &&& 255 = rd_by x s := by
  subst h
  show Int32.ofBitVec (x.toBitVec.sshiftRight (c.toBitVec.smod 32).toNat &&& 255#32) = _
  rw [rd_sshr hs_z]
  rfl
def rd_ar (a b c d e : Int32) (j : Nat) : Int32 := if j < 4 then a else if j < 8 then b else if j < 12 then c else if j < 16 then d else e
def rd_fb (a b c d e : Int32) (j : Nat) : Int32 := rd_by (rd_ar a b c d e j) (24 - 8 * (j % 4))
theorem fd_ix {t : Int32} (i : Nat) (hi_z : i < 20) (t0_z : 0 ≤ t.toInt) (t6_z : t.toInt ≤ 680) : (t + Int32.ofNat i).toNatClampNeg = t.toNatClampNeg + i := by
  have zi := Int32.toInt_ofNat_of_lt (n := i) (by omega)
  have y := ab_iadd (x := t) (y := Int32.ofNat i) (by omega) (by omega)
  have c1_z := rt_cl t0_z
  have c2_z := rt_cl (x := t + Int32.ofNat i) (by omega)
  omega
theorem fd_p4 {n : Nat} {h h' : am_H} {r : Option Value} {t x : Int32} (et : rg_v h 0 1 = t) (t0_z : 0 ≤ t.toInt) (t6_z : t.toInt ≤ 696) (hc_z : rn n am_m16 0 (lv_args 0 [.ref 0, .int x]) [] h r h') : ∃ t', rg_v h' 0 1 = t' ∧ t'.toInt = t.toInt + 4 ∧ (∀ k, k < t.toNatClampNeg → rg_v h' 1 k = rg_v h 1 k) ∧ ∀ j, j < 4 → rg_v h' 1 (t.toNatClampNeg + j) = rd_by x (24 - 8 * j) := by
  have z700_z : (700 : Int32).toInt = 700 := by decide
  have g0_z : am_get (lv_args 0 [.ref 0, .int x]) 0 = some (.ref 0) := rfl
  have g1_z : am_get (lv_args 0 [.ref 0, .int x]) 1 = some (.int x) := rfl
  have y0_z : (t + 1).toInt = (t).toInt + 1 := rt_c1 (x := t) (by omega) (by omega)
  have y1_z : ((t + 1) + 1).toInt = (t + 1).toInt + 1 := rt_c1 (x := t + 1) (by omega) (by omega)
  have y2_z : (((t + 1) + 1) + 1).toInt = ((t + 1) + 1).toInt + 1 := rt_c1 (x := (t + 1) + 1) (by omega) (by omega)
  have y3_z : ((((t + 1) + 1) + 1) + 1).toInt = (((t + 1) + 1) + 1).toInt + 1 := rt_c1 (x := ((t + 1) + 1) + 1) (by omega) (by omega)
  have c0_z := rt_cl (x := t) (by omega)
  have c1_z := rt_cl (x := t + 1) (by omega)
  have c2_z := rt_cl (x := (t + 1) + 1) (by omega)
  have c3_z := rt_cl (x := ((t + 1) + 1) + 1) (by omega)
  replace hc_z := rn_bipush (w := 24) (am_cur_of (i := (0, 2, .bipush 24, (0, 0, 0), 0)) (by decide +kernel)) (by decide) hc_z
  replace hc_z := rn_istore_n (am_cur_of (i := (2, 1, .istore_n 2, (0, 0, 0), 0)) (by decide +kernel)) hc_z
  obtain ⟨_, s1_z, s2_z, g2_z, hc_z⟩ := hc_z
  replace g0_z := s1_z 0 _ (by decide) rfl g0_z
  replace g1_z := s1_z 1 _ (by decide) rfl g1_z
  clear s1_z s2_z
  replace hc_z := rn_iload_n (am_cur_of (i := (3, 1, .iload_n 2, (0, 0, 0), 0)) (by decide +kernel)) g2_z hc_z
  replace hc_z := rn_ifF (am_cur_of (i := (4, 3, .ifCond .lt 45, (26, 0, 0), 0)) (by decide +kernel)) (by decide) hc_z
  replace hc_z := rn_aload_n (am_cur_of (i := (7, 1, .aload_n 0, (0, 0, 0), 0)) (by decide +kernel)) g0_z hc_z
  replace hc_z := rn_getI (v := t) (am_cur_of (i := (8, 3, .getfield 99, (0, 1, 662), 0)) (by decide +kernel)) (by decide +kernel) et hc_z
  replace hc_z := rn_sipush (w := 700) (am_cur_of (i := (11, 3, .sipush 700, (0, 0, 0), 0)) (by decide +kernel)) (by decide) hc_z
  replace hc_z := rn_cmp (am_cur_of (i := (14, 3, .if_icmp .ge 35, (26, 0, 0), 0)) (by decide +kernel)) hc_z
  rcases hc_z with ⟨b3_z, hc_z⟩ | ⟨b3_z, hc_z⟩
  · replace b3_z : (700 : Int32).toInt ≤ t.toInt := b3_z
    omega
  · replace b3_z : t.toInt < (700 : Int32).toInt := b3_z
    replace hc_z := rn_aload_n (am_cur_of (i := (17, 1, .aload_n 0, (0, 0, 0), 0)) (by decide +kernel)) g0_z hc_z
    replace hc_z := rn_getR (x := 1) (am_cur_of (i := (18, 3, .getfield 11, (0, 0, 661), 0)) (by decide +kernel)) (by decide +kernel) hc_z
    replace hc_z := rn_aload_n (am_cur_of (i := (21, 1, .aload_n 0, (0, 0, 0), 0)) (by decide +kernel)) g0_z hc_z
    replace hc_z := rn_getI (v := t) (am_cur_of (i := (22, 3, .getfield 99, (0, 1, 662), 0)) (by decide +kernel)) (by decide +kernel) et hc_z
    replace hc_z := rn_iload_n (am_cur_of (i := (25, 1, .iload_n 1, (0, 0, 0), 0)) (by decide +kernel)) g1_z hc_z
    replace hc_z := rn_iload_n (am_cur_of (i := (26, 1, .iload_n 2, (0, 0, 0), 0)) (by decide +kernel)) g2_z hc_z
    replace hc_z := rn_iushr (w := (x.toUInt32 >>> ((24 : Int32).toUInt32 &&& Int32.toUInt32 31)).toInt32) (am_cur_of (i := (27, 1, .iushr, (0, 0, 0), 0)) (by decide +kernel)) rfl hc_z
    replace hc_z := rn_sipush (w := 255) (am_cur_of (i := (28, 3, .sipush 255, (0, 0, 0), 0)) (by decide +kernel)) (by decide) hc_z
    replace hc_z := rn_iand (w := ((x.toUInt32 >>> ((24 : Int32).toUInt32 &&& Int32.toUInt32 31)).toInt32) &&& 255) (am_cur_of (i := (31, 1, .iand, (0, 0, 0), 0)) (by decide +kernel)) rfl hc_z
    replace hc_z := rn_iastore (N := 700) (q := t.toNatClampNeg) (am_cur_of (i := (32, 1, .iastore, (0, 0, 0), 0)) (by decide +kernel)) (by decide +kernel) rfl hc_z
    obtain ⟨p4_z, hc_z⟩ := hc_z
    replace hc_z := rn_aload_n (am_cur_of (i := (33, 1, .aload_n 0, (0, 0, 0), 0)) (by decide +kernel)) g0_z hc_z
    replace hc_z := rn_dup (am_cur_of (i := (34, 1, .dup, (0, 0, 0), 0)) (by decide +kernel)) hc_z
    replace hc_z := rn_getI (v := t) (am_cur_of (i := (35, 3, .getfield 99, (0, 1, 662), 0)) (by decide +kernel)) (by decide +kernel) (show rg_v (am_up h 1 t.toNatClampNeg (.int (((x.toUInt32 >>> ((24 : Int32).toUInt32 &&& Int32.toUInt32 31)).toInt32) &&& 255))) 0 1 = t from et) hc_z
    replace hc_z := rn_iconst (w := 1) (am_cur_of (i := (38, 1, .iconst 1, (0, 0, 0), 0)) (by decide +kernel)) (by decide) hc_z
    replace hc_z := rn_iadd (w := t + 1) (am_cur_of (i := (39, 1, .iadd, (0, 0, 0), 0)) (by decide +kernel)) rfl hc_z
    replace hc_z := rn_put (am_cur_of (i := (40, 3, .putfield 99, (0, 1, 662), 0)) (by decide +kernel)) (by decide +kernel) hc_z
    replace hc_z := rn_iinc (w := 16) (am_cur_of (i := (43, 3, .iinc 2 (-8), (0, 0, 0), 0)) (by decide +kernel)) g2_z (by decide) hc_z
    obtain ⟨_, s5_z, s6_z, g2_z, hc_z⟩ := hc_z
    replace g0_z := s5_z 0 _ (by decide) rfl g0_z
    replace g1_z := s5_z 1 _ (by decide) rfl g1_z
    clear s5_z s6_z
    replace hc_z := rn_goto (am_cur_of (i := (46, 3, .goto (-43), (2, 0, 0), 0)) (by decide +kernel)) hc_z
    replace hc_z := rn_iload_n (am_cur_of (i := (3, 1, .iload_n 2, (0, 0, 0), 0)) (by decide +kernel)) g2_z hc_z
    replace hc_z := rn_ifF (am_cur_of (i := (4, 3, .ifCond .lt 45, (26, 0, 0), 0)) (by decide +kernel)) (by decide) hc_z
    replace hc_z := rn_aload_n (am_cur_of (i := (7, 1, .aload_n 0, (0, 0, 0), 0)) (by decide +kernel)) g0_z hc_z
    replace hc_z := rn_getI (v := t + 1) (am_cur_of (i := (8, 3, .getfield 99, (0, 1, 662), 0)) (by decide +kernel)) (by decide +kernel) (show rg_v (am_up (am_up h 1 t.toNatClampNeg (.int (((x.toUInt32 >>> ((24 : Int32).toUInt32 &&& Int32.toUInt32 31)).toInt32) &&& 255))) 0 1 (.int (t + 1))) 0 1 = t + 1 from rfl) hc_z
    replace hc_z := rn_sipush (w := 700) (am_cur_of (i := (11, 3, .sipush 700, (0, 0, 0), 0)) (by decide +kernel)) (by decide) hc_z
    replace hc_z := rn_cmp (am_cur_of (i := (14, 3, .if_icmp .ge 35, (26, 0, 0), 0)) (by decide +kernel)) hc_z
    rcases hc_z with ⟨b7_z, hc_z⟩ | ⟨b7_z, hc_z⟩
    · replace b7_z : (700 : Int32).toInt ≤ (t + 1).toInt := b7_z
      omega
    · replace b7_z : (t + 1).toInt < (700 : Int32).toInt := b7_z
      replace hc_z := rn_aload_n (am_cur_of (i := (17, 1, .aload_n 0, (0, 0, 0), 0)) (by decide +kernel)) g0_z hc_z
      replace hc_z := rn_getR (x := 1) (am_cur_of (i := (18, 3, .getfield 11, (0, 0, 661), 0)) (by decide +kernel)) (by decide +kernel) hc_z
      replace hc_z := rn_aload_n (am_cur_of (i := (21, 1, .aload_n 0, (0, 0, 0), 0)) (by decide +kernel)) g0_z hc_z
      replace hc_z := rn_getI (v := t + 1) (am_cur_of (i := (22, 3, .getfield 99, (0, 1, 662), 0)) (by decide +kernel)) (by decide +kernel) (show rg_v (am_up (am_up h 1 t.toNatClampNeg (.int (((x.toUInt32 >>> ((24 : Int32).toUInt32 &&& Int32.toUInt32 31)).toInt32) &&& 255))) 0 1 (.int (t + 1))) 0 1 = t + 1 from rfl) hc_z
      replace hc_z := rn_iload_n (am_cur_of (i := (25, 1, .iload_n 1, (0, 0, 0), 0)) (by decide +kernel)) g1_z hc_z
      replace hc_z := rn_iload_n (am_cur_of (i := (26, 1, .iload_n 2, (0, 0, 0), 0)) (by decide +kernel)) g2_z hc_z
      replace hc_z := rn_iushr (w := (x.toUInt32 >>> ((16 : Int32).toUInt32 &&& Int32.toUInt32 31)).toInt32) (am_cur_of (i := (27, 1, .iushr, (0, 0, 0), 0)) (by decide +kernel)) rfl hc_z
      replace hc_z := rn_sipush (w := 255) (am_cur_of (i := (28, 3, .sipush 255, (0, 0, 0), 0)) (by decide +kernel)) (by decide) hc_z
      replace hc_z := rn_iand (w := ((x.toUInt32 >>> ((16 : Int32).toUInt32 &&& Int32.toUInt32 31)).toInt32) &&& 255) (am_cur_of (i := (31, 1, .iand, (0, 0, 0), 0)) (by decide +kernel)) rfl hc_z
      replace hc_z := rn_iastore (N := 700) (q := (t + 1).toNatClampNeg) (am_cur_of (i := (32, 1, .iastore, (0, 0, 0), 0)) (by decide +kernel)) (by decide +kernel) rfl hc_z
      obtain ⟨p8_z, hc_z⟩ := hc_z
      replace hc_z := rn_aload_n (am_cur_of (i := (33, 1, .aload_n 0, (0, 0, 0), 0)) (by decide +kernel)) g0_z hc_z
      replace hc_z := rn_dup (am_cur_of (i := (34, 1, .dup, (0, 0, 0), 0)) (by decide +kernel)) hc_z
      replace hc_z := rn_getI (v := t + 1) (am_cur_of (i := (35, 3, .getfield 99, (0, 1, 662), 0)) (by decide +kernel)) (by decide +kernel) (show rg_v (am_up (am_up (am_up h 1 t.toNatClampNeg (.int (((x.toUInt32 >>> ((24 : Int32).toUInt32 &&& Int32.toUInt32 31)).toInt32) &&& 255))) 0 1 (.int (t + 1))) 1 ((t + 1).toNatClampNeg) (.int (((x.toUInt32 >>> ((16 : Int32).toUInt32 &&& Int32.toUInt32 31)).toInt32) &&& 255))) 0 1 = t + 1 from rfl) hc_z
      replace hc_z := rn_iconst (w := 1) (am_cur_of (i := (38, 1, .iconst 1, (0, 0, 0), 0)) (by decide +kernel)) (by decide) hc_z
      replace hc_z := rn_iadd (w := (t + 1) + 1) (am_cur_of (i := (39, 1, .iadd, (0, 0, 0), 0)) (by decide +kernel)) rfl hc_z
      replace hc_z := rn_put (am_cur_of (i := (40, 3, .putfield 99, (0, 1, 662), 0)) (by decide +kernel)) (by decide +kernel) hc_z
      replace hc_z := rn_iinc (w := 8) (am_cur_of (i := (43, 3, .iinc 2 (-8), (0, 0, 0), 0)) (by decide +kernel)) g2_z (by decide) hc_z
      obtain ⟨_, s9_z, s10_z, g2_z, hc_z⟩ := hc_z
      replace g0_z := s9_z 0 _ (by decide) rfl g0_z
      replace g1_z := s9_z 1 _ (by decide) rfl g1_z
      clear s9_z s10_z
      replace hc_z := rn_goto (am_cur_of (i := (46, 3, .goto (-43), (2, 0, 0), 0)) (by decide +kernel)) hc_z
      replace hc_z := rn_iload_n (am_cur_of (i := (3, 1, .iload_n 2, (0, 0, 0), 0)) (by decide +kernel)) g2_z hc_z
      replace hc_z := rn_ifF (am_cur_of (i := (4, 3, .ifCond .lt 45, (26, 0, 0), 0)) (by decide +kernel)) (by decide) hc_z
      replace hc_z := rn_aload_n (am_cur_of (i := (7, 1, .aload_n 0, (0, 0, 0), 0)) (by decide +kernel)) g0_z hc_z
      replace hc_z := rn_getI (v := (t + 1) + 1) (am_cur_of (i := (8, 3, .getfield 99, (0, 1, 662), 0)) (by decide +kernel)) (by decide +kernel) (show rg_v (am_up (am_up (am_up (am_up h 1 t.toNatClampNeg (.int (((x.toUInt32 >>> ((24 : Int32).toUInt32 &&& Int32.toUInt32 31)).toInt32) &&& 255))) 0 1 (.int (t + 1))) 1 ((t + 1).toNatClampNeg) (.int (((x.toUInt32 >>> ((16 : Int32).toUInt32 &&& Int32.toUInt32 31)).toInt32) &&& 255))) 0 1 (.int ((t + 1) + 1))) 0 1 = (t + 1) + 1 from rfl) hc_z
      replace hc_z := rn_sipush (w := 700) (am_cur_of (i := (11, 3, .sipush 700, (0, 0, 0), 0)) (by decide +kernel)) (by decide) hc_z
      replace hc_z := rn_cmp (am_cur_of (i := (14, 3, .if_icmp .ge 35, (26, 0, 0), 0)) (by decide +kernel)) hc_z
      rcases hc_z with ⟨b11_z, hc_z⟩ | ⟨b11_z, hc_z⟩
      · replace b11_z : (700 : Int32).toInt ≤ ((t + 1) + 1).toInt := b11_z
        omega
      · replace b11_z : ((t + 1) + 1).toInt < (700 : Int32).toInt := b11_z
        replace hc_z := rn_aload_n (am_cur_of (i := (17, 1, .aload_n 0, (0, 0, 0), 0)) (by decide +kernel)) g0_z hc_z
        replace hc_z := rn_getR (x := 1) (am_cur_of (i := (18, 3, .getfield 11, (0, 0, 661), 0)) (by decide +kernel)) (by decide +kernel) hc_z
        replace hc_z := rn_aload_n (am_cur_of (i := (21, 1, .aload_n 0, (0, 0, 0), 0)) (by decide +kernel)) g0_z hc_z
        replace hc_z := rn_getI (v := (t + 1) + 1) (am_cur_of (i := (22, 3, .getfield 99, (0, 1, 662), 0)) (by decide +kernel)) (by decide +kernel) (show rg_v (am_up (am_up (am_up (am_up h 1 t.toNatClampNeg (.int (((x.toUInt32 >>> ((24 : Int32).toUInt32 &&& Int32.toUInt32 31)).toInt32) &&& 255))) 0 1 (.int (t + 1))) 1 ((t + 1).toNatClampNeg) (.int (((x.toUInt32 >>> ((16 : Int32).toUInt32 &&& Int32.toUInt32 31)).toInt32) &&& 255))) 0 1 (.int ((t + 1) + 1))) 0 1 = (t + 1) + 1 from rfl) hc_z
        replace hc_z := rn_iload_n (am_cur_of (i := (25, 1, .iload_n 1, (0, 0, 0), 0)) (by decide +kernel)) g1_z hc_z
        replace hc_z := rn_iload_n (am_cur_of (i := (26, 1, .iload_n 2, (0, 0, 0), 0)) (by decide +kernel)) g2_z hc_z
        replace hc_z := rn_iushr (w := (x.toUInt32 >>> ((8 : Int32).toUInt32 &&& Int32.toUInt32 31)).toInt32) (am_cur_of (i := (27, 1, .iushr, (0, 0, 0), 0)) (by decide +kernel)) rfl hc_z
        replace hc_z := rn_sipush (w := 255) (am_cur_of (i := (28, 3, .sipush 255, (0, 0, 0), 0)) (by decide +kernel)) (by decide) hc_z
        replace hc_z := rn_iand (w := ((x.toUInt32 >>> ((8 : Int32).toUInt32 &&& Int32.toUInt32 31)).toInt32) &&& 255) (am_cur_of (i := (31, 1, .iand, (0, 0, 0), 0)) (by decide +kernel)) rfl hc_z
        replace hc_z := rn_iastore (N := 700) (q := ((t + 1) + 1).toNatClampNeg) (am_cur_of (i := (32, 1, .iastore, (0, 0, 0), 0)) (by decide +kernel)) (by decide +kernel) rfl hc_z
        obtain ⟨p12_z, hc_z⟩ := hc_z
        replace hc_z := rn_aload_n (am_cur_of (i := (33, 1, .aload_n 0, (0, 0, 0), 0)) (by decide +kernel)) g0_z hc_z
        replace hc_z := rn_dup (am_cur_of (i := (34, 1, .dup, (0, 0, 0), 0)) (by decide +kernel)) hc_z
        replace hc_z := rn_getI (v := (t + 1) + 1) (am_cur_of (i := (35, 3, .getfield 99, (0, 1, 662), 0)) (by decide +kernel)) (by decide +kernel) (show rg_v (am_up (am_up (am_up (am_up (am_up h 1 t.toNatClampNeg (.int (((x.toUInt32 >>> ((24 : Int32).toUInt32 &&& Int32.toUInt32 31)).toInt32) &&& 255))) 0 1 (.int (t + 1))) 1 ((t + 1).toNatClampNeg) (.int (((x.toUInt32 >>> ((16 : Int32).toUInt32 &&& Int32.toUInt32 31)).toInt32) &&& 255))) 0 1 (.int ((t + 1) + 1))) 1 (((t + 1) + 1).toNatClampNeg) (.int (((x.toUInt32 >>> ((8 : Int32).toUInt32 &&& Int32.toUInt32 31)).toInt32) &&& 255))) 0 1 = (t + 1) + 1 from rfl) hc_z
        replace hc_z := rn_iconst (w := 1) (am_cur_of (i := (38, 1, .iconst 1, (0, 0, 0), 0)) (by decide +kernel)) (by decide) hc_z
        replace hc_z := rn_iadd (w := ((t + 1) + 1) + 1) (am_cur_of (i := (39, 1, .iadd, (0, 0, 0), 0)) (by decide +kernel)) rfl hc_z
        replace hc_z := rn_put (am_cur_of (i := (40, 3, .putfield 99, (0, 1, 662), 0)) (by decide +kernel)) (by decide +kernel) hc_z
        replace hc_z := rn_iinc (w := 0) (am_cur_of (i := (43, 3, .iinc 2 (-8), (0, 0, 0), 0)) (by decide +kernel)) g2_z (by decide) hc_z
        obtain ⟨_, s13_z, s14_z, g2_z, hc_z⟩ := hc_z
        replace g0_z := s13_z 0 _ (by decide) rfl g0_z
        replace g1_z := s13_z 1 _ (by decide) rfl g1_z
        clear s13_z s14_z
        replace hc_z := rn_goto (am_cur_of (i := (46, 3, .goto (-43), (2, 0, 0), 0)) (by decide +kernel)) hc_z
        replace hc_z := rn_iload_n (am_cur_of (i := (3, 1, .iload_n 2, (0, 0, 0), 0)) (by decide +kernel)) g2_z hc_z
        replace hc_z := rn_ifF (am_cur_of (i := (4, 3, .ifCond .lt 45, (26, 0, 0), 0)) (by decide +kernel)) (by decide) hc_z
        replace hc_z := rn_aload_n (am_cur_of (i := (7, 1, .aload_n 0, (0, 0, 0), 0)) (by decide +kernel)) g0_z hc_z
        replace hc_z := rn_getI (v := ((t + 1) + 1) + 1) (am_cur_of (i := (8, 3, .getfield 99, (0, 1, 662), 0)) (by decide +kernel)) (by decide +kernel) (show rg_v (am_up (am_up (am_up (am_up (am_up (am_up h 1 t.toNatClampNeg (.int (((x.toUInt32 >>> ((24 : Int32).toUInt32 &&& Int32.toUInt32 31)).toInt32) &&& 255))) 0 1 (.int (t + 1))) 1 ((t + 1).toNatClampNeg) (.int (((x.toUInt32 >>> ((16 : Int32).toUInt32 &&& Int32.toUInt32 31)).toInt32) &&& 255))) 0 1 (.int ((t + 1) + 1))) 1 (((t + 1) + 1).toNatClampNeg) (.int (((x.toUInt32 >>> ((8 : Int32).toUInt32 &&& Int32.toUInt32 31)).toInt32) &&& 255))) 0 1 (.int (((t + 1) + 1) + 1))) 0 1 = ((t + 1) + 1) + 1 from rfl) hc_z
        replace hc_z := rn_sipush (w := 700) (am_cur_of (i := (11, 3, .sipush 700, (0, 0, 0), 0)) (by decide +kernel)) (by decide) hc_z
        replace hc_z := rn_cmp (am_cur_of (i := (14, 3, .if_icmp .ge 35, (26, 0, 0), 0)) (by decide +kernel)) hc_z
        rcases hc_z with ⟨b15_z, hc_z⟩ | ⟨b15_z, hc_z⟩
        · replace b15_z : (700 : Int32).toInt ≤ (((t + 1) + 1) + 1).toInt := b15_z
          omega
        · replace b15_z : (((t + 1) + 1) + 1).toInt < (700 : Int32).toInt := b15_z
          replace hc_z := rn_aload_n (am_cur_of (i := (17, 1, .aload_n 0, (0, 0, 0), 0)) (by decide +kernel)) g0_z hc_z
          replace hc_z := rn_getR (x := 1) (am_cur_of (i := (18, 3, .getfield 11, (0, 0, 661), 0)) (by decide +kernel)) (by decide +kernel) hc_z
          replace hc_z := rn_aload_n (am_cur_of (i := (21, 1, .aload_n 0, (0, 0, 0), 0)) (by decide +kernel)) g0_z hc_z
          replace hc_z := rn_getI (v := ((t + 1) + 1) + 1) (am_cur_of (i := (22, 3, .getfield 99, (0, 1, 662), 0)) (by decide +kernel)) (by decide +kernel) (show rg_v (am_up (am_up (am_up (am_up (am_up (am_up h 1 t.toNatClampNeg (.int (((x.toUInt32 >>> ((24 : Int32).toUInt32 &&& Int32.toUInt32 31)).toInt32) &&& 255))) 0 1 (.int (t + 1))) 1 ((t + 1).toNatClampNeg) (.int (((x.toUInt32 >>> ((16 : Int32).toUInt32 &&& Int32.toUInt32 31)).toInt32) &&& 255))) 0 1 (.int ((t + 1) + 1))) 1 (((t + 1) + 1).toNatClampNeg) (.int (((x.toUInt32 >>> ((8 : Int32).toUInt32 &&& Int32.toUInt32 31)).toInt32) &&& 255))) 0 1 (.int (((t + 1) + 1) + 1))) 0 1 = ((t + 1) + 1) + 1 from rfl) hc_z
          replace hc_z := rn_iload_n (am_cur_of (i := (25, 1, .iload_n 1, (0, 0, 0), 0)) (by decide +kernel)) g1_z hc_z
          replace hc_z := rn_iload_n (am_cur_of (i := (26, 1, .iload_n 2, (0, 0, 0), 0)) (by decide +kernel)) g2_z hc_z
          replace hc_z := rn_iushr (w := (x.toUInt32 >>> ((0 : Int32).toUInt32 &&& Int32.toUInt32 31)).toInt32) (am_cur_of (i := (27, 1, .iushr, (0, 0, 0), 0)) (by decide +kernel)) rfl hc_z
          replace hc_z := rn_sipush (w := 255) (am_cur_of (i := (28, 3, .sipush 255, (0, 0, 0), 0)) (by decide +kernel)) (by decide) hc_z
          replace hc_z := rn_iand (w := ((x.toUInt32 >>> ((0 : Int32).toUInt32 &&& Int32.toUInt32 31)).toInt32) &&& 255) (am_cur_of (i := (31, 1, .iand, (0, 0, 0), 0)) (by decide +kernel)) rfl hc_z
          replace hc_z := rn_iastore (N := 700) (q := (((t + 1) + 1) + 1).toNatClampNeg) (am_cur_of (i := (32, 1, .iastore, (0, 0, 0), 0)) (by decide +kernel)) (by decide +kernel) rfl hc_z
          obtain ⟨p16_z, hc_z⟩ := hc_z
          replace hc_z := rn_aload_n (am_cur_of (i := (33, 1, .aload_n 0, (0, 0, 0), 0)) (by decide +kernel)) g0_z hc_z
          replace hc_z := rn_dup (am_cur_of (i := (34, 1, .dup, (0, 0, 0), 0)) (by decide +kernel)) hc_z
          replace hc_z := rn_getI (v := ((t + 1) + 1) + 1) (am_cur_of (i := (35, 3, .getfield 99, (0, 1, 662), 0)) (by decide +kernel)) (by decide +kernel) (show rg_v (am_up (am_up (am_up (am_up (am_up (am_up (am_up h 1 t.toNatClampNeg (.int (((x.toUInt32 >>> ((24 : Int32).toUInt32 &&& Int32.toUInt32 31)).toInt32) &&& 255))) 0 1 (.int (t + 1))) 1 ((t + 1).toNatClampNeg) (.int (((x.toUInt32 >>> ((16 : Int32).toUInt32 &&& Int32.toUInt32 31)).toInt32) &&& 255))) 0 1 (.int ((t + 1) + 1))) 1 (((t + 1) + 1).toNatClampNeg) (.int (((x.toUInt32 >>> ((8 : Int32).toUInt32 &&& Int32.toUInt32 31)).toInt32) &&& 255))) 0 1 (.int (((t + 1) + 1) + 1))) 1 ((((t + 1) + 1) + 1).toNatClampNeg) (.int (((x.toUInt32 >>> ((0 : Int32).toUInt32 &&& Int32.toUInt32 31)).toInt32) &&& 255))) 0 1 = ((t + 1) + 1) + 1 from rfl) hc_z
          replace hc_z := rn_iconst (w := 1) (am_cur_of (i := (38, 1, .iconst 1, (0, 0, 0), 0)) (by decide +kernel)) (by decide) hc_z
          replace hc_z := rn_iadd (w := (((t + 1) + 1) + 1) + 1) (am_cur_of (i := (39, 1, .iadd, (0, 0, 0), 0)) (by decide +kernel)) rfl hc_z
          replace hc_z := rn_put (am_cur_of (i := (40, 3, .putfield 99, (0, 1, 662), 0)) (by decide +kernel)) (by decide +kernel) hc_z
          replace hc_z := rn_iinc (w := (-8)) (am_cur_of (i := (43, 3, .iinc 2 (-8), (0, 0, 0), 0)) (by decide +kernel)) g2_z (by decide) hc_z
          obtain ⟨_, s17_z, s18_z, g2_z, hc_z⟩ := hc_z
          replace g0_z := s17_z 0 _ (by decide) rfl g0_z
          replace g1_z := s17_z 1 _ (by decide) rfl g1_z
          clear s17_z s18_z
          replace hc_z := rn_goto (am_cur_of (i := (46, 3, .goto (-43), (2, 0, 0), 0)) (by decide +kernel)) hc_z
          replace hc_z := rn_iload_n (am_cur_of (i := (3, 1, .iload_n 2, (0, 0, 0), 0)) (by decide +kernel)) g2_z hc_z
          replace hc_z := rn_ifT (am_cur_of (i := (4, 3, .ifCond .lt 45, (26, 0, 0), 0)) (by decide +kernel)) (by decide) hc_z
          replace hc_z := rn_vret (am_cur_of (i := (49, 1, .return_, (0, 0, 0), 0)) (by decide +kernel)) hc_z
          obtain ⟨e19_z, e20_z⟩ := hc_z
          subst e20_z
          refine ⟨(((t + 1) + 1) + 1) + 1, rfl, by omega, fun k hk_z => ?_, fun j hj_z => ?_⟩
          · exact (rg_v_other (by omega)).trans ((rg_v_other (by omega)).trans ((rg_v_other (by omega)).trans ((rg_v_other (by omega)).trans ((rg_v_other (by omega)).trans ((rg_v_other (by omega)).trans ((rg_v_other (by omega)).trans ((rg_v_other (by omega)).trans (rfl))))))))
          · match j, hj_z with
            | 0, _ =>
              rw [show t.toNatClampNeg + 0 = t.toNatClampNeg from by omega]
              exact (rg_v_other (by omega)).trans ((rg_v_other (by omega)).trans ((rg_v_other (by omega)).trans ((rg_v_other (by omega)).trans ((rg_v_other (by omega)).trans ((rg_v_other (by omega)).trans ((rg_v_other (by omega)).trans (rg_v_self.trans (rd_u (s := 24 - 8 * 0) (by decide)))))))))
            | 1, _ =>
              rw [show t.toNatClampNeg + 1 = (t + 1).toNatClampNeg from by omega]
              exact (rg_v_other (by omega)).trans ((rg_v_other (by omega)).trans ((rg_v_other (by omega)).trans ((rg_v_other (by omega)).trans ((rg_v_other (by omega)).trans (rg_v_self.trans (rd_u (s := 24 - 8 * 1) (by decide)))))))
            | 2, _ =>
              rw [show t.toNatClampNeg + 2 = ((t + 1) + 1).toNatClampNeg from by omega]
              exact (rg_v_other (by omega)).trans ((rg_v_other (by omega)).trans ((rg_v_other (by omega)).trans (rg_v_self.trans (rd_u (s := 24 - 8 * 2) (by decide)))))
            | 3, _ =>
              rw [show t.toNatClampNeg + 3 = (((t + 1) + 1) + 1).toNatClampNeg from by omega]
              exact (rg_v_other (by omega)).trans (rg_v_self.trans (rd_u (s := 24 - 8 * 3) (by decide)))
theorem fd_C {n : Nat} {h h' : am_H} {r : Option Value} {t a b c d e : Int32} (et : rg_v h 0 1 = t) (t0_z : 0 ≤ t.toInt) (t7_z : t.toInt ≤ 700) (hc_z : rn n am_m15 0 (lv_args 0 [.ref 0, .int a, .int b, .int c, .int d, .int e]) [] h r h') : (680 < t.toInt ∧ h' = h) ∨ (t.toInt ≤ 680 ∧ ∃ t', rg_v h' 0 1 = t' ∧ t'.toInt = t.toInt + 20 ∧ (∀ k, k < t.toNatClampNeg → rg_v h' 1 k = rg_v h 1 k) ∧ ∀ j, j < 20 → rg_v h' 1 (t.toNatClampNeg + j) = rd_fb a b c d e j) := by
  have z680_z : (680 : Int32).toInt = 680 := by decide
  have g0_z : am_get (lv_args 0 [.ref 0, .int a, .int b, .int c, .int d, .int e]) 0 = some (.ref 0) := rfl
  have g1_z : am_get (lv_args 0 [.ref 0, .int a, .int b, .int c, .int d, .int e]) 1 = some (.int a) := rfl
  have g2_z : am_get (lv_args 0 [.ref 0, .int a, .int b, .int c, .int d, .int e]) 2 = some (.int b) := rfl
  have g3_z : am_get (lv_args 0 [.ref 0, .int a, .int b, .int c, .int d, .int e]) 3 = some (.int c) := rfl
  have g4_z : am_get (lv_args 0 [.ref 0, .int a, .int b, .int c, .int d, .int e]) 4 = some (.int d) := rfl
  have g5_z : am_get (lv_args 0 [.ref 0, .int a, .int b, .int c, .int d, .int e]) 5 = some (.int e) := rfl
  have c0_z := rt_cl t0_z
  replace hc_z := rn_aload_n (am_cur_of (i := (0, 1, .aload_n 0, (0, 0, 0), 0)) (by decide +kernel)) g0_z hc_z
  replace hc_z := rn_getI (v := t) (am_cur_of (i := (1, 3, .getfield 99, (0, 1, 662), 0)) (by decide +kernel)) (by decide +kernel) et hc_z
  replace hc_z := rn_sipush (w := 680) (am_cur_of (i := (4, 3, .sipush 680, (0, 0, 0), 0)) (by decide +kernel)) (by decide) hc_z
  replace hc_z := rn_cmp (am_cur_of (i := (7, 3, .if_icmp .le 5, (6, 0, 0), 0)) (by decide +kernel)) hc_z
  rcases hc_z with ⟨b21_z, hc_z⟩ | ⟨b21_z, hc_z⟩
  · replace b21_z : t.toInt ≤ (680 : Int32).toInt := b21_z
    replace hc_z := rn_aload_n (am_cur_of (i := (12, 1, .aload_n 0, (0, 0, 0), 0)) (by decide +kernel)) g0_z hc_z
    replace hc_z := rn_iload_n (am_cur_of (i := (13, 1, .iload_n 1, (0, 0, 0), 0)) (by decide +kernel)) g1_z hc_z
    replace hc_z := rn_callV (M' := am_m16) (o := 0) (ar := [.int a]) (rest := []) (L := lv_args 0 [.ref 0, .int a]) (am_cur_of (i := (14, 3, .invokevirtual 103, (16, 714, 3), 0)) (by decide +kernel)) rfl rfl rfl rfl hc_z
    obtain ⟨r22_z, h23_z, q24_z, hc_z⟩ := hc_z
    have vo := rn_void rfl q24_z
    subst vo
    obtain ⟨t1_z, et1_z, q1_z, o1_z, s1_z⟩ := fd_p4 et (by omega) (by omega) q24_z
    have c1_z := rt_cl (x := t1_z) (by omega)
    replace hc_z : rn _ _ _ _ [] _ _ _ := hc_z
    replace hc_z := rn_aload_n (am_cur_of (i := (17, 1, .aload_n 0, (0, 0, 0), 0)) (by decide +kernel)) g0_z hc_z
    replace hc_z := rn_iload_n (am_cur_of (i := (18, 1, .iload_n 2, (0, 0, 0), 0)) (by decide +kernel)) g2_z hc_z
    replace hc_z := rn_callV (M' := am_m16) (o := 0) (ar := [.int b]) (rest := []) (L := lv_args 0 [.ref 0, .int b]) (am_cur_of (i := (19, 3, .invokevirtual 103, (16, 714, 3), 0)) (by decide +kernel)) rfl rfl rfl rfl hc_z
    obtain ⟨r25_z, h26_z, q27_z, hc_z⟩ := hc_z
    have vo := rn_void rfl q27_z
    subst vo
    obtain ⟨t2_z, et2_z, q2_z, o2_z, s2_z⟩ := fd_p4 et1_z (by omega) (by omega) q27_z
    have c2_z := rt_cl (x := t2_z) (by omega)
    replace hc_z : rn _ _ _ _ [] _ _ _ := hc_z
    replace hc_z := rn_aload_n (am_cur_of (i := (22, 1, .aload_n 0, (0, 0, 0), 0)) (by decide +kernel)) g0_z hc_z
    replace hc_z := rn_iload_n (am_cur_of (i := (23, 1, .iload_n 3, (0, 0, 0), 0)) (by decide +kernel)) g3_z hc_z
    replace hc_z := rn_callV (M' := am_m16) (o := 0) (ar := [.int c]) (rest := []) (L := lv_args 0 [.ref 0, .int c]) (am_cur_of (i := (24, 3, .invokevirtual 103, (16, 714, 3), 0)) (by decide +kernel)) rfl rfl rfl rfl hc_z
    obtain ⟨r28_z, h29_z, q30_z, hc_z⟩ := hc_z
    have vo := rn_void rfl q30_z
    subst vo
    obtain ⟨t3_z, et3_z, q3_z, o3_z, s3_z⟩ := fd_p4 et2_z (by omega) (by omega) q30_z
    have c3_z := rt_cl (x := t3_z) (by omega)
    replace hc_z : rn _ _ _ _ [] _ _ _ := hc_z
    replace hc_z := rn_aload_n (am_cur_of (i := (27, 1, .aload_n 0, (0, 0, 0), 0)) (by decide +kernel)) g0_z hc_z
    replace hc_z := rn_iload (am_cur_of (i := (28, 2, .iload 4, (0, 0, 0), 0)) (by decide +kernel)) g4_z hc_z
    replace hc_z := rn_callV (M' := am_m16) (o := 0) (ar := [.int d]) (rest := []) (L := lv_args 0 [.ref 0, .int d]) (am_cur_of (i := (30, 3, .invokevirtual 103, (16, 714, 3), 0)) (by decide +kernel)) rfl rfl rfl rfl hc_z
    obtain ⟨r31_z, h32_z, q33_z, hc_z⟩ := hc_z
    have vo := rn_void rfl q33_z
    subst vo
    obtain ⟨t4_z, et4_z, q4_z, o4_z, s4_z⟩ := fd_p4 et3_z (by omega) (by omega) q33_z
    have c4_z := rt_cl (x := t4_z) (by omega)
    replace hc_z : rn _ _ _ _ [] _ _ _ := hc_z
    replace hc_z := rn_aload_n (am_cur_of (i := (33, 1, .aload_n 0, (0, 0, 0), 0)) (by decide +kernel)) g0_z hc_z
    replace hc_z := rn_iload (am_cur_of (i := (34, 2, .iload 5, (0, 0, 0), 0)) (by decide +kernel)) g5_z hc_z
    replace hc_z := rn_callV (M' := am_m16) (o := 0) (ar := [.int e]) (rest := []) (L := lv_args 0 [.ref 0, .int e]) (am_cur_of (i := (36, 3, .invokevirtual 103, (16, 714, 3), 0)) (by decide +kernel)) rfl rfl rfl rfl hc_z
    obtain ⟨r34_z, h35_z, q36_z, hc_z⟩ := hc_z
    have vo := rn_void rfl q36_z
    subst vo
    obtain ⟨t5_z, et5_z, q5_z, o5_z, s5_z⟩ := fd_p4 et4_z (by omega) (by omega) q36_z
    have c5_z := rt_cl (x := t5_z) (by omega)
    replace hc_z : rn _ _ _ _ [] _ _ _ := hc_z
    replace hc_z := rn_aload_n (am_cur_of (i := (39, 1, .aload_n 0, (0, 0, 0), 0)) (by decide +kernel)) g0_z hc_z
    replace hc_z := rn_getI (v := t5_z) (am_cur_of (i := (40, 3, .getfield 99, (0, 1, 662), 0)) (by decide +kernel)) (by decide +kernel) et5_z hc_z
    replace hc_z := rn_iret (am_cur_of (i := (43, 1, .ireturn, (0, 0, 0), 0)) (by decide +kernel)) hc_z
    obtain ⟨e37_z, e38_z⟩ := hc_z
    replace e38_z := e38_z.symm
    subst e38_z
    refine Or.inr ⟨by omega, t5_z, et5_z, by omega, fun k hk_z => ?_, fun j hj_z => ?_⟩
    · exact (o5_z k (by omega)).trans ((o4_z k (by omega)).trans ((o3_z k (by omega)).trans ((o2_z k (by omega)).trans (o1_z k (by omega)))))
    · have hj20_z : j = 0 ∨ j = 1 ∨ j = 2 ∨ j = 3 ∨ j = 4 ∨ j = 5 ∨ j = 6 ∨ j = 7 ∨ j = 8 ∨ j = 9 ∨ j = 10 ∨ j = 11 ∨ j = 12 ∨ j = 13 ∨ j = 14 ∨ j = 15 ∨ j = 16 ∨ j = 17 ∨ j = 18 ∨ j = 19 := by omega
      rcases hj20_z with rfl | rfl | rfl | rfl | rfl | rfl | rfl | rfl | rfl | rfl | rfl | rfl | rfl | rfl | rfl | rfl | rfl | rfl | rfl | rfl
      · rw [show t.toNatClampNeg + 0 = t.toNatClampNeg + 0 from by omega]
        exact (o5_z _ (by omega)).trans ((o4_z _ (by omega)).trans ((o3_z _ (by omega)).trans ((o2_z _ (by omega)).trans (s1_z 0 (by decide)))))
      · rw [show t.toNatClampNeg + 1 = t.toNatClampNeg + 1 from by omega]
        exact (o5_z _ (by omega)).trans ((o4_z _ (by omega)).trans ((o3_z _ (by omega)).trans ((o2_z _ (by omega)).trans (s1_z 1 (by decide)))))
      · rw [show t.toNatClampNeg + 2 = t.toNatClampNeg + 2 from by omega]
        exact (o5_z _ (by omega)).trans ((o4_z _ (by omega)).trans ((o3_z _ (by omega)).trans ((o2_z _ (by omega)).trans (s1_z 2 (by decide)))))
      · rw [show t.toNatClampNeg + 3 = t.toNatClampNeg + 3 from by omega]
        exact (o5_z _ (by omega)).trans ((o4_z _ (by omega)).trans ((o3_z _ (by omega)).trans ((o2_z _ (by omega)).trans (s1_z 3 (by decide)))))
      · rw [show t.toNatClampNeg + 4 = t1_z.toNatClampNeg + 0 from by omega]
        exact (o5_z _ (by omega)).trans ((o4_z _ (by omega)).trans ((o3_z _ (by omega)).trans (s2_z 0 (by decide))))
      · rw [show t.toNatClampNeg + 5 = t1_z.toNatClampNeg + 1 from by omega]
        exact (o5_z _ (by omega)).trans ((o4_z _ (by omega)).trans ((o3_z _ (by omega)).trans (s2_z 1 (by decide))))
      · rw [show t.toNatClampNeg + 6 = t1_z.toNatClampNeg + 2 from by omega]
        exact (o5_z _ (by omega)).trans ((o4_z _ (by omega)).trans ((o3_z _ (by omega)).trans (s2_z 2 (by decide))))
      · rw [show t.toNatClampNeg + 7 = t1_z.toNatClampNeg + 3 from by omega]
        exact (o5_z _ (by omega)).trans ((o4_z _ (by omega)).trans ((o3_z _ (by omega)).trans (s2_z 3 (by decide))))
      · rw [show t.toNatClampNeg + 8 = t2_z.toNatClampNeg + 0 from by omega]
        exact (o5_z _ (by omega)).trans ((o4_z _ (by omega)).trans (s3_z 0 (by decide)))
      · rw [show t.toNatClampNeg + 9 = t2_z.toNatClampNeg + 1 from by omega]
        exact (o5_z _ (by omega)).trans ((o4_z _ (by omega)).trans (s3_z 1 (by decide)))
      · rw [show t.toNatClampNeg + 10 = t2_z.toNatClampNeg + 2 from by omega]
        exact (o5_z _ (by omega)).trans ((o4_z _ (by omega)).trans (s3_z 2 (by decide)))
      · rw [show t.toNatClampNeg + 11 = t2_z.toNatClampNeg + 3 from by omega]
        exact (o5_z _ (by omega)).trans ((o4_z _ (by omega)).trans (s3_z 3 (by decide)))
      · rw [show t.toNatClampNeg + 12 = t3_z.toNatClampNeg + 0 from by omega]
        exact (o5_z _ (by omega)).trans (s4_z 0 (by decide))
      · rw [show t.toNatClampNeg + 13 = t3_z.toNatClampNeg + 1 from by omega]
        exact (o5_z _ (by omega)).trans (s4_z 1 (by decide))
      · rw [show t.toNatClampNeg + 14 = t3_z.toNatClampNeg + 2 from by omega]
        exact (o5_z _ (by omega)).trans (s4_z 2 (by decide))
      · rw [show t.toNatClampNeg + 15 = t3_z.toNatClampNeg + 3 from by omega]
        exact (o5_z _ (by omega)).trans (s4_z 3 (by decide))
      · rw [show t.toNatClampNeg + 16 = t4_z.toNatClampNeg + 0 from by omega]
        exact s5_z 0 (by decide)
      · rw [show t.toNatClampNeg + 17 = t4_z.toNatClampNeg + 1 from by omega]
        exact s5_z 1 (by decide)
      · rw [show t.toNatClampNeg + 18 = t4_z.toNatClampNeg + 2 from by omega]
        exact s5_z 2 (by decide)
      · rw [show t.toNatClampNeg + 19 = t4_z.toNatClampNeg + 3 from by omega]
        exact s5_z 3 (by decide)
  · replace b21_z : (680 : Int32).toInt < t.toInt := b21_z
    replace hc_z := rn_iconst (w := (-1)) (am_cur_of (i := (10, 1, .iconst (-1), (0, 0, 0), 0)) (by decide +kernel)) (by decide) hc_z
    replace hc_z := rn_iret (am_cur_of (i := (11, 1, .ireturn, (0, 0, 0), 0)) (by decide +kernel)) hc_z
    obtain ⟨e39_z, e40_z⟩ := hc_z
    exact Or.inl ⟨by omega, e40_z⟩
/-- values laid from T on -/
def fd_st (h : am_H) (o : Nat) (T : Nat) : List Int32 → am_H
  | [] => h
  | v :: vs => fd_st (am_up h o T (.int v)) o (T + 1) vs
theorem fd_lt {o : Nat} {k : Nat} : ∀ (vs : List Int32) (h : am_H) (T : Nat), k < T → rg_v (fd_st h o T vs) o k = rg_v h o k
  | [], _, _, _ => rfl
  | v :: vs, h, T, hk_z => (fd_lt vs _ (T + 1) (by omega)).trans (rg_v_other (by omega))
theorem fd_at {o : Nat} : ∀ (vs : List Int32) (h : am_H) (T j : Nat), j < vs.length → rg_v (fd_st h o T vs) o (T + j) = vs.getD j 0
  | v :: vs, h, T, 0, _ => (fd_lt vs _ (T + 1) (by omega)).trans rg_v_self
  | v :: vs, h, T, j + 1, hj_z => by
    have := fd_at (o := o) vs (am_up h o T (.int v)) (T + 1) j (Nat.lt_of_succ_lt_succ hj_z)
    rw [show T + 1 + j = T + (j + 1) by omega] at this
    exact this
theorem fd_M0 {n : Nat} {h h' : am_H} {r : Option Value} {t a b c d e : Int32} {ls : am_L} (et : rg_v h 164 1 = t) (t0_z : 0 ≤ t.toInt) (t6_z : t.toInt ≤ 680) (g0_z : am_get ls 0 = some (.ref 164)) (g1_z : am_get ls 1 = some (.int a)) (g2_z : am_get ls 2 = some (.int b)) (g3_z : am_get ls 3 = some (.int c)) (g4_z : am_get ls 4 = some (.int d)) (g5_z : am_get ls 5 = some (.int e)) (g6_z : am_get ls 6 = some (.int 0)) (hc_z : rn n am_m149 13 ls [] h r h') : ∃ ls', am_get ls' 0 = some (.ref 164) ∧ am_get ls' 1 = some (.int a) ∧ am_get ls' 2 = some (.int b) ∧ am_get ls' 3 = some (.int c) ∧ am_get ls' 4 = some (.int d) ∧ am_get ls' 5 = some (.int e) ∧ am_get ls' 6 = some (.int 1) ∧ rn n am_m149 13 ls' [] (am_up h 165 (t.toNatClampNeg + 0) (.int (rd_fb a b c d e 0))) r h' := by
  replace hc_z := rn_iload (am_cur_of (i := (23, 2, .iload 6, (0, 0, 0), 0)) (by decide +kernel)) g6_z hc_z
  replace hc_z := rn_bipush (w := 20) (am_cur_of (i := (25, 2, .bipush 20, (0, 0, 0), 0)) (by decide +kernel)) (by decide) hc_z
  replace hc_z := rn_cmpF (am_cur_of (i := (27, 3, .if_icmp .ge 86, (58, 0, 0), 0)) (by decide +kernel)) (by decide) hc_z
  replace hc_z := rn_iload (am_cur_of (i := (30, 2, .iload 6, (0, 0, 0), 0)) (by decide +kernel)) g6_z hc_z
  replace hc_z := rn_iconst (w := 4) (am_cur_of (i := (32, 1, .iconst 4, (0, 0, 0), 0)) (by decide +kernel)) (by decide) hc_z
  replace hc_z := rn_cmpF (am_cur_of (i := (33, 3, .if_icmp .ge 7, (21, 0, 0), 0)) (by decide +kernel)) (by decide) hc_z
  replace hc_z := rn_iload_n (am_cur_of (i := (36, 1, .iload_n 1, (0, 0, 0), 0)) (by decide +kernel)) g1_z hc_z
  replace hc_z := rn_goto (am_cur_of (i := (37, 3, .goto 39, (37, 0, 0), 0)) (by decide +kernel)) hc_z
  replace hc_z := rn_istore (am_cur_of (i := (76, 2, .istore 7, (0, 0, 0), 0)) (by decide +kernel)) hc_z
  obtain ⟨_, s41_z, s42_z, g7_z, hc_z⟩ := hc_z
  replace g0_z := s41_z 0 _ (by decide) rfl g0_z
  replace g1_z := s41_z 1 _ (by decide) rfl g1_z
  replace g2_z := s41_z 2 _ (by decide) rfl g2_z
  replace g3_z := s41_z 3 _ (by decide) rfl g3_z
  replace g4_z := s41_z 4 _ (by decide) rfl g4_z
  replace g5_z := s41_z 5 _ (by decide) rfl g5_z
  replace g6_z := s41_z 6 _ (by decide) rfl g6_z
  clear s41_z s42_z
  replace hc_z := rn_aload_n (am_cur_of (i := (78, 1, .aload_n 0, (0, 0, 0), 0)) (by decide +kernel)) g0_z hc_z
  replace hc_z := rn_getR (x := 165) (am_cur_of (i := (79, 3, .getfield 7, (12, 0, 1384), 0)) (by decide +kernel)) (by decide +kernel) hc_z
  replace hc_z := rn_aload_n (am_cur_of (i := (82, 1, .aload_n 0, (0, 0, 0), 0)) (by decide +kernel)) g0_z hc_z
  replace hc_z := rn_getI (v := t) (am_cur_of (i := (83, 3, .getfield 142, (12, 1, 1385), 0)) (by decide +kernel)) (by decide +kernel) et hc_z
  replace hc_z := rn_iload (am_cur_of (i := (86, 2, .iload 6, (0, 0, 0), 0)) (by decide +kernel)) g6_z hc_z
  replace hc_z := rn_iadd (w := t + 0) (am_cur_of (i := (88, 1, .iadd, (0, 0, 0), 0)) (by decide +kernel)) rfl hc_z
  replace hc_z := rn_iload (am_cur_of (i := (89, 2, .iload 7, (0, 0, 0), 0)) (by decide +kernel)) g7_z hc_z
  replace hc_z := rn_bipush (w := 24) (am_cur_of (i := (91, 2, .bipush 24, (0, 0, 0), 0)) (by decide +kernel)) (by decide) hc_z
  replace hc_z := rn_bipush (w := 8) (am_cur_of (i := (93, 2, .bipush 8, (0, 0, 0), 0)) (by decide +kernel)) (by decide) hc_z
  replace hc_z := rn_iload (am_cur_of (i := (95, 2, .iload 6, (0, 0, 0), 0)) (by decide +kernel)) g6_z hc_z
  replace hc_z := rn_iconst (w := 4) (am_cur_of (i := (97, 1, .iconst 4, (0, 0, 0), 0)) (by decide +kernel)) (by decide) hc_z
  replace hc_z := rn_irem (w := 0) (am_cur_of (i := (98, 1, .irem, (0, 0, 0), 0)) (by decide +kernel)) (by decide) hc_z
  obtain ⟨d43_z, hc_z⟩ := hc_z
  replace hc_z := rn_imul (w := 0) (am_cur_of (i := (99, 1, .imul, (0, 0, 0), 0)) (by decide +kernel)) (by decide) hc_z
  replace hc_z := rn_isub (w := 24) (am_cur_of (i := (100, 1, .isub, (0, 0, 0), 0)) (by decide +kernel)) (by decide) hc_z
  replace hc_z := rn_ishr (w := a >>> (24 &&& 31)) (am_cur_of (i := (101, 1, .ishr, (0, 0, 0), 0)) (by decide +kernel)) rfl hc_z
  replace hc_z := rn_sipush (w := 255) (am_cur_of (i := (102, 3, .sipush 255, (0, 0, 0), 0)) (by decide +kernel)) (by decide) hc_z
  replace hc_z := rn_iand (w := (a >>> (24 &&& 31)) &&& 255) (am_cur_of (i := (105, 1, .iand, (0, 0, 0), 0)) (by decide +kernel)) rfl hc_z
  replace hc_z := rn_iastore (N := 700) (q := (t + 0).toNatClampNeg) (am_cur_of (i := (106, 1, .iastore, (0, 0, 0), 0)) (by decide +kernel)) (by decide +kernel) rfl hc_z
  obtain ⟨p44_z, hc_z⟩ := hc_z
  replace hc_z := rn_iinc (w := 1) (am_cur_of (i := (107, 3, .iinc 6 1, (0, 0, 0), 0)) (by decide +kernel)) g6_z (by decide) hc_z
  obtain ⟨_, s45_z, s46_z, g6_z, hc_z⟩ := hc_z
  replace g0_z := s45_z 0 _ (by decide) rfl g0_z
  replace g1_z := s45_z 1 _ (by decide) rfl g1_z
  replace g2_z := s45_z 2 _ (by decide) rfl g2_z
  replace g3_z := s45_z 3 _ (by decide) rfl g3_z
  replace g4_z := s45_z 4 _ (by decide) rfl g4_z
  replace g5_z := s45_z 5 _ (by decide) rfl g5_z
  replace g7_z := s45_z 7 _ (by decide) rfl g7_z
  clear s45_z s46_z
  replace hc_z := rn_goto (am_cur_of (i := (110, 3, .goto (-87), (13, 0, 0), 0)) (by decide +kernel)) hc_z
  have ix : ((t + 0).toNatClampNeg) = t.toNatClampNeg + 0 := fd_ix 0 (by decide) t0_z t6_z
  have iv : ((a >>> (24 &&& 31)) &&& 255) = rd_fb a b c d e 0 := rd_i (s := 24 - 8 * (0 % 4)) (by decide) (by decide)
  rw [ix, iv] at hc_z
  exact ⟨_, g0_z, g1_z, g2_z, g3_z, g4_z, g5_z, g6_z, hc_z⟩
theorem fd_M1 {n : Nat} {h h' : am_H} {r : Option Value} {t a b c d e : Int32} {ls : am_L} (et : rg_v h 164 1 = t) (t0_z : 0 ≤ t.toInt) (t6_z : t.toInt ≤ 680) (g0_z : am_get ls 0 = some (.ref 164)) (g1_z : am_get ls 1 = some (.int a)) (g2_z : am_get ls 2 = some (.int b)) (g3_z : am_get ls 3 = some (.int c)) (g4_z : am_get ls 4 = some (.int d)) (g5_z : am_get ls 5 = some (.int e)) (g6_z : am_get ls 6 = some (.int 1)) (hc_z : rn n am_m149 13 ls [] h r h') : ∃ ls', am_get ls' 0 = some (.ref 164) ∧ am_get ls' 1 = some (.int a) ∧ am_get ls' 2 = some (.int b) ∧ am_get ls' 3 = some (.int c) ∧ am_get ls' 4 = some (.int d) ∧ am_get ls' 5 = some (.int e) ∧ am_get ls' 6 = some (.int 2) ∧ rn n am_m149 13 ls' [] (am_up h 165 (t.toNatClampNeg + 1) (.int (rd_fb a b c d e 1))) r h' := by
  replace hc_z := rn_iload (am_cur_of (i := (23, 2, .iload 6, (0, 0, 0), 0)) (by decide +kernel)) g6_z hc_z
  replace hc_z := rn_bipush (w := 20) (am_cur_of (i := (25, 2, .bipush 20, (0, 0, 0), 0)) (by decide +kernel)) (by decide) hc_z
  replace hc_z := rn_cmpF (am_cur_of (i := (27, 3, .if_icmp .ge 86, (58, 0, 0), 0)) (by decide +kernel)) (by decide) hc_z
  replace hc_z := rn_iload (am_cur_of (i := (30, 2, .iload 6, (0, 0, 0), 0)) (by decide +kernel)) g6_z hc_z
  replace hc_z := rn_iconst (w := 4) (am_cur_of (i := (32, 1, .iconst 4, (0, 0, 0), 0)) (by decide +kernel)) (by decide) hc_z
  replace hc_z := rn_cmpF (am_cur_of (i := (33, 3, .if_icmp .ge 7, (21, 0, 0), 0)) (by decide +kernel)) (by decide) hc_z
  replace hc_z := rn_iload_n (am_cur_of (i := (36, 1, .iload_n 1, (0, 0, 0), 0)) (by decide +kernel)) g1_z hc_z
  replace hc_z := rn_goto (am_cur_of (i := (37, 3, .goto 39, (37, 0, 0), 0)) (by decide +kernel)) hc_z
  replace hc_z := rn_istore (am_cur_of (i := (76, 2, .istore 7, (0, 0, 0), 0)) (by decide +kernel)) hc_z
  obtain ⟨_, s47_z, s48_z, g7_z, hc_z⟩ := hc_z
  replace g0_z := s47_z 0 _ (by decide) rfl g0_z
  replace g1_z := s47_z 1 _ (by decide) rfl g1_z
  replace g2_z := s47_z 2 _ (by decide) rfl g2_z
  replace g3_z := s47_z 3 _ (by decide) rfl g3_z
  replace g4_z := s47_z 4 _ (by decide) rfl g4_z
  replace g5_z := s47_z 5 _ (by decide) rfl g5_z
  replace g6_z := s47_z 6 _ (by decide) rfl g6_z
  clear s47_z s48_z
  replace hc_z := rn_aload_n (am_cur_of (i := (78, 1, .aload_n 0, (0, 0, 0), 0)) (by decide +kernel)) g0_z hc_z
  replace hc_z := rn_getR (x := 165) (am_cur_of (i := (79, 3, .getfield 7, (12, 0, 1384), 0)) (by decide +kernel)) (by decide +kernel) hc_z
  replace hc_z := rn_aload_n (am_cur_of (i := (82, 1, .aload_n 0, (0, 0, 0), 0)) (by decide +kernel)) g0_z hc_z
  replace hc_z := rn_getI (v := t) (am_cur_of (i := (83, 3, .getfield 142, (12, 1, 1385), 0)) (by decide +kernel)) (by decide +kernel) et hc_z
  replace hc_z := rn_iload (am_cur_of (i := (86, 2, .iload 6, (0, 0, 0), 0)) (by decide +kernel)) g6_z hc_z
  replace hc_z := rn_iadd (w := t + 1) (am_cur_of (i := (88, 1, .iadd, (0, 0, 0), 0)) (by decide +kernel)) rfl hc_z
  replace hc_z := rn_iload (am_cur_of (i := (89, 2, .iload 7, (0, 0, 0), 0)) (by decide +kernel)) g7_z hc_z
  replace hc_z := rn_bipush (w := 24) (am_cur_of (i := (91, 2, .bipush 24, (0, 0, 0), 0)) (by decide +kernel)) (by decide) hc_z
  replace hc_z := rn_bipush (w := 8) (am_cur_of (i := (93, 2, .bipush 8, (0, 0, 0), 0)) (by decide +kernel)) (by decide) hc_z
  replace hc_z := rn_iload (am_cur_of (i := (95, 2, .iload 6, (0, 0, 0), 0)) (by decide +kernel)) g6_z hc_z
  replace hc_z := rn_iconst (w := 4) (am_cur_of (i := (97, 1, .iconst 4, (0, 0, 0), 0)) (by decide +kernel)) (by decide) hc_z
  replace hc_z := rn_irem (w := 1) (am_cur_of (i := (98, 1, .irem, (0, 0, 0), 0)) (by decide +kernel)) (by decide) hc_z
  obtain ⟨d49_z, hc_z⟩ := hc_z
  replace hc_z := rn_imul (w := 8) (am_cur_of (i := (99, 1, .imul, (0, 0, 0), 0)) (by decide +kernel)) (by decide) hc_z
  replace hc_z := rn_isub (w := 16) (am_cur_of (i := (100, 1, .isub, (0, 0, 0), 0)) (by decide +kernel)) (by decide) hc_z
  replace hc_z := rn_ishr (w := a >>> (16 &&& 31)) (am_cur_of (i := (101, 1, .ishr, (0, 0, 0), 0)) (by decide +kernel)) rfl hc_z
  replace hc_z := rn_sipush (w := 255) (am_cur_of (i := (102, 3, .sipush 255, (0, 0, 0), 0)) (by decide +kernel)) (by decide) hc_z
  replace hc_z := rn_iand (w := (a >>> (16 &&& 31)) &&& 255) (am_cur_of (i := (105, 1, .iand, (0, 0, 0), 0)) (by decide +kernel)) rfl hc_z
  replace hc_z := rn_iastore (N := 700) (q := (t + 1).toNatClampNeg) (am_cur_of (i := (106, 1, .iastore, (0, 0, 0), 0)) (by decide +kernel)) (by decide +kernel) rfl hc_z
  obtain ⟨p50_z, hc_z⟩ := hc_z
  replace hc_z := rn_iinc (w := 2) (am_cur_of (i := (107, 3, .iinc 6 1, (0, 0, 0), 0)) (by decide +kernel)) g6_z (by decide) hc_z
  obtain ⟨_, s51_z, s52_z, g6_z, hc_z⟩ := hc_z
  replace g0_z := s51_z 0 _ (by decide) rfl g0_z
  replace g1_z := s51_z 1 _ (by decide) rfl g1_z
  replace g2_z := s51_z 2 _ (by decide) rfl g2_z
  replace g3_z := s51_z 3 _ (by decide) rfl g3_z
  replace g4_z := s51_z 4 _ (by decide) rfl g4_z
  replace g5_z := s51_z 5 _ (by decide) rfl g5_z
  replace g7_z := s51_z 7 _ (by decide) rfl g7_z
  clear s51_z s52_z
  replace hc_z := rn_goto (am_cur_of (i := (110, 3, .goto (-87), (13, 0, 0), 0)) (by decide +kernel)) hc_z
  have ix : ((t + 1).toNatClampNeg) = t.toNatClampNeg + 1 := fd_ix 1 (by decide) t0_z t6_z
  have iv : ((a >>> (16 &&& 31)) &&& 255) = rd_fb a b c d e 1 := rd_i (s := 24 - 8 * (1 % 4)) (by decide) (by decide)
  rw [ix, iv] at hc_z
  exact ⟨_, g0_z, g1_z, g2_z, g3_z, g4_z, g5_z, g6_z, hc_z⟩
theorem fd_M2 {n : Nat} {h h' : am_H} {r : Option Value} {t a b c d e : Int32} {ls : am_L} (et : rg_v h 164 1 = t) (t0_z : 0 ≤ t.toInt) (t6_z : t.toInt ≤ 680) (g0_z : am_get ls 0 = some (.ref 164)) (g1_z : am_get ls 1 = some (.int a)) (g2_z : am_get ls 2 = some (.int b)) (g3_z : am_get ls 3 = some (.int c)) (g4_z : am_get ls 4 = some (.int d)) (g5_z : am_get ls 5 = some (.int e)) (g6_z : am_get ls 6 = some (.int 2)) (hc_z : rn n am_m149 13 ls [] h r h') : ∃ ls', am_get ls' 0 = some (.ref 164) ∧ am_get ls' 1 = some (.int a) ∧ am_get ls' 2 = some (.int b) ∧ am_get ls' 3 = some (.int c) ∧ am_get ls' 4 = some (.int d) ∧ am_get ls' 5 = some (.int e) ∧ am_get ls' 6 = some (.int 3) ∧ rn n am_m149 13 ls' [] (am_up h 165 (t.toNatClampNeg + 2) (.int (rd_fb a b c d e 2))) r h' := by
  replace hc_z := rn_iload (am_cur_of (i := (23, 2, .iload 6, (0, 0, 0), 0)) (by decide +kernel)) g6_z hc_z
  replace hc_z := rn_bipush (w := 20) (am_cur_of (i := (25, 2, .bipush 20, (0, 0, 0), 0)) (by decide +kernel)) (by decide) hc_z
  replace hc_z := rn_cmpF (am_cur_of (i := (27, 3, .if_icmp .ge 86, (58, 0, 0), 0)) (by decide +kernel)) (by decide) hc_z
  replace hc_z := rn_iload (am_cur_of (i := (30, 2, .iload 6, (0, 0, 0), 0)) (by decide +kernel)) g6_z hc_z
  replace hc_z := rn_iconst (w := 4) (am_cur_of (i := (32, 1, .iconst 4, (0, 0, 0), 0)) (by decide +kernel)) (by decide) hc_z
  replace hc_z := rn_cmpF (am_cur_of (i := (33, 3, .if_icmp .ge 7, (21, 0, 0), 0)) (by decide +kernel)) (by decide) hc_z
  replace hc_z := rn_iload_n (am_cur_of (i := (36, 1, .iload_n 1, (0, 0, 0), 0)) (by decide +kernel)) g1_z hc_z
  replace hc_z := rn_goto (am_cur_of (i := (37, 3, .goto 39, (37, 0, 0), 0)) (by decide +kernel)) hc_z
  replace hc_z := rn_istore (am_cur_of (i := (76, 2, .istore 7, (0, 0, 0), 0)) (by decide +kernel)) hc_z
  obtain ⟨_, s53_z, s54_z, g7_z, hc_z⟩ := hc_z
  replace g0_z := s53_z 0 _ (by decide) rfl g0_z
  replace g1_z := s53_z 1 _ (by decide) rfl g1_z
  replace g2_z := s53_z 2 _ (by decide) rfl g2_z
  replace g3_z := s53_z 3 _ (by decide) rfl g3_z
  replace g4_z := s53_z 4 _ (by decide) rfl g4_z
  replace g5_z := s53_z 5 _ (by decide) rfl g5_z
  replace g6_z := s53_z 6 _ (by decide) rfl g6_z
  clear s53_z s54_z
  replace hc_z := rn_aload_n (am_cur_of (i := (78, 1, .aload_n 0, (0, 0, 0), 0)) (by decide +kernel)) g0_z hc_z
  replace hc_z := rn_getR (x := 165) (am_cur_of (i := (79, 3, .getfield 7, (12, 0, 1384), 0)) (by decide +kernel)) (by decide +kernel) hc_z
  replace hc_z := rn_aload_n (am_cur_of (i := (82, 1, .aload_n 0, (0, 0, 0), 0)) (by decide +kernel)) g0_z hc_z
  replace hc_z := rn_getI (v := t) (am_cur_of (i := (83, 3, .getfield 142, (12, 1, 1385), 0)) (by decide +kernel)) (by decide +kernel) et hc_z
  replace hc_z := rn_iload (am_cur_of (i := (86, 2, .iload 6, (0, 0, 0), 0)) (by decide +kernel)) g6_z hc_z
  replace hc_z := rn_iadd (w := t + 2) (am_cur_of (i := (88, 1, .iadd, (0, 0, 0), 0)) (by decide +kernel)) rfl hc_z
  replace hc_z := rn_iload (am_cur_of (i := (89, 2, .iload 7, (0, 0, 0), 0)) (by decide +kernel)) g7_z hc_z
  replace hc_z := rn_bipush (w := 24) (am_cur_of (i := (91, 2, .bipush 24, (0, 0, 0), 0)) (by decide +kernel)) (by decide) hc_z
  replace hc_z := rn_bipush (w := 8) (am_cur_of (i := (93, 2, .bipush 8, (0, 0, 0), 0)) (by decide +kernel)) (by decide) hc_z
  replace hc_z := rn_iload (am_cur_of (i := (95, 2, .iload 6, (0, 0, 0), 0)) (by decide +kernel)) g6_z hc_z
  replace hc_z := rn_iconst (w := 4) (am_cur_of (i := (97, 1, .iconst 4, (0, 0, 0), 0)) (by decide +kernel)) (by decide) hc_z
  replace hc_z := rn_irem (w := 2) (am_cur_of (i := (98, 1, .irem, (0, 0, 0), 0)) (by decide +kernel)) (by decide) hc_z
  obtain ⟨d55_z, hc_z⟩ := hc_z
  replace hc_z := rn_imul (w := 16) (am_cur_of (i := (99, 1, .imul, (0, 0, 0), 0)) (by decide +kernel)) (by decide) hc_z
  replace hc_z := rn_isub (w := 8) (am_cur_of (i := (100, 1, .isub, (0, 0, 0), 0)) (by decide +kernel)) (by decide) hc_z
  replace hc_z := rn_ishr (w := a >>> (8 &&& 31)) (am_cur_of (i := (101, 1, .ishr, (0, 0, 0), 0)) (by decide +kernel)) rfl hc_z
  replace hc_z := rn_sipush (w := 255) (am_cur_of (i := (102, 3, .sipush 255, (0, 0, 0), 0)) (by decide +kernel)) (by decide) hc_z
  replace hc_z := rn_iand (w := (a >>> (8 &&& 31)) &&& 255) (am_cur_of (i := (105, 1, .iand, (0, 0, 0), 0)) (by decide +kernel)) rfl hc_z
  replace hc_z := rn_iastore (N := 700) (q := (t + 2).toNatClampNeg) (am_cur_of (i := (106, 1, .iastore, (0, 0, 0), 0)) (by decide +kernel)) (by decide +kernel) rfl hc_z
  obtain ⟨p56_z, hc_z⟩ := hc_z
  replace hc_z := rn_iinc (w := 3) (am_cur_of (i := (107, 3, .iinc 6 1, (0, 0, 0), 0)) (by decide +kernel)) g6_z (by decide) hc_z
  obtain ⟨_, s57_z, s58_z, g6_z, hc_z⟩ := hc_z
  replace g0_z := s57_z 0 _ (by decide) rfl g0_z
  replace g1_z := s57_z 1 _ (by decide) rfl g1_z
  replace g2_z := s57_z 2 _ (by decide) rfl g2_z
  replace g3_z := s57_z 3 _ (by decide) rfl g3_z
  replace g4_z := s57_z 4 _ (by decide) rfl g4_z
  replace g5_z := s57_z 5 _ (by decide) rfl g5_z
  replace g7_z := s57_z 7 _ (by decide) rfl g7_z
  clear s57_z s58_z
  replace hc_z := rn_goto (am_cur_of (i := (110, 3, .goto (-87), (13, 0, 0), 0)) (by decide +kernel)) hc_z
  have ix : ((t + 2).toNatClampNeg) = t.toNatClampNeg + 2 := fd_ix 2 (by decide) t0_z t6_z
  have iv : ((a >>> (8 &&& 31)) &&& 255) = rd_fb a b c d e 2 := rd_i (s := 24 - 8 * (2 % 4)) (by decide) (by decide)
  rw [ix, iv] at hc_z
  exact ⟨_, g0_z, g1_z, g2_z, g3_z, g4_z, g5_z, g6_z, hc_z⟩
theorem fd_M3 {n : Nat} {h h' : am_H} {r : Option Value} {t a b c d e : Int32} {ls : am_L} (et : rg_v h 164 1 = t) (t0_z : 0 ≤ t.toInt) (t6_z : t.toInt ≤ 680) (g0_z : am_get ls 0 = some (.ref 164)) (g1_z : am_get ls 1 = some (.int a)) (g2_z : am_get ls 2 = some (.int b)) (g3_z : am_get ls 3 = some (.int c)) (g4_z : am_get ls 4 = some (.int d)) (g5_z : am_get ls 5 = some (.int e)) (g6_z : am_get ls 6 = some (.int 3)) (hc_z : rn n am_m149 13 ls [] h r h') : ∃ ls', am_get ls' 0 = some (.ref 164) ∧ am_get ls' 1 = some (.int a) ∧ am_get ls' 2 = some (.int b) ∧ am_get ls' 3 = some (.int c) ∧ am_get ls' 4 = some (.int d) ∧ am_get ls' 5 = some (.int e) ∧ am_get ls' 6 = some (.int 4) ∧ rn n am_m149 13 ls' [] (am_up h 165 (t.toNatClampNeg + 3) (.int (rd_fb a b c d e 3))) r h' := by
  replace hc_z := rn_iload (am_cur_of (i := (23, 2, .iload 6, (0, 0, 0), 0)) (by decide +kernel)) g6_z hc_z
  replace hc_z := rn_bipush (w := 20) (am_cur_of (i := (25, 2, .bipush 20, (0, 0, 0), 0)) (by decide +kernel)) (by decide) hc_z
  replace hc_z := rn_cmpF (am_cur_of (i := (27, 3, .if_icmp .ge 86, (58, 0, 0), 0)) (by decide +kernel)) (by decide) hc_z
  replace hc_z := rn_iload (am_cur_of (i := (30, 2, .iload 6, (0, 0, 0), 0)) (by decide +kernel)) g6_z hc_z
  replace hc_z := rn_iconst (w := 4) (am_cur_of (i := (32, 1, .iconst 4, (0, 0, 0), 0)) (by decide +kernel)) (by decide) hc_z
  replace hc_z := rn_cmpF (am_cur_of (i := (33, 3, .if_icmp .ge 7, (21, 0, 0), 0)) (by decide +kernel)) (by decide) hc_z
  replace hc_z := rn_iload_n (am_cur_of (i := (36, 1, .iload_n 1, (0, 0, 0), 0)) (by decide +kernel)) g1_z hc_z
  replace hc_z := rn_goto (am_cur_of (i := (37, 3, .goto 39, (37, 0, 0), 0)) (by decide +kernel)) hc_z
  replace hc_z := rn_istore (am_cur_of (i := (76, 2, .istore 7, (0, 0, 0), 0)) (by decide +kernel)) hc_z
  obtain ⟨_, s59_z, s60_z, g7_z, hc_z⟩ := hc_z
  replace g0_z := s59_z 0 _ (by decide) rfl g0_z
  replace g1_z := s59_z 1 _ (by decide) rfl g1_z
  replace g2_z := s59_z 2 _ (by decide) rfl g2_z
  replace g3_z := s59_z 3 _ (by decide) rfl g3_z
  replace g4_z := s59_z 4 _ (by decide) rfl g4_z
  replace g5_z := s59_z 5 _ (by decide) rfl g5_z
  replace g6_z := s59_z 6 _ (by decide) rfl g6_z
  clear s59_z s60_z
  replace hc_z := rn_aload_n (am_cur_of (i := (78, 1, .aload_n 0, (0, 0, 0), 0)) (by decide +kernel)) g0_z hc_z
  replace hc_z := rn_getR (x := 165) (am_cur_of (i := (79, 3, .getfield 7, (12, 0, 1384), 0)) (by decide +kernel)) (by decide +kernel) hc_z
  replace hc_z := rn_aload_n (am_cur_of (i := (82, 1, .aload_n 0, (0, 0, 0), 0)) (by decide +kernel)) g0_z hc_z
  replace hc_z := rn_getI (v := t) (am_cur_of (i := (83, 3, .getfield 142, (12, 1, 1385), 0)) (by decide +kernel)) (by decide +kernel) et hc_z
  replace hc_z := rn_iload (am_cur_of (i := (86, 2, .iload 6, (0, 0, 0), 0)) (by decide +kernel)) g6_z hc_z
  replace hc_z := rn_iadd (w := t + 3) (am_cur_of (i := (88, 1, .iadd, (0, 0, 0), 0)) (by decide +kernel)) rfl hc_z
  replace hc_z := rn_iload (am_cur_of (i := (89, 2, .iload 7, (0, 0, 0), 0)) (by decide +kernel)) g7_z hc_z
  replace hc_z := rn_bipush (w := 24) (am_cur_of (i := (91, 2, .bipush 24, (0, 0, 0), 0)) (by decide +kernel)) (by decide) hc_z
  replace hc_z := rn_bipush (w := 8) (am_cur_of (i := (93, 2, .bipush 8, (0, 0, 0), 0)) (by decide +kernel)) (by decide) hc_z
  replace hc_z := rn_iload (am_cur_of (i := (95, 2, .iload 6, (0, 0, 0), 0)) (by decide +kernel)) g6_z hc_z
  replace hc_z := rn_iconst (w := 4) (am_cur_of (i := (97, 1, .iconst 4, (0, 0, 0), 0)) (by decide +kernel)) (by decide) hc_z
  replace hc_z := rn_irem (w := 3) (am_cur_of (i := (98, 1, .irem, (0, 0, 0), 0)) (by decide +kernel)) (by decide) hc_z
  obtain ⟨d61_z, hc_z⟩ := hc_z
  replace hc_z := rn_imul (w := 24) (am_cur_of (i := (99, 1, .imul, (0, 0, 0), 0)) (by decide +kernel)) (by decide) hc_z
  replace hc_z := rn_isub (w := 0) (am_cur_of (i := (100, 1, .isub, (0, 0, 0), 0)) (by decide +kernel)) (by decide) hc_z
  replace hc_z := rn_ishr (w := a >>> (0 &&& 31)) (am_cur_of (i := (101, 1, .ishr, (0, 0, 0), 0)) (by decide +kernel)) rfl hc_z
  replace hc_z := rn_sipush (w := 255) (am_cur_of (i := (102, 3, .sipush 255, (0, 0, 0), 0)) (by decide +kernel)) (by decide) hc_z
  replace hc_z := rn_iand (w := (a >>> (0 &&& 31)) &&& 255) (am_cur_of (i := (105, 1, .iand, (0, 0, 0), 0)) (by decide +kernel)) rfl hc_z
  replace hc_z := rn_iastore (N := 700) (q := (t + 3).toNatClampNeg) (am_cur_of (i := (106, 1, .iastore, (0, 0, 0), 0)) (by decide +kernel)) (by decide +kernel) rfl hc_z
  obtain ⟨p62_z, hc_z⟩ := hc_z
  replace hc_z := rn_iinc (w := 4) (am_cur_of (i := (107, 3, .iinc 6 1, (0, 0, 0), 0)) (by decide +kernel)) g6_z (by decide) hc_z
  obtain ⟨_, s63_z, s64_z, g6_z, hc_z⟩ := hc_z
  replace g0_z := s63_z 0 _ (by decide) rfl g0_z
  replace g1_z := s63_z 1 _ (by decide) rfl g1_z
  replace g2_z := s63_z 2 _ (by decide) rfl g2_z
  replace g3_z := s63_z 3 _ (by decide) rfl g3_z
  replace g4_z := s63_z 4 _ (by decide) rfl g4_z
  replace g5_z := s63_z 5 _ (by decide) rfl g5_z
  replace g7_z := s63_z 7 _ (by decide) rfl g7_z
  clear s63_z s64_z
  replace hc_z := rn_goto (am_cur_of (i := (110, 3, .goto (-87), (13, 0, 0), 0)) (by decide +kernel)) hc_z
  have ix : ((t + 3).toNatClampNeg) = t.toNatClampNeg + 3 := fd_ix 3 (by decide) t0_z t6_z
  have iv : ((a >>> (0 &&& 31)) &&& 255) = rd_fb a b c d e 3 := rd_i (s := 24 - 8 * (3 % 4)) (by decide) (by decide)
  rw [ix, iv] at hc_z
  exact ⟨_, g0_z, g1_z, g2_z, g3_z, g4_z, g5_z, g6_z, hc_z⟩
theorem fd_M4 {n : Nat} {h h' : am_H} {r : Option Value} {t a b c d e : Int32} {ls : am_L} (et : rg_v h 164 1 = t) (t0_z : 0 ≤ t.toInt) (t6_z : t.toInt ≤ 680) (g0_z : am_get ls 0 = some (.ref 164)) (g1_z : am_get ls 1 = some (.int a)) (g2_z : am_get ls 2 = some (.int b)) (g3_z : am_get ls 3 = some (.int c)) (g4_z : am_get ls 4 = some (.int d)) (g5_z : am_get ls 5 = some (.int e)) (g6_z : am_get ls 6 = some (.int 4)) (hc_z : rn n am_m149 13 ls [] h r h') : ∃ ls', am_get ls' 0 = some (.ref 164) ∧ am_get ls' 1 = some (.int a) ∧ am_get ls' 2 = some (.int b) ∧ am_get ls' 3 = some (.int c) ∧ am_get ls' 4 = some (.int d) ∧ am_get ls' 5 = some (.int e) ∧ am_get ls' 6 = some (.int 5) ∧ rn n am_m149 13 ls' [] (am_up h 165 (t.toNatClampNeg + 4) (.int (rd_fb a b c d e 4))) r h' := by
  replace hc_z := rn_iload (am_cur_of (i := (23, 2, .iload 6, (0, 0, 0), 0)) (by decide +kernel)) g6_z hc_z
  replace hc_z := rn_bipush (w := 20) (am_cur_of (i := (25, 2, .bipush 20, (0, 0, 0), 0)) (by decide +kernel)) (by decide) hc_z
  replace hc_z := rn_cmpF (am_cur_of (i := (27, 3, .if_icmp .ge 86, (58, 0, 0), 0)) (by decide +kernel)) (by decide) hc_z
  replace hc_z := rn_iload (am_cur_of (i := (30, 2, .iload 6, (0, 0, 0), 0)) (by decide +kernel)) g6_z hc_z
  replace hc_z := rn_iconst (w := 4) (am_cur_of (i := (32, 1, .iconst 4, (0, 0, 0), 0)) (by decide +kernel)) (by decide) hc_z
  replace hc_z := rn_cmpT (am_cur_of (i := (33, 3, .if_icmp .ge 7, (21, 0, 0), 0)) (by decide +kernel)) (by decide) hc_z
  replace hc_z := rn_iload (am_cur_of (i := (40, 2, .iload 6, (0, 0, 0), 0)) (by decide +kernel)) g6_z hc_z
  replace hc_z := rn_bipush (w := 8) (am_cur_of (i := (42, 2, .bipush 8, (0, 0, 0), 0)) (by decide +kernel)) (by decide) hc_z
  replace hc_z := rn_cmpF (am_cur_of (i := (44, 3, .if_icmp .ge 7, (26, 0, 0), 0)) (by decide +kernel)) (by decide) hc_z
  replace hc_z := rn_iload_n (am_cur_of (i := (47, 1, .iload_n 2, (0, 0, 0), 0)) (by decide +kernel)) g2_z hc_z
  replace hc_z := rn_goto (am_cur_of (i := (48, 3, .goto 28, (37, 0, 0), 0)) (by decide +kernel)) hc_z
  replace hc_z := rn_istore (am_cur_of (i := (76, 2, .istore 7, (0, 0, 0), 0)) (by decide +kernel)) hc_z
  obtain ⟨_, s65_z, s66_z, g7_z, hc_z⟩ := hc_z
  replace g0_z := s65_z 0 _ (by decide) rfl g0_z
  replace g1_z := s65_z 1 _ (by decide) rfl g1_z
  replace g2_z := s65_z 2 _ (by decide) rfl g2_z
  replace g3_z := s65_z 3 _ (by decide) rfl g3_z
  replace g4_z := s65_z 4 _ (by decide) rfl g4_z
  replace g5_z := s65_z 5 _ (by decide) rfl g5_z
  replace g6_z := s65_z 6 _ (by decide) rfl g6_z
  clear s65_z s66_z
  replace hc_z := rn_aload_n (am_cur_of (i := (78, 1, .aload_n 0, (0, 0, 0), 0)) (by decide +kernel)) g0_z hc_z
  replace hc_z := rn_getR (x := 165) (am_cur_of (i := (79, 3, .getfield 7, (12, 0, 1384), 0)) (by decide +kernel)) (by decide +kernel) hc_z
  replace hc_z := rn_aload_n (am_cur_of (i := (82, 1, .aload_n 0, (0, 0, 0), 0)) (by decide +kernel)) g0_z hc_z
  replace hc_z := rn_getI (v := t) (am_cur_of (i := (83, 3, .getfield 142, (12, 1, 1385), 0)) (by decide +kernel)) (by decide +kernel) et hc_z
  replace hc_z := rn_iload (am_cur_of (i := (86, 2, .iload 6, (0, 0, 0), 0)) (by decide +kernel)) g6_z hc_z
  replace hc_z := rn_iadd (w := t + 4) (am_cur_of (i := (88, 1, .iadd, (0, 0, 0), 0)) (by decide +kernel)) rfl hc_z
  replace hc_z := rn_iload (am_cur_of (i := (89, 2, .iload 7, (0, 0, 0), 0)) (by decide +kernel)) g7_z hc_z
  replace hc_z := rn_bipush (w := 24) (am_cur_of (i := (91, 2, .bipush 24, (0, 0, 0), 0)) (by decide +kernel)) (by decide) hc_z
  replace hc_z := rn_bipush (w := 8) (am_cur_of (i := (93, 2, .bipush 8, (0, 0, 0), 0)) (by decide +kernel)) (by decide) hc_z
  replace hc_z := rn_iload (am_cur_of (i := (95, 2, .iload 6, (0, 0, 0), 0)) (by decide +kernel)) g6_z hc_z
  replace hc_z := rn_iconst (w := 4) (am_cur_of (i := (97, 1, .iconst 4, (0, 0, 0), 0)) (by decide +kernel)) (by decide) hc_z
  replace hc_z := rn_irem (w := 0) (am_cur_of (i := (98, 1, .irem, (0, 0, 0), 0)) (by decide +kernel)) (by decide) hc_z
  obtain ⟨d67_z, hc_z⟩ := hc_z
  replace hc_z := rn_imul (w := 0) (am_cur_of (i := (99, 1, .imul, (0, 0, 0), 0)) (by decide +kernel)) (by decide) hc_z
  replace hc_z := rn_isub (w := 24) (am_cur_of (i := (100, 1, .isub, (0, 0, 0), 0)) (by decide +kernel)) (by decide) hc_z
  replace hc_z := rn_ishr (w := b >>> (24 &&& 31)) (am_cur_of (i := (101, 1, .ishr, (0, 0, 0), 0)) (by decide +kernel)) rfl hc_z
  replace hc_z := rn_sipush (w := 255) (am_cur_of (i := (102, 3, .sipush 255, (0, 0, 0), 0)) (by decide +kernel)) (by decide) hc_z
  replace hc_z := rn_iand (w := (b >>> (24 &&& 31)) &&& 255) (am_cur_of (i := (105, 1, .iand, (0, 0, 0), 0)) (by decide +kernel)) rfl hc_z
  replace hc_z := rn_iastore (N := 700) (q := (t + 4).toNatClampNeg) (am_cur_of (i := (106, 1, .iastore, (0, 0, 0), 0)) (by decide +kernel)) (by decide +kernel) rfl hc_z
  obtain ⟨p68_z, hc_z⟩ := hc_z
  replace hc_z := rn_iinc (w := 5) (am_cur_of (i := (107, 3, .iinc 6 1, (0, 0, 0), 0)) (by decide +kernel)) g6_z (by decide) hc_z
  obtain ⟨_, s69_z, s70_z, g6_z, hc_z⟩ := hc_z
  replace g0_z := s69_z 0 _ (by decide) rfl g0_z
  replace g1_z := s69_z 1 _ (by decide) rfl g1_z
  replace g2_z := s69_z 2 _ (by decide) rfl g2_z
  replace g3_z := s69_z 3 _ (by decide) rfl g3_z
  replace g4_z := s69_z 4 _ (by decide) rfl g4_z
  replace g5_z := s69_z 5 _ (by decide) rfl g5_z
  replace g7_z := s69_z 7 _ (by decide) rfl g7_z
  clear s69_z s70_z
  replace hc_z := rn_goto (am_cur_of (i := (110, 3, .goto (-87), (13, 0, 0), 0)) (by decide +kernel)) hc_z
  have ix : ((t + 4).toNatClampNeg) = t.toNatClampNeg + 4 := fd_ix 4 (by decide) t0_z t6_z
  have iv : ((b >>> (24 &&& 31)) &&& 255) = rd_fb a b c d e 4 := rd_i (s := 24 - 8 * (4 % 4)) (by decide) (by decide)
  rw [ix, iv] at hc_z
  exact ⟨_, g0_z, g1_z, g2_z, g3_z, g4_z, g5_z, g6_z, hc_z⟩
theorem fd_M5 {n : Nat} {h h' : am_H} {r : Option Value} {t a b c d e : Int32} {ls : am_L} (et : rg_v h 164 1 = t) (t0_z : 0 ≤ t.toInt) (t6_z : t.toInt ≤ 680) (g0_z : am_get ls 0 = some (.ref 164)) (g1_z : am_get ls 1 = some (.int a)) (g2_z : am_get ls 2 = some (.int b)) (g3_z : am_get ls 3 = some (.int c)) (g4_z : am_get ls 4 = some (.int d)) (g5_z : am_get ls 5 = some (.int e)) (g6_z : am_get ls 6 = some (.int 5)) (hc_z : rn n am_m149 13 ls [] h r h') : ∃ ls', am_get ls' 0 = some (.ref 164) ∧ am_get ls' 1 = some (.int a) ∧ am_get ls' 2 = some (.int b) ∧ am_get ls' 3 = some (.int c) ∧ am_get ls' 4 = some (.int d) ∧ am_get ls' 5 = some (.int e) ∧ am_get ls' 6 = some (.int 6) ∧ rn n am_m149 13 ls' [] (am_up h 165 (t.toNatClampNeg + 5) (.int (rd_fb a b c d e 5))) r h' := by
  replace hc_z := rn_iload (am_cur_of (i := (23, 2, .iload 6, (0, 0, 0), 0)) (by decide +kernel)) g6_z hc_z
  replace hc_z := rn_bipush (w := 20) (am_cur_of (i := (25, 2, .bipush 20, (0, 0, 0), 0)) (by decide +kernel)) (by decide) hc_z
  replace hc_z := rn_cmpF (am_cur_of (i := (27, 3, .if_icmp .ge 86, (58, 0, 0), 0)) (by decide +kernel)) (by decide) hc_z
  replace hc_z := rn_iload (am_cur_of (i := (30, 2, .iload 6, (0, 0, 0), 0)) (by decide +kernel)) g6_z hc_z
  replace hc_z := rn_iconst (w := 4) (am_cur_of (i := (32, 1, .iconst 4, (0, 0, 0), 0)) (by decide +kernel)) (by decide) hc_z
  replace hc_z := rn_cmpT (am_cur_of (i := (33, 3, .if_icmp .ge 7, (21, 0, 0), 0)) (by decide +kernel)) (by decide) hc_z
  replace hc_z := rn_iload (am_cur_of (i := (40, 2, .iload 6, (0, 0, 0), 0)) (by decide +kernel)) g6_z hc_z
  replace hc_z := rn_bipush (w := 8) (am_cur_of (i := (42, 2, .bipush 8, (0, 0, 0), 0)) (by decide +kernel)) (by decide) hc_z
  replace hc_z := rn_cmpF (am_cur_of (i := (44, 3, .if_icmp .ge 7, (26, 0, 0), 0)) (by decide +kernel)) (by decide) hc_z
  replace hc_z := rn_iload_n (am_cur_of (i := (47, 1, .iload_n 2, (0, 0, 0), 0)) (by decide +kernel)) g2_z hc_z
  replace hc_z := rn_goto (am_cur_of (i := (48, 3, .goto 28, (37, 0, 0), 0)) (by decide +kernel)) hc_z
  replace hc_z := rn_istore (am_cur_of (i := (76, 2, .istore 7, (0, 0, 0), 0)) (by decide +kernel)) hc_z
  obtain ⟨_, s71_z, s72_z, g7_z, hc_z⟩ := hc_z
  replace g0_z := s71_z 0 _ (by decide) rfl g0_z
  replace g1_z := s71_z 1 _ (by decide) rfl g1_z
  replace g2_z := s71_z 2 _ (by decide) rfl g2_z
  replace g3_z := s71_z 3 _ (by decide) rfl g3_z
  replace g4_z := s71_z 4 _ (by decide) rfl g4_z
  replace g5_z := s71_z 5 _ (by decide) rfl g5_z
  replace g6_z := s71_z 6 _ (by decide) rfl g6_z
  clear s71_z s72_z
  replace hc_z := rn_aload_n (am_cur_of (i := (78, 1, .aload_n 0, (0, 0, 0), 0)) (by decide +kernel)) g0_z hc_z
  replace hc_z := rn_getR (x := 165) (am_cur_of (i := (79, 3, .getfield 7, (12, 0, 1384), 0)) (by decide +kernel)) (by decide +kernel) hc_z
  replace hc_z := rn_aload_n (am_cur_of (i := (82, 1, .aload_n 0, (0, 0, 0), 0)) (by decide +kernel)) g0_z hc_z
  replace hc_z := rn_getI (v := t) (am_cur_of (i := (83, 3, .getfield 142, (12, 1, 1385), 0)) (by decide +kernel)) (by decide +kernel) et hc_z
  replace hc_z := rn_iload (am_cur_of (i := (86, 2, .iload 6, (0, 0, 0), 0)) (by decide +kernel)) g6_z hc_z
  replace hc_z := rn_iadd (w := t + 5) (am_cur_of (i := (88, 1, .iadd, (0, 0, 0), 0)) (by decide +kernel)) rfl hc_z
  replace hc_z := rn_iload (am_cur_of (i := (89, 2, .iload 7, (0, 0, 0), 0)) (by decide +kernel)) g7_z hc_z
  replace hc_z := rn_bipush (w := 24) (am_cur_of (i := (91, 2, .bipush 24, (0, 0, 0), 0)) (by decide +kernel)) (by decide) hc_z
  replace hc_z := rn_bipush (w := 8) (am_cur_of (i := (93, 2, .bipush 8, (0, 0, 0), 0)) (by decide +kernel)) (by decide) hc_z
  replace hc_z := rn_iload (am_cur_of (i := (95, 2, .iload 6, (0, 0, 0), 0)) (by decide +kernel)) g6_z hc_z
  replace hc_z := rn_iconst (w := 4) (am_cur_of (i := (97, 1, .iconst 4, (0, 0, 0), 0)) (by decide +kernel)) (by decide) hc_z
  replace hc_z := rn_irem (w := 1) (am_cur_of (i := (98, 1, .irem, (0, 0, 0), 0)) (by decide +kernel)) (by decide) hc_z
  obtain ⟨d73_z, hc_z⟩ := hc_z
  replace hc_z := rn_imul (w := 8) (am_cur_of (i := (99, 1, .imul, (0, 0, 0), 0)) (by decide +kernel)) (by decide) hc_z
  replace hc_z := rn_isub (w := 16) (am_cur_of (i := (100, 1, .isub, (0, 0, 0), 0)) (by decide +kernel)) (by decide) hc_z
  replace hc_z := rn_ishr (w := b >>> (16 &&& 31)) (am_cur_of (i := (101, 1, .ishr, (0, 0, 0), 0)) (by decide +kernel)) rfl hc_z
  replace hc_z := rn_sipush (w := 255) (am_cur_of (i := (102, 3, .sipush 255, (0, 0, 0), 0)) (by decide +kernel)) (by decide) hc_z
  replace hc_z := rn_iand (w := (b >>> (16 &&& 31)) &&& 255) (am_cur_of (i := (105, 1, .iand, (0, 0, 0), 0)) (by decide +kernel)) rfl hc_z
  replace hc_z := rn_iastore (N := 700) (q := (t + 5).toNatClampNeg) (am_cur_of (i := (106, 1, .iastore, (0, 0, 0), 0)) (by decide +kernel)) (by decide +kernel) rfl hc_z
  obtain ⟨p74_z, hc_z⟩ := hc_z
  replace hc_z := rn_iinc (w := 6) (am_cur_of (i := (107, 3, .iinc 6 1, (0, 0, 0), 0)) (by decide +kernel)) g6_z (by decide) hc_z
  obtain ⟨_, s75_z, s76_z, g6_z, hc_z⟩ := hc_z
  replace g0_z := s75_z 0 _ (by decide) rfl g0_z
  replace g1_z := s75_z 1 _ (by decide) rfl g1_z
  replace g2_z := s75_z 2 _ (by decide) rfl g2_z
  replace g3_z := s75_z 3 _ (by decide) rfl g3_z
  replace g4_z := s75_z 4 _ (by decide) rfl g4_z
  replace g5_z := s75_z 5 _ (by decide) rfl g5_z
  replace g7_z := s75_z 7 _ (by decide) rfl g7_z
  clear s75_z s76_z
  replace hc_z := rn_goto (am_cur_of (i := (110, 3, .goto (-87), (13, 0, 0), 0)) (by decide +kernel)) hc_z
  have ix : ((t + 5).toNatClampNeg) = t.toNatClampNeg + 5 := fd_ix 5 (by decide) t0_z t6_z
  have iv : ((b >>> (16 &&& 31)) &&& 255) = rd_fb a b c d e 5 := rd_i (s := 24 - 8 * (5 % 4)) (by decide) (by decide)
  rw [ix, iv] at hc_z
  exact ⟨_, g0_z, g1_z, g2_z, g3_z, g4_z, g5_z, g6_z, hc_z⟩
theorem fd_M6 {n : Nat} {h h' : am_H} {r : Option Value} {t a b c d e : Int32} {ls : am_L} (et : rg_v h 164 1 = t) (t0_z : 0 ≤ t.toInt) (t6_z : t.toInt ≤ 680) (g0_z : am_get ls 0 = some (.ref 164)) (g1_z : am_get ls 1 = some (.int a)) (g2_z : am_get ls 2 = some (.int b)) (g3_z : am_get ls 3 = some (.int c)) (g4_z : am_get ls 4 = some (.int d)) (g5_z : am_get ls 5 = some (.int e)) (g6_z : am_get ls 6 = some (.int 6)) (hc_z : rn n am_m149 13 ls [] h r h') : ∃ ls', am_get ls' 0 = some (.ref 164) ∧ am_get ls' 1 = some (.int a) ∧ am_get ls' 2 = some (.int b) ∧ am_get ls' 3 = some (.int c) ∧ am_get ls' 4 = some (.int d) ∧ am_get ls' 5 = some (.int e) ∧ am_get ls' 6 = some (.int 7) ∧ rn n am_m149 13 ls' [] (am_up h 165 (t.toNatClampNeg + 6) (.int (rd_fb a b c d e 6))) r h' := by
  replace hc_z := rn_iload (am_cur_of (i := (23, 2, .iload 6, (0, 0, 0), 0)) (by decide +kernel)) g6_z hc_z
  replace hc_z := rn_bipush (w := 20) (am_cur_of (i := (25, 2, .bipush 20, (0, 0, 0), 0)) (by decide +kernel)) (by decide) hc_z
  replace hc_z := rn_cmpF (am_cur_of (i := (27, 3, .if_icmp .ge 86, (58, 0, 0), 0)) (by decide +kernel)) (by decide) hc_z
  replace hc_z := rn_iload (am_cur_of (i := (30, 2, .iload 6, (0, 0, 0), 0)) (by decide +kernel)) g6_z hc_z
  replace hc_z := rn_iconst (w := 4) (am_cur_of (i := (32, 1, .iconst 4, (0, 0, 0), 0)) (by decide +kernel)) (by decide) hc_z
  replace hc_z := rn_cmpT (am_cur_of (i := (33, 3, .if_icmp .ge 7, (21, 0, 0), 0)) (by decide +kernel)) (by decide) hc_z
  replace hc_z := rn_iload (am_cur_of (i := (40, 2, .iload 6, (0, 0, 0), 0)) (by decide +kernel)) g6_z hc_z
  replace hc_z := rn_bipush (w := 8) (am_cur_of (i := (42, 2, .bipush 8, (0, 0, 0), 0)) (by decide +kernel)) (by decide) hc_z
  replace hc_z := rn_cmpF (am_cur_of (i := (44, 3, .if_icmp .ge 7, (26, 0, 0), 0)) (by decide +kernel)) (by decide) hc_z
  replace hc_z := rn_iload_n (am_cur_of (i := (47, 1, .iload_n 2, (0, 0, 0), 0)) (by decide +kernel)) g2_z hc_z
  replace hc_z := rn_goto (am_cur_of (i := (48, 3, .goto 28, (37, 0, 0), 0)) (by decide +kernel)) hc_z
  replace hc_z := rn_istore (am_cur_of (i := (76, 2, .istore 7, (0, 0, 0), 0)) (by decide +kernel)) hc_z
  obtain ⟨_, s77_z, s78_z, g7_z, hc_z⟩ := hc_z
  replace g0_z := s77_z 0 _ (by decide) rfl g0_z
  replace g1_z := s77_z 1 _ (by decide) rfl g1_z
  replace g2_z := s77_z 2 _ (by decide) rfl g2_z
  replace g3_z := s77_z 3 _ (by decide) rfl g3_z
  replace g4_z := s77_z 4 _ (by decide) rfl g4_z
  replace g5_z := s77_z 5 _ (by decide) rfl g5_z
  replace g6_z := s77_z 6 _ (by decide) rfl g6_z
  clear s77_z s78_z
  replace hc_z := rn_aload_n (am_cur_of (i := (78, 1, .aload_n 0, (0, 0, 0), 0)) (by decide +kernel)) g0_z hc_z
  replace hc_z := rn_getR (x := 165) (am_cur_of (i := (79, 3, .getfield 7, (12, 0, 1384), 0)) (by decide +kernel)) (by decide +kernel) hc_z
  replace hc_z := rn_aload_n (am_cur_of (i := (82, 1, .aload_n 0, (0, 0, 0), 0)) (by decide +kernel)) g0_z hc_z
  replace hc_z := rn_getI (v := t) (am_cur_of (i := (83, 3, .getfield 142, (12, 1, 1385), 0)) (by decide +kernel)) (by decide +kernel) et hc_z
  replace hc_z := rn_iload (am_cur_of (i := (86, 2, .iload 6, (0, 0, 0), 0)) (by decide +kernel)) g6_z hc_z
  replace hc_z := rn_iadd (w := t + 6) (am_cur_of (i := (88, 1, .iadd, (0, 0, 0), 0)) (by decide +kernel)) rfl hc_z
  replace hc_z := rn_iload (am_cur_of (i := (89, 2, .iload 7, (0, 0, 0), 0)) (by decide +kernel)) g7_z hc_z
  replace hc_z := rn_bipush (w := 24) (am_cur_of (i := (91, 2, .bipush 24, (0, 0, 0), 0)) (by decide +kernel)) (by decide) hc_z
  replace hc_z := rn_bipush (w := 8) (am_cur_of (i := (93, 2, .bipush 8, (0, 0, 0), 0)) (by decide +kernel)) (by decide) hc_z
  replace hc_z := rn_iload (am_cur_of (i := (95, 2, .iload 6, (0, 0, 0), 0)) (by decide +kernel)) g6_z hc_z
  replace hc_z := rn_iconst (w := 4) (am_cur_of (i := (97, 1, .iconst 4, (0, 0, 0), 0)) (by decide +kernel)) (by decide) hc_z
  replace hc_z := rn_irem (w := 2) (am_cur_of (i := (98, 1, .irem, (0, 0, 0), 0)) (by decide +kernel)) (by decide) hc_z
  obtain ⟨d79_z, hc_z⟩ := hc_z
  replace hc_z := rn_imul (w := 16) (am_cur_of (i := (99, 1, .imul, (0, 0, 0), 0)) (by decide +kernel)) (by decide) hc_z
  replace hc_z := rn_isub (w := 8) (am_cur_of (i := (100, 1, .isub, (0, 0, 0), 0)) (by decide +kernel)) (by decide) hc_z
  replace hc_z := rn_ishr (w := b >>> (8 &&& 31)) (am_cur_of (i := (101, 1, .ishr, (0, 0, 0), 0)) (by decide +kernel)) rfl hc_z
  replace hc_z := rn_sipush (w := 255) (am_cur_of (i := (102, 3, .sipush 255, (0, 0, 0), 0)) (by decide +kernel)) (by decide) hc_z
  replace hc_z := rn_iand (w := (b >>> (8 &&& 31)) &&& 255) (am_cur_of (i := (105, 1, .iand, (0, 0, 0), 0)) (by decide +kernel)) rfl hc_z
  replace hc_z := rn_iastore (N := 700) (q := (t + 6).toNatClampNeg) (am_cur_of (i := (106, 1, .iastore, (0, 0, 0), 0)) (by decide +kernel)) (by decide +kernel) rfl hc_z
  obtain ⟨p80_z, hc_z⟩ := hc_z
  replace hc_z := rn_iinc (w := 7) (am_cur_of (i := (107, 3, .iinc 6 1, (0, 0, 0), 0)) (by decide +kernel)) g6_z (by decide) hc_z
  obtain ⟨_, s81_z, s82_z, g6_z, hc_z⟩ := hc_z
  replace g0_z := s81_z 0 _ (by decide) rfl g0_z
  replace g1_z := s81_z 1 _ (by decide) rfl g1_z
  replace g2_z := s81_z 2 _ (by decide) rfl g2_z
  replace g3_z := s81_z 3 _ (by decide) rfl g3_z
  replace g4_z := s81_z 4 _ (by decide) rfl g4_z
  replace g5_z := s81_z 5 _ (by decide) rfl g5_z
  replace g7_z := s81_z 7 _ (by decide) rfl g7_z
  clear s81_z s82_z
  replace hc_z := rn_goto (am_cur_of (i := (110, 3, .goto (-87), (13, 0, 0), 0)) (by decide +kernel)) hc_z
  have ix : ((t + 6).toNatClampNeg) = t.toNatClampNeg + 6 := fd_ix 6 (by decide) t0_z t6_z
  have iv : ((b >>> (8 &&& 31)) &&& 255) = rd_fb a b c d e 6 := rd_i (s := 24 - 8 * (6 % 4)) (by decide) (by decide)
  rw [ix, iv] at hc_z
  exact ⟨_, g0_z, g1_z, g2_z, g3_z, g4_z, g5_z, g6_z, hc_z⟩
theorem fd_M7 {n : Nat} {h h' : am_H} {r : Option Value} {t a b c d e : Int32} {ls : am_L} (et : rg_v h 164 1 = t) (t0_z : 0 ≤ t.toInt) (t6_z : t.toInt ≤ 680) (g0_z : am_get ls 0 = some (.ref 164)) (g1_z : am_get ls 1 = some (.int a)) (g2_z : am_get ls 2 = some (.int b)) (g3_z : am_get ls 3 = some (.int c)) (g4_z : am_get ls 4 = some (.int d)) (g5_z : am_get ls 5 = some (.int e)) (g6_z : am_get ls 6 = some (.int 7)) (hc_z : rn n am_m149 13 ls [] h r h') : ∃ ls', am_get ls' 0 = some (.ref 164) ∧ am_get ls' 1 = some (.int a) ∧ am_get ls' 2 = some (.int b) ∧ am_get ls' 3 = some (.int c) ∧ am_get ls' 4 = some (.int d) ∧ am_get ls' 5 = some (.int e) ∧ am_get ls' 6 = some (.int 8) ∧ rn n am_m149 13 ls' [] (am_up h 165 (t.toNatClampNeg + 7) (.int (rd_fb a b c d e 7))) r h' := by
  replace hc_z := rn_iload (am_cur_of (i := (23, 2, .iload 6, (0, 0, 0), 0)) (by decide +kernel)) g6_z hc_z
  replace hc_z := rn_bipush (w := 20) (am_cur_of (i := (25, 2, .bipush 20, (0, 0, 0), 0)) (by decide +kernel)) (by decide) hc_z
  replace hc_z := rn_cmpF (am_cur_of (i := (27, 3, .if_icmp .ge 86, (58, 0, 0), 0)) (by decide +kernel)) (by decide) hc_z
  replace hc_z := rn_iload (am_cur_of (i := (30, 2, .iload 6, (0, 0, 0), 0)) (by decide +kernel)) g6_z hc_z
  replace hc_z := rn_iconst (w := 4) (am_cur_of (i := (32, 1, .iconst 4, (0, 0, 0), 0)) (by decide +kernel)) (by decide) hc_z
  replace hc_z := rn_cmpT (am_cur_of (i := (33, 3, .if_icmp .ge 7, (21, 0, 0), 0)) (by decide +kernel)) (by decide) hc_z
  replace hc_z := rn_iload (am_cur_of (i := (40, 2, .iload 6, (0, 0, 0), 0)) (by decide +kernel)) g6_z hc_z
  replace hc_z := rn_bipush (w := 8) (am_cur_of (i := (42, 2, .bipush 8, (0, 0, 0), 0)) (by decide +kernel)) (by decide) hc_z
  replace hc_z := rn_cmpF (am_cur_of (i := (44, 3, .if_icmp .ge 7, (26, 0, 0), 0)) (by decide +kernel)) (by decide) hc_z
  replace hc_z := rn_iload_n (am_cur_of (i := (47, 1, .iload_n 2, (0, 0, 0), 0)) (by decide +kernel)) g2_z hc_z
  replace hc_z := rn_goto (am_cur_of (i := (48, 3, .goto 28, (37, 0, 0), 0)) (by decide +kernel)) hc_z
  replace hc_z := rn_istore (am_cur_of (i := (76, 2, .istore 7, (0, 0, 0), 0)) (by decide +kernel)) hc_z
  obtain ⟨_, s83_z, s84_z, g7_z, hc_z⟩ := hc_z
  replace g0_z := s83_z 0 _ (by decide) rfl g0_z
  replace g1_z := s83_z 1 _ (by decide) rfl g1_z
  replace g2_z := s83_z 2 _ (by decide) rfl g2_z
  replace g3_z := s83_z 3 _ (by decide) rfl g3_z
  replace g4_z := s83_z 4 _ (by decide) rfl g4_z
  replace g5_z := s83_z 5 _ (by decide) rfl g5_z
  replace g6_z := s83_z 6 _ (by decide) rfl g6_z
  clear s83_z s84_z
  replace hc_z := rn_aload_n (am_cur_of (i := (78, 1, .aload_n 0, (0, 0, 0), 0)) (by decide +kernel)) g0_z hc_z
  replace hc_z := rn_getR (x := 165) (am_cur_of (i := (79, 3, .getfield 7, (12, 0, 1384), 0)) (by decide +kernel)) (by decide +kernel) hc_z
  replace hc_z := rn_aload_n (am_cur_of (i := (82, 1, .aload_n 0, (0, 0, 0), 0)) (by decide +kernel)) g0_z hc_z
  replace hc_z := rn_getI (v := t) (am_cur_of (i := (83, 3, .getfield 142, (12, 1, 1385), 0)) (by decide +kernel)) (by decide +kernel) et hc_z
  replace hc_z := rn_iload (am_cur_of (i := (86, 2, .iload 6, (0, 0, 0), 0)) (by decide +kernel)) g6_z hc_z
  replace hc_z := rn_iadd (w := t + 7) (am_cur_of (i := (88, 1, .iadd, (0, 0, 0), 0)) (by decide +kernel)) rfl hc_z
  replace hc_z := rn_iload (am_cur_of (i := (89, 2, .iload 7, (0, 0, 0), 0)) (by decide +kernel)) g7_z hc_z
  replace hc_z := rn_bipush (w := 24) (am_cur_of (i := (91, 2, .bipush 24, (0, 0, 0), 0)) (by decide +kernel)) (by decide) hc_z
  replace hc_z := rn_bipush (w := 8) (am_cur_of (i := (93, 2, .bipush 8, (0, 0, 0), 0)) (by decide +kernel)) (by decide) hc_z
  replace hc_z := rn_iload (am_cur_of (i := (95, 2, .iload 6, (0, 0, 0), 0)) (by decide +kernel)) g6_z hc_z
  replace hc_z := rn_iconst (w := 4) (am_cur_of (i := (97, 1, .iconst 4, (0, 0, 0), 0)) (by decide +kernel)) (by decide) hc_z
  replace hc_z := rn_irem (w := 3) (am_cur_of (i := (98, 1, .irem, (0, 0, 0), 0)) (by decide +kernel)) (by decide) hc_z
  obtain ⟨d85_z, hc_z⟩ := hc_z
  replace hc_z := rn_imul (w := 24) (am_cur_of (i := (99, 1, .imul, (0, 0, 0), 0)) (by decide +kernel)) (by decide) hc_z
  replace hc_z := rn_isub (w := 0) (am_cur_of (i := (100, 1, .isub, (0, 0, 0), 0)) (by decide +kernel)) (by decide) hc_z
  replace hc_z := rn_ishr (w := b >>> (0 &&& 31)) (am_cur_of (i := (101, 1, .ishr, (0, 0, 0), 0)) (by decide +kernel)) rfl hc_z
  replace hc_z := rn_sipush (w := 255) (am_cur_of (i := (102, 3, .sipush 255, (0, 0, 0), 0)) (by decide +kernel)) (by decide) hc_z
  replace hc_z := rn_iand (w := (b >>> (0 &&& 31)) &&& 255) (am_cur_of (i := (105, 1, .iand, (0, 0, 0), 0)) (by decide +kernel)) rfl hc_z
  replace hc_z := rn_iastore (N := 700) (q := (t + 7).toNatClampNeg) (am_cur_of (i := (106, 1, .iastore, (0, 0, 0), 0)) (by decide +kernel)) (by decide +kernel) rfl hc_z
  obtain ⟨p86_z, hc_z⟩ := hc_z
  replace hc_z := rn_iinc (w := 8) (am_cur_of (i := (107, 3, .iinc 6 1, (0, 0, 0), 0)) (by decide +kernel)) g6_z (by decide) hc_z
  obtain ⟨_, s87_z, s88_z, g6_z, hc_z⟩ := hc_z
  replace g0_z := s87_z 0 _ (by decide) rfl g0_z
  replace g1_z := s87_z 1 _ (by decide) rfl g1_z
  replace g2_z := s87_z 2 _ (by decide) rfl g2_z
  replace g3_z := s87_z 3 _ (by decide) rfl g3_z
  replace g4_z := s87_z 4 _ (by decide) rfl g4_z
  replace g5_z := s87_z 5 _ (by decide) rfl g5_z
  replace g7_z := s87_z 7 _ (by decide) rfl g7_z
  clear s87_z s88_z
  replace hc_z := rn_goto (am_cur_of (i := (110, 3, .goto (-87), (13, 0, 0), 0)) (by decide +kernel)) hc_z
  have ix : ((t + 7).toNatClampNeg) = t.toNatClampNeg + 7 := fd_ix 7 (by decide) t0_z t6_z
  have iv : ((b >>> (0 &&& 31)) &&& 255) = rd_fb a b c d e 7 := rd_i (s := 24 - 8 * (7 % 4)) (by decide) (by decide)
  rw [ix, iv] at hc_z
  exact ⟨_, g0_z, g1_z, g2_z, g3_z, g4_z, g5_z, g6_z, hc_z⟩
theorem fd_M8 {n : Nat} {h h' : am_H} {r : Option Value} {t a b c d e : Int32} {ls : am_L} (et : rg_v h 164 1 = t) (t0_z : 0 ≤ t.toInt) (t6_z : t.toInt ≤ 680) (g0_z : am_get ls 0 = some (.ref 164)) (g1_z : am_get ls 1 = some (.int a)) (g2_z : am_get ls 2 = some (.int b)) (g3_z : am_get ls 3 = some (.int c)) (g4_z : am_get ls 4 = some (.int d)) (g5_z : am_get ls 5 = some (.int e)) (g6_z : am_get ls 6 = some (.int 8)) (hc_z : rn n am_m149 13 ls [] h r h') : ∃ ls', am_get ls' 0 = some (.ref 164) ∧ am_get ls' 1 = some (.int a) ∧ am_get ls' 2 = some (.int b) ∧ am_get ls' 3 = some (.int c) ∧ am_get ls' 4 = some (.int d) ∧ am_get ls' 5 = some (.int e) ∧ am_get ls' 6 = some (.int 9) ∧ rn n am_m149 13 ls' [] (am_up h 165 (t.toNatClampNeg + 8) (.int (rd_fb a b c d e 8))) r h' := by
  replace hc_z := rn_iload (am_cur_of (i := (23, 2, .iload 6, (0, 0, 0), 0)) (by decide +kernel)) g6_z hc_z
  replace hc_z := rn_bipush (w := 20) (am_cur_of (i := (25, 2, .bipush 20, (0, 0, 0), 0)) (by decide +kernel)) (by decide) hc_z
  replace hc_z := rn_cmpF (am_cur_of (i := (27, 3, .if_icmp .ge 86, (58, 0, 0), 0)) (by decide +kernel)) (by decide) hc_z
  replace hc_z := rn_iload (am_cur_of (i := (30, 2, .iload 6, (0, 0, 0), 0)) (by decide +kernel)) g6_z hc_z
  replace hc_z := rn_iconst (w := 4) (am_cur_of (i := (32, 1, .iconst 4, (0, 0, 0), 0)) (by decide +kernel)) (by decide) hc_z
  replace hc_z := rn_cmpT (am_cur_of (i := (33, 3, .if_icmp .ge 7, (21, 0, 0), 0)) (by decide +kernel)) (by decide) hc_z
  replace hc_z := rn_iload (am_cur_of (i := (40, 2, .iload 6, (0, 0, 0), 0)) (by decide +kernel)) g6_z hc_z
  replace hc_z := rn_bipush (w := 8) (am_cur_of (i := (42, 2, .bipush 8, (0, 0, 0), 0)) (by decide +kernel)) (by decide) hc_z
  replace hc_z := rn_cmpT (am_cur_of (i := (44, 3, .if_icmp .ge 7, (26, 0, 0), 0)) (by decide +kernel)) (by decide) hc_z
  replace hc_z := rn_iload (am_cur_of (i := (51, 2, .iload 6, (0, 0, 0), 0)) (by decide +kernel)) g6_z hc_z
  replace hc_z := rn_bipush (w := 12) (am_cur_of (i := (53, 2, .bipush 12, (0, 0, 0), 0)) (by decide +kernel)) (by decide) hc_z
  replace hc_z := rn_cmpF (am_cur_of (i := (55, 3, .if_icmp .ge 7, (31, 0, 0), 0)) (by decide +kernel)) (by decide) hc_z
  replace hc_z := rn_iload_n (am_cur_of (i := (58, 1, .iload_n 3, (0, 0, 0), 0)) (by decide +kernel)) g3_z hc_z
  replace hc_z := rn_goto (am_cur_of (i := (59, 3, .goto 17, (37, 0, 0), 0)) (by decide +kernel)) hc_z
  replace hc_z := rn_istore (am_cur_of (i := (76, 2, .istore 7, (0, 0, 0), 0)) (by decide +kernel)) hc_z
  obtain ⟨_, s89_z, s90_z, g7_z, hc_z⟩ := hc_z
  replace g0_z := s89_z 0 _ (by decide) rfl g0_z
  replace g1_z := s89_z 1 _ (by decide) rfl g1_z
  replace g2_z := s89_z 2 _ (by decide) rfl g2_z
  replace g3_z := s89_z 3 _ (by decide) rfl g3_z
  replace g4_z := s89_z 4 _ (by decide) rfl g4_z
  replace g5_z := s89_z 5 _ (by decide) rfl g5_z
  replace g6_z := s89_z 6 _ (by decide) rfl g6_z
  clear s89_z s90_z
  replace hc_z := rn_aload_n (am_cur_of (i := (78, 1, .aload_n 0, (0, 0, 0), 0)) (by decide +kernel)) g0_z hc_z
  replace hc_z := rn_getR (x := 165) (am_cur_of (i := (79, 3, .getfield 7, (12, 0, 1384), 0)) (by decide +kernel)) (by decide +kernel) hc_z
  replace hc_z := rn_aload_n (am_cur_of (i := (82, 1, .aload_n 0, (0, 0, 0), 0)) (by decide +kernel)) g0_z hc_z
  replace hc_z := rn_getI (v := t) (am_cur_of (i := (83, 3, .getfield 142, (12, 1, 1385), 0)) (by decide +kernel)) (by decide +kernel) et hc_z
  replace hc_z := rn_iload (am_cur_of (i := (86, 2, .iload 6, (0, 0, 0), 0)) (by decide +kernel)) g6_z hc_z
  replace hc_z := rn_iadd (w := t + 8) (am_cur_of (i := (88, 1, .iadd, (0, 0, 0), 0)) (by decide +kernel)) rfl hc_z
  replace hc_z := rn_iload (am_cur_of (i := (89, 2, .iload 7, (0, 0, 0), 0)) (by decide +kernel)) g7_z hc_z
  replace hc_z := rn_bipush (w := 24) (am_cur_of (i := (91, 2, .bipush 24, (0, 0, 0), 0)) (by decide +kernel)) (by decide) hc_z
  replace hc_z := rn_bipush (w := 8) (am_cur_of (i := (93, 2, .bipush 8, (0, 0, 0), 0)) (by decide +kernel)) (by decide) hc_z
  replace hc_z := rn_iload (am_cur_of (i := (95, 2, .iload 6, (0, 0, 0), 0)) (by decide +kernel)) g6_z hc_z
  replace hc_z := rn_iconst (w := 4) (am_cur_of (i := (97, 1, .iconst 4, (0, 0, 0), 0)) (by decide +kernel)) (by decide) hc_z
  replace hc_z := rn_irem (w := 0) (am_cur_of (i := (98, 1, .irem, (0, 0, 0), 0)) (by decide +kernel)) (by decide) hc_z
  obtain ⟨d91_z, hc_z⟩ := hc_z
  replace hc_z := rn_imul (w := 0) (am_cur_of (i := (99, 1, .imul, (0, 0, 0), 0)) (by decide +kernel)) (by decide) hc_z
  replace hc_z := rn_isub (w := 24) (am_cur_of (i := (100, 1, .isub, (0, 0, 0), 0)) (by decide +kernel)) (by decide) hc_z
  replace hc_z := rn_ishr (w := c >>> (24 &&& 31)) (am_cur_of (i := (101, 1, .ishr, (0, 0, 0), 0)) (by decide +kernel)) rfl hc_z
  replace hc_z := rn_sipush (w := 255) (am_cur_of (i := (102, 3, .sipush 255, (0, 0, 0), 0)) (by decide +kernel)) (by decide) hc_z
  replace hc_z := rn_iand (w := (c >>> (24 &&& 31)) &&& 255) (am_cur_of (i := (105, 1, .iand, (0, 0, 0), 0)) (by decide +kernel)) rfl hc_z
  replace hc_z := rn_iastore (N := 700) (q := (t + 8).toNatClampNeg) (am_cur_of (i := (106, 1, .iastore, (0, 0, 0), 0)) (by decide +kernel)) (by decide +kernel) rfl hc_z
  obtain ⟨p92_z, hc_z⟩ := hc_z
  replace hc_z := rn_iinc (w := 9) (am_cur_of (i := (107, 3, .iinc 6 1, (0, 0, 0), 0)) (by decide +kernel)) g6_z (by decide) hc_z
  obtain ⟨_, s93_z, s94_z, g6_z, hc_z⟩ := hc_z
  replace g0_z := s93_z 0 _ (by decide) rfl g0_z
  replace g1_z := s93_z 1 _ (by decide) rfl g1_z
  replace g2_z := s93_z 2 _ (by decide) rfl g2_z
  replace g3_z := s93_z 3 _ (by decide) rfl g3_z
  replace g4_z := s93_z 4 _ (by decide) rfl g4_z
  replace g5_z := s93_z 5 _ (by decide) rfl g5_z
  replace g7_z := s93_z 7 _ (by decide) rfl g7_z
  clear s93_z s94_z
  replace hc_z := rn_goto (am_cur_of (i := (110, 3, .goto (-87), (13, 0, 0), 0)) (by decide +kernel)) hc_z
  have ix : ((t + 8).toNatClampNeg) = t.toNatClampNeg + 8 := fd_ix 8 (by decide) t0_z t6_z
  have iv : ((c >>> (24 &&& 31)) &&& 255) = rd_fb a b c d e 8 := rd_i (s := 24 - 8 * (8 % 4)) (by decide) (by decide)
  rw [ix, iv] at hc_z
  exact ⟨_, g0_z, g1_z, g2_z, g3_z, g4_z, g5_z, g6_z, hc_z⟩
theorem fd_M9 {n : Nat} {h h' : am_H} {r : Option Value} {t a b c d e : Int32} {ls : am_L} (et : rg_v h 164 1 = t) (t0_z : 0 ≤ t.toInt) (t6_z : t.toInt ≤ 680) (g0_z : am_get ls 0 = some (.ref 164)) (g1_z : am_get ls 1 = some (.int a)) (g2_z : am_get ls 2 = some (.int b)) (g3_z : am_get ls 3 = some (.int c)) (g4_z : am_get ls 4 = some (.int d)) (g5_z : am_get ls 5 = some (.int e)) (g6_z : am_get ls 6 = some (.int 9)) (hc_z : rn n am_m149 13 ls [] h r h') : ∃ ls', am_get ls' 0 = some (.ref 164) ∧ am_get ls' 1 = some (.int a) ∧ am_get ls' 2 = some (.int b) ∧ am_get ls' 3 = some (.int c) ∧ am_get ls' 4 = some (.int d) ∧ am_get ls' 5 = some (.int e) ∧ am_get ls' 6 = some (.int 10) ∧ rn n am_m149 13 ls' [] (am_up h 165 (t.toNatClampNeg + 9) (.int (rd_fb a b c d e 9))) r h' := by
  replace hc_z := rn_iload (am_cur_of (i := (23, 2, .iload 6, (0, 0, 0), 0)) (by decide +kernel)) g6_z hc_z
  replace hc_z := rn_bipush (w := 20) (am_cur_of (i := (25, 2, .bipush 20, (0, 0, 0), 0)) (by decide +kernel)) (by decide) hc_z
  replace hc_z := rn_cmpF (am_cur_of (i := (27, 3, .if_icmp .ge 86, (58, 0, 0), 0)) (by decide +kernel)) (by decide) hc_z
  replace hc_z := rn_iload (am_cur_of (i := (30, 2, .iload 6, (0, 0, 0), 0)) (by decide +kernel)) g6_z hc_z
  replace hc_z := rn_iconst (w := 4) (am_cur_of (i := (32, 1, .iconst 4, (0, 0, 0), 0)) (by decide +kernel)) (by decide) hc_z
  replace hc_z := rn_cmpT (am_cur_of (i := (33, 3, .if_icmp .ge 7, (21, 0, 0), 0)) (by decide +kernel)) (by decide) hc_z
  replace hc_z := rn_iload (am_cur_of (i := (40, 2, .iload 6, (0, 0, 0), 0)) (by decide +kernel)) g6_z hc_z
  replace hc_z := rn_bipush (w := 8) (am_cur_of (i := (42, 2, .bipush 8, (0, 0, 0), 0)) (by decide +kernel)) (by decide) hc_z
  replace hc_z := rn_cmpT (am_cur_of (i := (44, 3, .if_icmp .ge 7, (26, 0, 0), 0)) (by decide +kernel)) (by decide) hc_z
  replace hc_z := rn_iload (am_cur_of (i := (51, 2, .iload 6, (0, 0, 0), 0)) (by decide +kernel)) g6_z hc_z
  replace hc_z := rn_bipush (w := 12) (am_cur_of (i := (53, 2, .bipush 12, (0, 0, 0), 0)) (by decide +kernel)) (by decide) hc_z
  replace hc_z := rn_cmpF (am_cur_of (i := (55, 3, .if_icmp .ge 7, (31, 0, 0), 0)) (by decide +kernel)) (by decide) hc_z
  replace hc_z := rn_iload_n (am_cur_of (i := (58, 1, .iload_n 3, (0, 0, 0), 0)) (by decide +kernel)) g3_z hc_z
  replace hc_z := rn_goto (am_cur_of (i := (59, 3, .goto 17, (37, 0, 0), 0)) (by decide +kernel)) hc_z
  replace hc_z := rn_istore (am_cur_of (i := (76, 2, .istore 7, (0, 0, 0), 0)) (by decide +kernel)) hc_z
  obtain ⟨_, s95_z, s96_z, g7_z, hc_z⟩ := hc_z
  replace g0_z := s95_z 0 _ (by decide) rfl g0_z
  replace g1_z := s95_z 1 _ (by decide) rfl g1_z
  replace g2_z := s95_z 2 _ (by decide) rfl g2_z
  replace g3_z := s95_z 3 _ (by decide) rfl g3_z
  replace g4_z := s95_z 4 _ (by decide) rfl g4_z
  replace g5_z := s95_z 5 _ (by decide) rfl g5_z
  replace g6_z := s95_z 6 _ (by decide) rfl g6_z
  clear s95_z s96_z
  replace hc_z := rn_aload_n (am_cur_of (i := (78, 1, .aload_n 0, (0, 0, 0), 0)) (by decide +kernel)) g0_z hc_z
  replace hc_z := rn_getR (x := 165) (am_cur_of (i := (79, 3, .getfield 7, (12, 0, 1384), 0)) (by decide +kernel)) (by decide +kernel) hc_z
  replace hc_z := rn_aload_n (am_cur_of (i := (82, 1, .aload_n 0, (0, 0, 0), 0)) (by decide +kernel)) g0_z hc_z
  replace hc_z := rn_getI (v := t) (am_cur_of (i := (83, 3, .getfield 142, (12, 1, 1385), 0)) (by decide +kernel)) (by decide +kernel) et hc_z
  replace hc_z := rn_iload (am_cur_of (i := (86, 2, .iload 6, (0, 0, 0), 0)) (by decide +kernel)) g6_z hc_z
  replace hc_z := rn_iadd (w := t + 9) (am_cur_of (i := (88, 1, .iadd, (0, 0, 0), 0)) (by decide +kernel)) rfl hc_z
  replace hc_z := rn_iload (am_cur_of (i := (89, 2, .iload 7, (0, 0, 0), 0)) (by decide +kernel)) g7_z hc_z
  replace hc_z := rn_bipush (w := 24) (am_cur_of (i := (91, 2, .bipush 24, (0, 0, 0), 0)) (by decide +kernel)) (by decide) hc_z
  replace hc_z := rn_bipush (w := 8) (am_cur_of (i := (93, 2, .bipush 8, (0, 0, 0), 0)) (by decide +kernel)) (by decide) hc_z
  replace hc_z := rn_iload (am_cur_of (i := (95, 2, .iload 6, (0, 0, 0), 0)) (by decide +kernel)) g6_z hc_z
  replace hc_z := rn_iconst (w := 4) (am_cur_of (i := (97, 1, .iconst 4, (0, 0, 0), 0)) (by decide +kernel)) (by decide) hc_z
  replace hc_z := rn_irem (w := 1) (am_cur_of (i := (98, 1, .irem, (0, 0, 0), 0)) (by decide +kernel)) (by decide) hc_z
  obtain ⟨d97_z, hc_z⟩ := hc_z
  replace hc_z := rn_imul (w := 8) (am_cur_of (i := (99, 1, .imul, (0, 0, 0), 0)) (by decide +kernel)) (by decide) hc_z
  replace hc_z := rn_isub (w := 16) (am_cur_of (i := (100, 1, .isub, (0, 0, 0), 0)) (by decide +kernel)) (by decide) hc_z
  replace hc_z := rn_ishr (w := c >>> (16 &&& 31)) (am_cur_of (i := (101, 1, .ishr, (0, 0, 0), 0)) (by decide +kernel)) rfl hc_z
  replace hc_z := rn_sipush (w := 255) (am_cur_of (i := (102, 3, .sipush 255, (0, 0, 0), 0)) (by decide +kernel)) (by decide) hc_z
  replace hc_z := rn_iand (w := (c >>> (16 &&& 31)) &&& 255) (am_cur_of (i := (105, 1, .iand, (0, 0, 0), 0)) (by decide +kernel)) rfl hc_z
  replace hc_z := rn_iastore (N := 700) (q := (t + 9).toNatClampNeg) (am_cur_of (i := (106, 1, .iastore, (0, 0, 0), 0)) (by decide +kernel)) (by decide +kernel) rfl hc_z
  obtain ⟨p98_z, hc_z⟩ := hc_z
  replace hc_z := rn_iinc (w := 10) (am_cur_of (i := (107, 3, .iinc 6 1, (0, 0, 0), 0)) (by decide +kernel)) g6_z (by decide) hc_z
  obtain ⟨_, s99_z, s100_z, g6_z, hc_z⟩ := hc_z
  replace g0_z := s99_z 0 _ (by decide) rfl g0_z
  replace g1_z := s99_z 1 _ (by decide) rfl g1_z
  replace g2_z := s99_z 2 _ (by decide) rfl g2_z
  replace g3_z := s99_z 3 _ (by decide) rfl g3_z
  replace g4_z := s99_z 4 _ (by decide) rfl g4_z
  replace g5_z := s99_z 5 _ (by decide) rfl g5_z
  replace g7_z := s99_z 7 _ (by decide) rfl g7_z
  clear s99_z s100_z
  replace hc_z := rn_goto (am_cur_of (i := (110, 3, .goto (-87), (13, 0, 0), 0)) (by decide +kernel)) hc_z
  have ix : ((t + 9).toNatClampNeg) = t.toNatClampNeg + 9 := fd_ix 9 (by decide) t0_z t6_z
  have iv : ((c >>> (16 &&& 31)) &&& 255) = rd_fb a b c d e 9 := rd_i (s := 24 - 8 * (9 % 4)) (by decide) (by decide)
  rw [ix, iv] at hc_z
  exact ⟨_, g0_z, g1_z, g2_z, g3_z, g4_z, g5_z, g6_z, hc_z⟩
theorem fd_M10 {n : Nat} {h h' : am_H} {r : Option Value} {t a b c d e : Int32} {ls : am_L} (et : rg_v h 164 1 = t) (t0_z : 0 ≤ t.toInt) (t6_z : t.toInt ≤ 680) (g0_z : am_get ls 0 = some (.ref 164)) (g1_z : am_get ls 1 = some (.int a)) (g2_z : am_get ls 2 = some (.int b)) (g3_z : am_get ls 3 = some (.int c)) (g4_z : am_get ls 4 = some (.int d)) (g5_z : am_get ls 5 = some (.int e)) (g6_z : am_get ls 6 = some (.int 10)) (hc_z : rn n am_m149 13 ls [] h r h') : ∃ ls', am_get ls' 0 = some (.ref 164) ∧ am_get ls' 1 = some (.int a) ∧ am_get ls' 2 = some (.int b) ∧ am_get ls' 3 = some (.int c) ∧ am_get ls' 4 = some (.int d) ∧ am_get ls' 5 = some (.int e) ∧ am_get ls' 6 = some (.int 11) ∧ rn n am_m149 13 ls' [] (am_up h 165 (t.toNatClampNeg + 10) (.int (rd_fb a b c d e 10))) r h' := by
  replace hc_z := rn_iload (am_cur_of (i := (23, 2, .iload 6, (0, 0, 0), 0)) (by decide +kernel)) g6_z hc_z
  replace hc_z := rn_bipush (w := 20) (am_cur_of (i := (25, 2, .bipush 20, (0, 0, 0), 0)) (by decide +kernel)) (by decide) hc_z
  replace hc_z := rn_cmpF (am_cur_of (i := (27, 3, .if_icmp .ge 86, (58, 0, 0), 0)) (by decide +kernel)) (by decide) hc_z
  replace hc_z := rn_iload (am_cur_of (i := (30, 2, .iload 6, (0, 0, 0), 0)) (by decide +kernel)) g6_z hc_z
  replace hc_z := rn_iconst (w := 4) (am_cur_of (i := (32, 1, .iconst 4, (0, 0, 0), 0)) (by decide +kernel)) (by decide) hc_z
  replace hc_z := rn_cmpT (am_cur_of (i := (33, 3, .if_icmp .ge 7, (21, 0, 0), 0)) (by decide +kernel)) (by decide) hc_z
  replace hc_z := rn_iload (am_cur_of (i := (40, 2, .iload 6, (0, 0, 0), 0)) (by decide +kernel)) g6_z hc_z
  replace hc_z := rn_bipush (w := 8) (am_cur_of (i := (42, 2, .bipush 8, (0, 0, 0), 0)) (by decide +kernel)) (by decide) hc_z
  replace hc_z := rn_cmpT (am_cur_of (i := (44, 3, .if_icmp .ge 7, (26, 0, 0), 0)) (by decide +kernel)) (by decide) hc_z
  replace hc_z := rn_iload (am_cur_of (i := (51, 2, .iload 6, (0, 0, 0), 0)) (by decide +kernel)) g6_z hc_z
  replace hc_z := rn_bipush (w := 12) (am_cur_of (i := (53, 2, .bipush 12, (0, 0, 0), 0)) (by decide +kernel)) (by decide) hc_z
  replace hc_z := rn_cmpF (am_cur_of (i := (55, 3, .if_icmp .ge 7, (31, 0, 0), 0)) (by decide +kernel)) (by decide) hc_z
  replace hc_z := rn_iload_n (am_cur_of (i := (58, 1, .iload_n 3, (0, 0, 0), 0)) (by decide +kernel)) g3_z hc_z
  replace hc_z := rn_goto (am_cur_of (i := (59, 3, .goto 17, (37, 0, 0), 0)) (by decide +kernel)) hc_z
  replace hc_z := rn_istore (am_cur_of (i := (76, 2, .istore 7, (0, 0, 0), 0)) (by decide +kernel)) hc_z
  obtain ⟨_, s101_z, s102_z, g7_z, hc_z⟩ := hc_z
  replace g0_z := s101_z 0 _ (by decide) rfl g0_z
  replace g1_z := s101_z 1 _ (by decide) rfl g1_z
  replace g2_z := s101_z 2 _ (by decide) rfl g2_z
  replace g3_z := s101_z 3 _ (by decide) rfl g3_z
  replace g4_z := s101_z 4 _ (by decide) rfl g4_z
  replace g5_z := s101_z 5 _ (by decide) rfl g5_z
  replace g6_z := s101_z 6 _ (by decide) rfl g6_z
  clear s101_z s102_z
  replace hc_z := rn_aload_n (am_cur_of (i := (78, 1, .aload_n 0, (0, 0, 0), 0)) (by decide +kernel)) g0_z hc_z
  replace hc_z := rn_getR (x := 165) (am_cur_of (i := (79, 3, .getfield 7, (12, 0, 1384), 0)) (by decide +kernel)) (by decide +kernel) hc_z
  replace hc_z := rn_aload_n (am_cur_of (i := (82, 1, .aload_n 0, (0, 0, 0), 0)) (by decide +kernel)) g0_z hc_z
  replace hc_z := rn_getI (v := t) (am_cur_of (i := (83, 3, .getfield 142, (12, 1, 1385), 0)) (by decide +kernel)) (by decide +kernel) et hc_z
  replace hc_z := rn_iload (am_cur_of (i := (86, 2, .iload 6, (0, 0, 0), 0)) (by decide +kernel)) g6_z hc_z
  replace hc_z := rn_iadd (w := t + 10) (am_cur_of (i := (88, 1, .iadd, (0, 0, 0), 0)) (by decide +kernel)) rfl hc_z
  replace hc_z := rn_iload (am_cur_of (i := (89, 2, .iload 7, (0, 0, 0), 0)) (by decide +kernel)) g7_z hc_z
  replace hc_z := rn_bipush (w := 24) (am_cur_of (i := (91, 2, .bipush 24, (0, 0, 0), 0)) (by decide +kernel)) (by decide) hc_z
  replace hc_z := rn_bipush (w := 8) (am_cur_of (i := (93, 2, .bipush 8, (0, 0, 0), 0)) (by decide +kernel)) (by decide) hc_z
  replace hc_z := rn_iload (am_cur_of (i := (95, 2, .iload 6, (0, 0, 0), 0)) (by decide +kernel)) g6_z hc_z
  replace hc_z := rn_iconst (w := 4) (am_cur_of (i := (97, 1, .iconst 4, (0, 0, 0), 0)) (by decide +kernel)) (by decide) hc_z
  replace hc_z := rn_irem (w := 2) (am_cur_of (i := (98, 1, .irem, (0, 0, 0), 0)) (by decide +kernel)) (by decide) hc_z
  obtain ⟨d103_z, hc_z⟩ := hc_z
  replace hc_z := rn_imul (w := 16) (am_cur_of (i := (99, 1, .imul, (0, 0, 0), 0)) (by decide +kernel)) (by decide) hc_z
  replace hc_z := rn_isub (w := 8) (am_cur_of (i := (100, 1, .isub, (0, 0, 0), 0)) (by decide +kernel)) (by decide) hc_z
  replace hc_z := rn_ishr (w := c >>> (8 &&& 31)) (am_cur_of (i := (101, 1, .ishr, (0, 0, 0), 0)) (by decide +kernel)) rfl hc_z
  replace hc_z := rn_sipush (w := 255) (am_cur_of (i := (102, 3, .sipush 255, (0, 0, 0), 0)) (by decide +kernel)) (by decide) hc_z
  replace hc_z := rn_iand (w := (c >>> (8 &&& 31)) &&& 255) (am_cur_of (i := (105, 1, .iand, (0, 0, 0), 0)) (by decide +kernel)) rfl hc_z
  replace hc_z := rn_iastore (N := 700) (q := (t + 10).toNatClampNeg) (am_cur_of (i := (106, 1, .iastore, (0, 0, 0), 0)) (by decide +kernel)) (by decide +kernel) rfl hc_z
  obtain ⟨p104_z, hc_z⟩ := hc_z
  replace hc_z := rn_iinc (w := 11) (am_cur_of (i := (107, 3, .iinc 6 1, (0, 0, 0), 0)) (by decide +kernel)) g6_z (by decide) hc_z
  obtain ⟨_, s105_z, s106_z, g6_z, hc_z⟩ := hc_z
  replace g0_z := s105_z 0 _ (by decide) rfl g0_z
  replace g1_z := s105_z 1 _ (by decide) rfl g1_z
  replace g2_z := s105_z 2 _ (by decide) rfl g2_z
  replace g3_z := s105_z 3 _ (by decide) rfl g3_z
  replace g4_z := s105_z 4 _ (by decide) rfl g4_z
  replace g5_z := s105_z 5 _ (by decide) rfl g5_z
  replace g7_z := s105_z 7 _ (by decide) rfl g7_z
  clear s105_z s106_z
  replace hc_z := rn_goto (am_cur_of (i := (110, 3, .goto (-87), (13, 0, 0), 0)) (by decide +kernel)) hc_z
  have ix : ((t + 10).toNatClampNeg) = t.toNatClampNeg + 10 := fd_ix 10 (by decide) t0_z t6_z
  have iv : ((c >>> (8 &&& 31)) &&& 255) = rd_fb a b c d e 10 := rd_i (s := 24 - 8 * (10 % 4)) (by decide) (by decide)
  rw [ix, iv] at hc_z
  exact ⟨_, g0_z, g1_z, g2_z, g3_z, g4_z, g5_z, g6_z, hc_z⟩
theorem fd_M11 {n : Nat} {h h' : am_H} {r : Option Value} {t a b c d e : Int32} {ls : am_L} (et : rg_v h 164 1 = t) (t0_z : 0 ≤ t.toInt) (t6_z : t.toInt ≤ 680) (g0_z : am_get ls 0 = some (.ref 164)) (g1_z : am_get ls 1 = some (.int a)) (g2_z : am_get ls 2 = some (.int b)) (g3_z : am_get ls 3 = some (.int c)) (g4_z : am_get ls 4 = some (.int d)) (g5_z : am_get ls 5 = some (.int e)) (g6_z : am_get ls 6 = some (.int 11)) (hc_z : rn n am_m149 13 ls [] h r h') : ∃ ls', am_get ls' 0 = some (.ref 164) ∧ am_get ls' 1 = some (.int a) ∧ am_get ls' 2 = some (.int b) ∧ am_get ls' 3 = some (.int c) ∧ am_get ls' 4 = some (.int d) ∧ am_get ls' 5 = some (.int e) ∧ am_get ls' 6 = some (.int 12) ∧ rn n am_m149 13 ls' [] (am_up h 165 (t.toNatClampNeg + 11) (.int (rd_fb a b c d e 11))) r h' := by
  replace hc_z := rn_iload (am_cur_of (i := (23, 2, .iload 6, (0, 0, 0), 0)) (by decide +kernel)) g6_z hc_z
  replace hc_z := rn_bipush (w := 20) (am_cur_of (i := (25, 2, .bipush 20, (0, 0, 0), 0)) (by decide +kernel)) (by decide) hc_z
  replace hc_z := rn_cmpF (am_cur_of (i := (27, 3, .if_icmp .ge 86, (58, 0, 0), 0)) (by decide +kernel)) (by decide) hc_z
  replace hc_z := rn_iload (am_cur_of (i := (30, 2, .iload 6, (0, 0, 0), 0)) (by decide +kernel)) g6_z hc_z
  replace hc_z := rn_iconst (w := 4) (am_cur_of (i := (32, 1, .iconst 4, (0, 0, 0), 0)) (by decide +kernel)) (by decide) hc_z
  replace hc_z := rn_cmpT (am_cur_of (i := (33, 3, .if_icmp .ge 7, (21, 0, 0), 0)) (by decide +kernel)) (by decide) hc_z
  replace hc_z := rn_iload (am_cur_of (i := (40, 2, .iload 6, (0, 0, 0), 0)) (by decide +kernel)) g6_z hc_z
  replace hc_z := rn_bipush (w := 8) (am_cur_of (i := (42, 2, .bipush 8, (0, 0, 0), 0)) (by decide +kernel)) (by decide) hc_z
  replace hc_z := rn_cmpT (am_cur_of (i := (44, 3, .if_icmp .ge 7, (26, 0, 0), 0)) (by decide +kernel)) (by decide) hc_z
  replace hc_z := rn_iload (am_cur_of (i := (51, 2, .iload 6, (0, 0, 0), 0)) (by decide +kernel)) g6_z hc_z
  replace hc_z := rn_bipush (w := 12) (am_cur_of (i := (53, 2, .bipush 12, (0, 0, 0), 0)) (by decide +kernel)) (by decide) hc_z
  replace hc_z := rn_cmpF (am_cur_of (i := (55, 3, .if_icmp .ge 7, (31, 0, 0), 0)) (by decide +kernel)) (by decide) hc_z
  replace hc_z := rn_iload_n (am_cur_of (i := (58, 1, .iload_n 3, (0, 0, 0), 0)) (by decide +kernel)) g3_z hc_z
  replace hc_z := rn_goto (am_cur_of (i := (59, 3, .goto 17, (37, 0, 0), 0)) (by decide +kernel)) hc_z
  replace hc_z := rn_istore (am_cur_of (i := (76, 2, .istore 7, (0, 0, 0), 0)) (by decide +kernel)) hc_z
  obtain ⟨_, s107_z, s108_z, g7_z, hc_z⟩ := hc_z
  replace g0_z := s107_z 0 _ (by decide) rfl g0_z
  replace g1_z := s107_z 1 _ (by decide) rfl g1_z
  replace g2_z := s107_z 2 _ (by decide) rfl g2_z
  replace g3_z := s107_z 3 _ (by decide) rfl g3_z
  replace g4_z := s107_z 4 _ (by decide) rfl g4_z
  replace g5_z := s107_z 5 _ (by decide) rfl g5_z
  replace g6_z := s107_z 6 _ (by decide) rfl g6_z
  clear s107_z s108_z
  replace hc_z := rn_aload_n (am_cur_of (i := (78, 1, .aload_n 0, (0, 0, 0), 0)) (by decide +kernel)) g0_z hc_z
  replace hc_z := rn_getR (x := 165) (am_cur_of (i := (79, 3, .getfield 7, (12, 0, 1384), 0)) (by decide +kernel)) (by decide +kernel) hc_z
  replace hc_z := rn_aload_n (am_cur_of (i := (82, 1, .aload_n 0, (0, 0, 0), 0)) (by decide +kernel)) g0_z hc_z
  replace hc_z := rn_getI (v := t) (am_cur_of (i := (83, 3, .getfield 142, (12, 1, 1385), 0)) (by decide +kernel)) (by decide +kernel) et hc_z
  replace hc_z := rn_iload (am_cur_of (i := (86, 2, .iload 6, (0, 0, 0), 0)) (by decide +kernel)) g6_z hc_z
  replace hc_z := rn_iadd (w := t + 11) (am_cur_of (i := (88, 1, .iadd, (0, 0, 0), 0)) (by decide +kernel)) rfl hc_z
  replace hc_z := rn_iload (am_cur_of (i := (89, 2, .iload 7, (0, 0, 0), 0)) (by decide +kernel)) g7_z hc_z
  replace hc_z := rn_bipush (w := 24) (am_cur_of (i := (91, 2, .bipush 24, (0, 0, 0), 0)) (by decide +kernel)) (by decide) hc_z
  replace hc_z := rn_bipush (w := 8) (am_cur_of (i := (93, 2, .bipush 8, (0, 0, 0), 0)) (by decide +kernel)) (by decide) hc_z
  replace hc_z := rn_iload (am_cur_of (i := (95, 2, .iload 6, (0, 0, 0), 0)) (by decide +kernel)) g6_z hc_z
  replace hc_z := rn_iconst (w := 4) (am_cur_of (i := (97, 1, .iconst 4, (0, 0, 0), 0)) (by decide +kernel)) (by decide) hc_z
  replace hc_z := rn_irem (w := 3) (am_cur_of (i := (98, 1, .irem, (0, 0, 0), 0)) (by decide +kernel)) (by decide) hc_z
  obtain ⟨d109_z, hc_z⟩ := hc_z
  replace hc_z := rn_imul (w := 24) (am_cur_of (i := (99, 1, .imul, (0, 0, 0), 0)) (by decide +kernel)) (by decide) hc_z
  replace hc_z := rn_isub (w := 0) (am_cur_of (i := (100, 1, .isub, (0, 0, 0), 0)) (by decide +kernel)) (by decide) hc_z
  replace hc_z := rn_ishr (w := c >>> (0 &&& 31)) (am_cur_of (i := (101, 1, .ishr, (0, 0, 0), 0)) (by decide +kernel)) rfl hc_z
  replace hc_z := rn_sipush (w := 255) (am_cur_of (i := (102, 3, .sipush 255, (0, 0, 0), 0)) (by decide +kernel)) (by decide) hc_z
  replace hc_z := rn_iand (w := (c >>> (0 &&& 31)) &&& 255) (am_cur_of (i := (105, 1, .iand, (0, 0, 0), 0)) (by decide +kernel)) rfl hc_z
  replace hc_z := rn_iastore (N := 700) (q := (t + 11).toNatClampNeg) (am_cur_of (i := (106, 1, .iastore, (0, 0, 0), 0)) (by decide +kernel)) (by decide +kernel) rfl hc_z
  obtain ⟨p110_z, hc_z⟩ := hc_z
  replace hc_z := rn_iinc (w := 12) (am_cur_of (i := (107, 3, .iinc 6 1, (0, 0, 0), 0)) (by decide +kernel)) g6_z (by decide) hc_z
  obtain ⟨_, s111_z, s112_z, g6_z, hc_z⟩ := hc_z
  replace g0_z := s111_z 0 _ (by decide) rfl g0_z
  replace g1_z := s111_z 1 _ (by decide) rfl g1_z
  replace g2_z := s111_z 2 _ (by decide) rfl g2_z
  replace g3_z := s111_z 3 _ (by decide) rfl g3_z
  replace g4_z := s111_z 4 _ (by decide) rfl g4_z
  replace g5_z := s111_z 5 _ (by decide) rfl g5_z
  replace g7_z := s111_z 7 _ (by decide) rfl g7_z
  clear s111_z s112_z
  replace hc_z := rn_goto (am_cur_of (i := (110, 3, .goto (-87), (13, 0, 0), 0)) (by decide +kernel)) hc_z
  have ix : ((t + 11).toNatClampNeg) = t.toNatClampNeg + 11 := fd_ix 11 (by decide) t0_z t6_z
  have iv : ((c >>> (0 &&& 31)) &&& 255) = rd_fb a b c d e 11 := rd_i (s := 24 - 8 * (11 % 4)) (by decide) (by decide)
  rw [ix, iv] at hc_z
  exact ⟨_, g0_z, g1_z, g2_z, g3_z, g4_z, g5_z, g6_z, hc_z⟩
theorem fd_M12 {n : Nat} {h h' : am_H} {r : Option Value} {t a b c d e : Int32} {ls : am_L} (et : rg_v h 164 1 = t) (t0_z : 0 ≤ t.toInt) (t6_z : t.toInt ≤ 680) (g0_z : am_get ls 0 = some (.ref 164)) (g1_z : am_get ls 1 = some (.int a)) (g2_z : am_get ls 2 = some (.int b)) (g3_z : am_get ls 3 = some (.int c)) (g4_z : am_get ls 4 = some (.int d)) (g5_z : am_get ls 5 = some (.int e)) (g6_z : am_get ls 6 = some (.int 12)) (hc_z : rn n am_m149 13 ls [] h r h') : ∃ ls', am_get ls' 0 = some (.ref 164) ∧ am_get ls' 1 = some (.int a) ∧ am_get ls' 2 = some (.int b) ∧ am_get ls' 3 = some (.int c) ∧ am_get ls' 4 = some (.int d) ∧ am_get ls' 5 = some (.int e) ∧ am_get ls' 6 = some (.int 13) ∧ rn n am_m149 13 ls' [] (am_up h 165 (t.toNatClampNeg + 12) (.int (rd_fb a b c d e 12))) r h' := by
  replace hc_z := rn_iload (am_cur_of (i := (23, 2, .iload 6, (0, 0, 0), 0)) (by decide +kernel)) g6_z hc_z
  replace hc_z := rn_bipush (w := 20) (am_cur_of (i := (25, 2, .bipush 20, (0, 0, 0), 0)) (by decide +kernel)) (by decide) hc_z
  replace hc_z := rn_cmpF (am_cur_of (i := (27, 3, .if_icmp .ge 86, (58, 0, 0), 0)) (by decide +kernel)) (by decide) hc_z
  replace hc_z := rn_iload (am_cur_of (i := (30, 2, .iload 6, (0, 0, 0), 0)) (by decide +kernel)) g6_z hc_z
  replace hc_z := rn_iconst (w := 4) (am_cur_of (i := (32, 1, .iconst 4, (0, 0, 0), 0)) (by decide +kernel)) (by decide) hc_z
  replace hc_z := rn_cmpT (am_cur_of (i := (33, 3, .if_icmp .ge 7, (21, 0, 0), 0)) (by decide +kernel)) (by decide) hc_z
  replace hc_z := rn_iload (am_cur_of (i := (40, 2, .iload 6, (0, 0, 0), 0)) (by decide +kernel)) g6_z hc_z
  replace hc_z := rn_bipush (w := 8) (am_cur_of (i := (42, 2, .bipush 8, (0, 0, 0), 0)) (by decide +kernel)) (by decide) hc_z
  replace hc_z := rn_cmpT (am_cur_of (i := (44, 3, .if_icmp .ge 7, (26, 0, 0), 0)) (by decide +kernel)) (by decide) hc_z
  replace hc_z := rn_iload (am_cur_of (i := (51, 2, .iload 6, (0, 0, 0), 0)) (by decide +kernel)) g6_z hc_z
  replace hc_z := rn_bipush (w := 12) (am_cur_of (i := (53, 2, .bipush 12, (0, 0, 0), 0)) (by decide +kernel)) (by decide) hc_z
  replace hc_z := rn_cmpT (am_cur_of (i := (55, 3, .if_icmp .ge 7, (31, 0, 0), 0)) (by decide +kernel)) (by decide) hc_z
  replace hc_z := rn_iload (am_cur_of (i := (62, 2, .iload 6, (0, 0, 0), 0)) (by decide +kernel)) g6_z hc_z
  replace hc_z := rn_bipush (w := 16) (am_cur_of (i := (64, 2, .bipush 16, (0, 0, 0), 0)) (by decide +kernel)) (by decide) hc_z
  replace hc_z := rn_cmpF (am_cur_of (i := (66, 3, .if_icmp .ge 8, (36, 0, 0), 0)) (by decide +kernel)) (by decide) hc_z
  replace hc_z := rn_iload (am_cur_of (i := (69, 2, .iload 4, (0, 0, 0), 0)) (by decide +kernel)) g4_z hc_z
  replace hc_z := rn_goto (am_cur_of (i := (71, 3, .goto 5, (37, 0, 0), 0)) (by decide +kernel)) hc_z
  replace hc_z := rn_istore (am_cur_of (i := (76, 2, .istore 7, (0, 0, 0), 0)) (by decide +kernel)) hc_z
  obtain ⟨_, s113_z, s114_z, g7_z, hc_z⟩ := hc_z
  replace g0_z := s113_z 0 _ (by decide) rfl g0_z
  replace g1_z := s113_z 1 _ (by decide) rfl g1_z
  replace g2_z := s113_z 2 _ (by decide) rfl g2_z
  replace g3_z := s113_z 3 _ (by decide) rfl g3_z
  replace g4_z := s113_z 4 _ (by decide) rfl g4_z
  replace g5_z := s113_z 5 _ (by decide) rfl g5_z
  replace g6_z := s113_z 6 _ (by decide) rfl g6_z
  clear s113_z s114_z
  replace hc_z := rn_aload_n (am_cur_of (i := (78, 1, .aload_n 0, (0, 0, 0), 0)) (by decide +kernel)) g0_z hc_z
  replace hc_z := rn_getR (x := 165) (am_cur_of (i := (79, 3, .getfield 7, (12, 0, 1384), 0)) (by decide +kernel)) (by decide +kernel) hc_z
  replace hc_z := rn_aload_n (am_cur_of (i := (82, 1, .aload_n 0, (0, 0, 0), 0)) (by decide +kernel)) g0_z hc_z
  replace hc_z := rn_getI (v := t) (am_cur_of (i := (83, 3, .getfield 142, (12, 1, 1385), 0)) (by decide +kernel)) (by decide +kernel) et hc_z
  replace hc_z := rn_iload (am_cur_of (i := (86, 2, .iload 6, (0, 0, 0), 0)) (by decide +kernel)) g6_z hc_z
  replace hc_z := rn_iadd (w := t + 12) (am_cur_of (i := (88, 1, .iadd, (0, 0, 0), 0)) (by decide +kernel)) rfl hc_z
  replace hc_z := rn_iload (am_cur_of (i := (89, 2, .iload 7, (0, 0, 0), 0)) (by decide +kernel)) g7_z hc_z
  replace hc_z := rn_bipush (w := 24) (am_cur_of (i := (91, 2, .bipush 24, (0, 0, 0), 0)) (by decide +kernel)) (by decide) hc_z
  replace hc_z := rn_bipush (w := 8) (am_cur_of (i := (93, 2, .bipush 8, (0, 0, 0), 0)) (by decide +kernel)) (by decide) hc_z
  replace hc_z := rn_iload (am_cur_of (i := (95, 2, .iload 6, (0, 0, 0), 0)) (by decide +kernel)) g6_z hc_z
  replace hc_z := rn_iconst (w := 4) (am_cur_of (i := (97, 1, .iconst 4, (0, 0, 0), 0)) (by decide +kernel)) (by decide) hc_z
  replace hc_z := rn_irem (w := 0) (am_cur_of (i := (98, 1, .irem, (0, 0, 0), 0)) (by decide +kernel)) (by decide) hc_z
  obtain ⟨d115_z, hc_z⟩ := hc_z
  replace hc_z := rn_imul (w := 0) (am_cur_of (i := (99, 1, .imul, (0, 0, 0), 0)) (by decide +kernel)) (by decide) hc_z
  replace hc_z := rn_isub (w := 24) (am_cur_of (i := (100, 1, .isub, (0, 0, 0), 0)) (by decide +kernel)) (by decide) hc_z
  replace hc_z := rn_ishr (w := d >>> (24 &&& 31)) (am_cur_of (i := (101, 1, .ishr, (0, 0, 0), 0)) (by decide +kernel)) rfl hc_z
  replace hc_z := rn_sipush (w := 255) (am_cur_of (i := (102, 3, .sipush 255, (0, 0, 0), 0)) (by decide +kernel)) (by decide) hc_z
  replace hc_z := rn_iand (w := (d >>> (24 &&& 31)) &&& 255) (am_cur_of (i := (105, 1, .iand, (0, 0, 0), 0)) (by decide +kernel)) rfl hc_z
  replace hc_z := rn_iastore (N := 700) (q := (t + 12).toNatClampNeg) (am_cur_of (i := (106, 1, .iastore, (0, 0, 0), 0)) (by decide +kernel)) (by decide +kernel) rfl hc_z
  obtain ⟨p116_z, hc_z⟩ := hc_z
  replace hc_z := rn_iinc (w := 13) (am_cur_of (i := (107, 3, .iinc 6 1, (0, 0, 0), 0)) (by decide +kernel)) g6_z (by decide) hc_z
  obtain ⟨_, s117_z, s118_z, g6_z, hc_z⟩ := hc_z
  replace g0_z := s117_z 0 _ (by decide) rfl g0_z
  replace g1_z := s117_z 1 _ (by decide) rfl g1_z
  replace g2_z := s117_z 2 _ (by decide) rfl g2_z
  replace g3_z := s117_z 3 _ (by decide) rfl g3_z
  replace g4_z := s117_z 4 _ (by decide) rfl g4_z
  replace g5_z := s117_z 5 _ (by decide) rfl g5_z
  replace g7_z := s117_z 7 _ (by decide) rfl g7_z
  clear s117_z s118_z
  replace hc_z := rn_goto (am_cur_of (i := (110, 3, .goto (-87), (13, 0, 0), 0)) (by decide +kernel)) hc_z
  have ix : ((t + 12).toNatClampNeg) = t.toNatClampNeg + 12 := fd_ix 12 (by decide) t0_z t6_z
  have iv : ((d >>> (24 &&& 31)) &&& 255) = rd_fb a b c d e 12 := rd_i (s := 24 - 8 * (12 % 4)) (by decide) (by decide)
  rw [ix, iv] at hc_z
  exact ⟨_, g0_z, g1_z, g2_z, g3_z, g4_z, g5_z, g6_z, hc_z⟩
theorem fd_M13 {n : Nat} {h h' : am_H} {r : Option Value} {t a b c d e : Int32} {ls : am_L} (et : rg_v h 164 1 = t) (t0_z : 0 ≤ t.toInt) (t6_z : t.toInt ≤ 680) (g0_z : am_get ls 0 = some (.ref 164)) (g1_z : am_get ls 1 = some (.int a)) (g2_z : am_get ls 2 = some (.int b)) (g3_z : am_get ls 3 = some (.int c)) (g4_z : am_get ls 4 = some (.int d)) (g5_z : am_get ls 5 = some (.int e)) (g6_z : am_get ls 6 = some (.int 13)) (hc_z : rn n am_m149 13 ls [] h r h') : ∃ ls', am_get ls' 0 = some (.ref 164) ∧ am_get ls' 1 = some (.int a) ∧ am_get ls' 2 = some (.int b) ∧ am_get ls' 3 = some (.int c) ∧ am_get ls' 4 = some (.int d) ∧ am_get ls' 5 = some (.int e) ∧ am_get ls' 6 = some (.int 14) ∧ rn n am_m149 13 ls' [] (am_up h 165 (t.toNatClampNeg + 13) (.int (rd_fb a b c d e 13))) r h' := by
  replace hc_z := rn_iload (am_cur_of (i := (23, 2, .iload 6, (0, 0, 0), 0)) (by decide +kernel)) g6_z hc_z
  replace hc_z := rn_bipush (w := 20) (am_cur_of (i := (25, 2, .bipush 20, (0, 0, 0), 0)) (by decide +kernel)) (by decide) hc_z
  replace hc_z := rn_cmpF (am_cur_of (i := (27, 3, .if_icmp .ge 86, (58, 0, 0), 0)) (by decide +kernel)) (by decide) hc_z
  replace hc_z := rn_iload (am_cur_of (i := (30, 2, .iload 6, (0, 0, 0), 0)) (by decide +kernel)) g6_z hc_z
  replace hc_z := rn_iconst (w := 4) (am_cur_of (i := (32, 1, .iconst 4, (0, 0, 0), 0)) (by decide +kernel)) (by decide) hc_z
  replace hc_z := rn_cmpT (am_cur_of (i := (33, 3, .if_icmp .ge 7, (21, 0, 0), 0)) (by decide +kernel)) (by decide) hc_z
  replace hc_z := rn_iload (am_cur_of (i := (40, 2, .iload 6, (0, 0, 0), 0)) (by decide +kernel)) g6_z hc_z
  replace hc_z := rn_bipush (w := 8) (am_cur_of (i := (42, 2, .bipush 8, (0, 0, 0), 0)) (by decide +kernel)) (by decide) hc_z
  replace hc_z := rn_cmpT (am_cur_of (i := (44, 3, .if_icmp .ge 7, (26, 0, 0), 0)) (by decide +kernel)) (by decide) hc_z
  replace hc_z := rn_iload (am_cur_of (i := (51, 2, .iload 6, (0, 0, 0), 0)) (by decide +kernel)) g6_z hc_z
  replace hc_z := rn_bipush (w := 12) (am_cur_of (i := (53, 2, .bipush 12, (0, 0, 0), 0)) (by decide +kernel)) (by decide) hc_z
  replace hc_z := rn_cmpT (am_cur_of (i := (55, 3, .if_icmp .ge 7, (31, 0, 0), 0)) (by decide +kernel)) (by decide) hc_z
  replace hc_z := rn_iload (am_cur_of (i := (62, 2, .iload 6, (0, 0, 0), 0)) (by decide +kernel)) g6_z hc_z
  replace hc_z := rn_bipush (w := 16) (am_cur_of (i := (64, 2, .bipush 16, (0, 0, 0), 0)) (by decide +kernel)) (by decide) hc_z
  replace hc_z := rn_cmpF (am_cur_of (i := (66, 3, .if_icmp .ge 8, (36, 0, 0), 0)) (by decide +kernel)) (by decide) hc_z
  replace hc_z := rn_iload (am_cur_of (i := (69, 2, .iload 4, (0, 0, 0), 0)) (by decide +kernel)) g4_z hc_z
  replace hc_z := rn_goto (am_cur_of (i := (71, 3, .goto 5, (37, 0, 0), 0)) (by decide +kernel)) hc_z
  replace hc_z := rn_istore (am_cur_of (i := (76, 2, .istore 7, (0, 0, 0), 0)) (by decide +kernel)) hc_z
  obtain ⟨_, s119_z, s120_z, g7_z, hc_z⟩ := hc_z
  replace g0_z := s119_z 0 _ (by decide) rfl g0_z
  replace g1_z := s119_z 1 _ (by decide) rfl g1_z
  replace g2_z := s119_z 2 _ (by decide) rfl g2_z
  replace g3_z := s119_z 3 _ (by decide) rfl g3_z
  replace g4_z := s119_z 4 _ (by decide) rfl g4_z
  replace g5_z := s119_z 5 _ (by decide) rfl g5_z
  replace g6_z := s119_z 6 _ (by decide) rfl g6_z
  clear s119_z s120_z
  replace hc_z := rn_aload_n (am_cur_of (i := (78, 1, .aload_n 0, (0, 0, 0), 0)) (by decide +kernel)) g0_z hc_z
  replace hc_z := rn_getR (x := 165) (am_cur_of (i := (79, 3, .getfield 7, (12, 0, 1384), 0)) (by decide +kernel)) (by decide +kernel) hc_z
  replace hc_z := rn_aload_n (am_cur_of (i := (82, 1, .aload_n 0, (0, 0, 0), 0)) (by decide +kernel)) g0_z hc_z
  replace hc_z := rn_getI (v := t) (am_cur_of (i := (83, 3, .getfield 142, (12, 1, 1385), 0)) (by decide +kernel)) (by decide +kernel) et hc_z
  replace hc_z := rn_iload (am_cur_of (i := (86, 2, .iload 6, (0, 0, 0), 0)) (by decide +kernel)) g6_z hc_z
  replace hc_z := rn_iadd (w := t + 13) (am_cur_of (i := (88, 1, .iadd, (0, 0, 0), 0)) (by decide +kernel)) rfl hc_z
  replace hc_z := rn_iload (am_cur_of (i := (89, 2, .iload 7, (0, 0, 0), 0)) (by decide +kernel)) g7_z hc_z
  replace hc_z := rn_bipush (w := 24) (am_cur_of (i := (91, 2, .bipush 24, (0, 0, 0), 0)) (by decide +kernel)) (by decide) hc_z
  replace hc_z := rn_bipush (w := 8) (am_cur_of (i := (93, 2, .bipush 8, (0, 0, 0), 0)) (by decide +kernel)) (by decide) hc_z
  replace hc_z := rn_iload (am_cur_of (i := (95, 2, .iload 6, (0, 0, 0), 0)) (by decide +kernel)) g6_z hc_z
  replace hc_z := rn_iconst (w := 4) (am_cur_of (i := (97, 1, .iconst 4, (0, 0, 0), 0)) (by decide +kernel)) (by decide) hc_z
  replace hc_z := rn_irem (w := 1) (am_cur_of (i := (98, 1, .irem, (0, 0, 0), 0)) (by decide +kernel)) (by decide) hc_z
  obtain ⟨d121_z, hc_z⟩ := hc_z
  replace hc_z := rn_imul (w := 8) (am_cur_of (i := (99, 1, .imul, (0, 0, 0), 0)) (by decide +kernel)) (by decide) hc_z
  replace hc_z := rn_isub (w := 16) (am_cur_of (i := (100, 1, .isub, (0, 0, 0), 0)) (by decide +kernel)) (by decide) hc_z
  replace hc_z := rn_ishr (w := d >>> (16 &&& 31)) (am_cur_of (i := (101, 1, .ishr, (0, 0, 0), 0)) (by decide +kernel)) rfl hc_z
  replace hc_z := rn_sipush (w := 255) (am_cur_of (i := (102, 3, .sipush 255, (0, 0, 0), 0)) (by decide +kernel)) (by decide) hc_z
  replace hc_z := rn_iand (w := (d >>> (16 &&& 31)) &&& 255) (am_cur_of (i := (105, 1, .iand, (0, 0, 0), 0)) (by decide +kernel)) rfl hc_z
  replace hc_z := rn_iastore (N := 700) (q := (t + 13).toNatClampNeg) (am_cur_of (i := (106, 1, .iastore, (0, 0, 0), 0)) (by decide +kernel)) (by decide +kernel) rfl hc_z
  obtain ⟨p122_z, hc_z⟩ := hc_z
  replace hc_z := rn_iinc (w := 14) (am_cur_of (i := (107, 3, .iinc 6 1, (0, 0, 0), 0)) (by decide +kernel)) g6_z (by decide) hc_z
  obtain ⟨_, s123_z, s124_z, g6_z, hc_z⟩ := hc_z
  replace g0_z := s123_z 0 _ (by decide) rfl g0_z
  replace g1_z := s123_z 1 _ (by decide) rfl g1_z
  replace g2_z := s123_z 2 _ (by decide) rfl g2_z
  replace g3_z := s123_z 3 _ (by decide) rfl g3_z
  replace g4_z := s123_z 4 _ (by decide) rfl g4_z
  replace g5_z := s123_z 5 _ (by decide) rfl g5_z
  replace g7_z := s123_z 7 _ (by decide) rfl g7_z
  clear s123_z s124_z
  replace hc_z := rn_goto (am_cur_of (i := (110, 3, .goto (-87), (13, 0, 0), 0)) (by decide +kernel)) hc_z
  have ix : ((t + 13).toNatClampNeg) = t.toNatClampNeg + 13 := fd_ix 13 (by decide) t0_z t6_z
  have iv : ((d >>> (16 &&& 31)) &&& 255) = rd_fb a b c d e 13 := rd_i (s := 24 - 8 * (13 % 4)) (by decide) (by decide)
  rw [ix, iv] at hc_z
  exact ⟨_, g0_z, g1_z, g2_z, g3_z, g4_z, g5_z, g6_z, hc_z⟩
theorem fd_M14 {n : Nat} {h h' : am_H} {r : Option Value} {t a b c d e : Int32} {ls : am_L} (et : rg_v h 164 1 = t) (t0_z : 0 ≤ t.toInt) (t6_z : t.toInt ≤ 680) (g0_z : am_get ls 0 = some (.ref 164)) (g1_z : am_get ls 1 = some (.int a)) (g2_z : am_get ls 2 = some (.int b)) (g3_z : am_get ls 3 = some (.int c)) (g4_z : am_get ls 4 = some (.int d)) (g5_z : am_get ls 5 = some (.int e)) (g6_z : am_get ls 6 = some (.int 14)) (hc_z : rn n am_m149 13 ls [] h r h') : ∃ ls', am_get ls' 0 = some (.ref 164) ∧ am_get ls' 1 = some (.int a) ∧ am_get ls' 2 = some (.int b) ∧ am_get ls' 3 = some (.int c) ∧ am_get ls' 4 = some (.int d) ∧ am_get ls' 5 = some (.int e) ∧ am_get ls' 6 = some (.int 15) ∧ rn n am_m149 13 ls' [] (am_up h 165 (t.toNatClampNeg + 14) (.int (rd_fb a b c d e 14))) r h' := by
  replace hc_z := rn_iload (am_cur_of (i := (23, 2, .iload 6, (0, 0, 0), 0)) (by decide +kernel)) g6_z hc_z
  replace hc_z := rn_bipush (w := 20) (am_cur_of (i := (25, 2, .bipush 20, (0, 0, 0), 0)) (by decide +kernel)) (by decide) hc_z
  replace hc_z := rn_cmpF (am_cur_of (i := (27, 3, .if_icmp .ge 86, (58, 0, 0), 0)) (by decide +kernel)) (by decide) hc_z
  replace hc_z := rn_iload (am_cur_of (i := (30, 2, .iload 6, (0, 0, 0), 0)) (by decide +kernel)) g6_z hc_z
  replace hc_z := rn_iconst (w := 4) (am_cur_of (i := (32, 1, .iconst 4, (0, 0, 0), 0)) (by decide +kernel)) (by decide) hc_z
  replace hc_z := rn_cmpT (am_cur_of (i := (33, 3, .if_icmp .ge 7, (21, 0, 0), 0)) (by decide +kernel)) (by decide) hc_z
  replace hc_z := rn_iload (am_cur_of (i := (40, 2, .iload 6, (0, 0, 0), 0)) (by decide +kernel)) g6_z hc_z
  replace hc_z := rn_bipush (w := 8) (am_cur_of (i := (42, 2, .bipush 8, (0, 0, 0), 0)) (by decide +kernel)) (by decide) hc_z
  replace hc_z := rn_cmpT (am_cur_of (i := (44, 3, .if_icmp .ge 7, (26, 0, 0), 0)) (by decide +kernel)) (by decide) hc_z
  replace hc_z := rn_iload (am_cur_of (i := (51, 2, .iload 6, (0, 0, 0), 0)) (by decide +kernel)) g6_z hc_z
  replace hc_z := rn_bipush (w := 12) (am_cur_of (i := (53, 2, .bipush 12, (0, 0, 0), 0)) (by decide +kernel)) (by decide) hc_z
  replace hc_z := rn_cmpT (am_cur_of (i := (55, 3, .if_icmp .ge 7, (31, 0, 0), 0)) (by decide +kernel)) (by decide) hc_z
  replace hc_z := rn_iload (am_cur_of (i := (62, 2, .iload 6, (0, 0, 0), 0)) (by decide +kernel)) g6_z hc_z
  replace hc_z := rn_bipush (w := 16) (am_cur_of (i := (64, 2, .bipush 16, (0, 0, 0), 0)) (by decide +kernel)) (by decide) hc_z
  replace hc_z := rn_cmpF (am_cur_of (i := (66, 3, .if_icmp .ge 8, (36, 0, 0), 0)) (by decide +kernel)) (by decide) hc_z
  replace hc_z := rn_iload (am_cur_of (i := (69, 2, .iload 4, (0, 0, 0), 0)) (by decide +kernel)) g4_z hc_z
  replace hc_z := rn_goto (am_cur_of (i := (71, 3, .goto 5, (37, 0, 0), 0)) (by decide +kernel)) hc_z
  replace hc_z := rn_istore (am_cur_of (i := (76, 2, .istore 7, (0, 0, 0), 0)) (by decide +kernel)) hc_z
  obtain ⟨_, s125_z, s126_z, g7_z, hc_z⟩ := hc_z
  replace g0_z := s125_z 0 _ (by decide) rfl g0_z
  replace g1_z := s125_z 1 _ (by decide) rfl g1_z
  replace g2_z := s125_z 2 _ (by decide) rfl g2_z
  replace g3_z := s125_z 3 _ (by decide) rfl g3_z
  replace g4_z := s125_z 4 _ (by decide) rfl g4_z
  replace g5_z := s125_z 5 _ (by decide) rfl g5_z
  replace g6_z := s125_z 6 _ (by decide) rfl g6_z
  clear s125_z s126_z
  replace hc_z := rn_aload_n (am_cur_of (i := (78, 1, .aload_n 0, (0, 0, 0), 0)) (by decide +kernel)) g0_z hc_z
  replace hc_z := rn_getR (x := 165) (am_cur_of (i := (79, 3, .getfield 7, (12, 0, 1384), 0)) (by decide +kernel)) (by decide +kernel) hc_z
  replace hc_z := rn_aload_n (am_cur_of (i := (82, 1, .aload_n 0, (0, 0, 0), 0)) (by decide +kernel)) g0_z hc_z
  replace hc_z := rn_getI (v := t) (am_cur_of (i := (83, 3, .getfield 142, (12, 1, 1385), 0)) (by decide +kernel)) (by decide +kernel) et hc_z
  replace hc_z := rn_iload (am_cur_of (i := (86, 2, .iload 6, (0, 0, 0), 0)) (by decide +kernel)) g6_z hc_z
  replace hc_z := rn_iadd (w := t + 14) (am_cur_of (i := (88, 1, .iadd, (0, 0, 0), 0)) (by decide +kernel)) rfl hc_z
  replace hc_z := rn_iload (am_cur_of (i := (89, 2, .iload 7, (0, 0, 0), 0)) (by decide +kernel)) g7_z hc_z
  replace hc_z := rn_bipush (w := 24) (am_cur_of (i := (91, 2, .bipush 24, (0, 0, 0), 0)) (by decide +kernel)) (by decide) hc_z
  replace hc_z := rn_bipush (w := 8) (am_cur_of (i := (93, 2, .bipush 8, (0, 0, 0), 0)) (by decide +kernel)) (by decide) hc_z
  replace hc_z := rn_iload (am_cur_of (i := (95, 2, .iload 6, (0, 0, 0), 0)) (by decide +kernel)) g6_z hc_z
  replace hc_z := rn_iconst (w := 4) (am_cur_of (i := (97, 1, .iconst 4, (0, 0, 0), 0)) (by decide +kernel)) (by decide) hc_z
  replace hc_z := rn_irem (w := 2) (am_cur_of (i := (98, 1, .irem, (0, 0, 0), 0)) (by decide +kernel)) (by decide) hc_z
  obtain ⟨d127_z, hc_z⟩ := hc_z
  replace hc_z := rn_imul (w := 16) (am_cur_of (i := (99, 1, .imul, (0, 0, 0), 0)) (by decide +kernel)) (by decide) hc_z
  replace hc_z := rn_isub (w := 8) (am_cur_of (i := (100, 1, .isub, (0, 0, 0), 0)) (by decide +kernel)) (by decide) hc_z
  replace hc_z := rn_ishr (w := d >>> (8 &&& 31)) (am_cur_of (i := (101, 1, .ishr, (0, 0, 0), 0)) (by decide +kernel)) rfl hc_z
  replace hc_z := rn_sipush (w := 255) (am_cur_of (i := (102, 3, .sipush 255, (0, 0, 0), 0)) (by decide +kernel)) (by decide) hc_z
  replace hc_z := rn_iand (w := (d >>> (8 &&& 31)) &&& 255) (am_cur_of (i := (105, 1, .iand, (0, 0, 0), 0)) (by decide +kernel)) rfl hc_z
  replace hc_z := rn_iastore (N := 700) (q := (t + 14).toNatClampNeg) (am_cur_of (i := (106, 1, .iastore, (0, 0, 0), 0)) (by decide +kernel)) (by decide +kernel) rfl hc_z
  obtain ⟨p128_z, hc_z⟩ := hc_z
  replace hc_z := rn_iinc (w := 15) (am_cur_of (i := (107, 3, .iinc 6 1, (0, 0, 0), 0)) (by decide +kernel)) g6_z (by decide) hc_z
  obtain ⟨_, s129_z, s130_z, g6_z, hc_z⟩ := hc_z
  replace g0_z := s129_z 0 _ (by decide) rfl g0_z
  replace g1_z := s129_z 1 _ (by decide) rfl g1_z
  replace g2_z := s129_z 2 _ (by decide) rfl g2_z
  replace g3_z := s129_z 3 _ (by decide) rfl g3_z
  replace g4_z := s129_z 4 _ (by decide) rfl g4_z
  replace g5_z := s129_z 5 _ (by decide) rfl g5_z
  replace g7_z := s129_z 7 _ (by decide) rfl g7_z
  clear s129_z s130_z
  replace hc_z := rn_goto (am_cur_of (i := (110, 3, .goto (-87), (13, 0, 0), 0)) (by decide +kernel)) hc_z
  have ix : ((t + 14).toNatClampNeg) = t.toNatClampNeg + 14 := fd_ix 14 (by decide) t0_z t6_z
  have iv : ((d >>> (8 &&& 31)) &&& 255) = rd_fb a b c d e 14 := rd_i (s := 24 - 8 * (14 % 4)) (by decide) (by decide)
  rw [ix, iv] at hc_z
  exact ⟨_, g0_z, g1_z, g2_z, g3_z, g4_z, g5_z, g6_z, hc_z⟩
theorem fd_M15 {n : Nat} {h h' : am_H} {r : Option Value} {t a b c d e : Int32} {ls : am_L} (et : rg_v h 164 1 = t) (t0_z : 0 ≤ t.toInt) (t6_z : t.toInt ≤ 680) (g0_z : am_get ls 0 = some (.ref 164)) (g1_z : am_get ls 1 = some (.int a)) (g2_z : am_get ls 2 = some (.int b)) (g3_z : am_get ls 3 = some (.int c)) (g4_z : am_get ls 4 = some (.int d)) (g5_z : am_get ls 5 = some (.int e)) (g6_z : am_get ls 6 = some (.int 15)) (hc_z : rn n am_m149 13 ls [] h r h') : ∃ ls', am_get ls' 0 = some (.ref 164) ∧ am_get ls' 1 = some (.int a) ∧ am_get ls' 2 = some (.int b) ∧ am_get ls' 3 = some (.int c) ∧ am_get ls' 4 = some (.int d) ∧ am_get ls' 5 = some (.int e) ∧ am_get ls' 6 = some (.int 16) ∧ rn n am_m149 13 ls' [] (am_up h 165 (t.toNatClampNeg + 15) (.int (rd_fb a b c d e 15))) r h' := by
  replace hc_z := rn_iload (am_cur_of (i := (23, 2, .iload 6, (0, 0, 0), 0)) (by decide +kernel)) g6_z hc_z
  replace hc_z := rn_bipush (w := 20) (am_cur_of (i := (25, 2, .bipush 20, (0, 0, 0), 0)) (by decide +kernel)) (by decide) hc_z
  replace hc_z := rn_cmpF (am_cur_of (i := (27, 3, .if_icmp .ge 86, (58, 0, 0), 0)) (by decide +kernel)) (by decide) hc_z
  replace hc_z := rn_iload (am_cur_of (i := (30, 2, .iload 6, (0, 0, 0), 0)) (by decide +kernel)) g6_z hc_z
  replace hc_z := rn_iconst (w := 4) (am_cur_of (i := (32, 1, .iconst 4, (0, 0, 0), 0)) (by decide +kernel)) (by decide) hc_z
  replace hc_z := rn_cmpT (am_cur_of (i := (33, 3, .if_icmp .ge 7, (21, 0, 0), 0)) (by decide +kernel)) (by decide) hc_z
  replace hc_z := rn_iload (am_cur_of (i := (40, 2, .iload 6, (0, 0, 0), 0)) (by decide +kernel)) g6_z hc_z
  replace hc_z := rn_bipush (w := 8) (am_cur_of (i := (42, 2, .bipush 8, (0, 0, 0), 0)) (by decide +kernel)) (by decide) hc_z
  replace hc_z := rn_cmpT (am_cur_of (i := (44, 3, .if_icmp .ge 7, (26, 0, 0), 0)) (by decide +kernel)) (by decide) hc_z
  replace hc_z := rn_iload (am_cur_of (i := (51, 2, .iload 6, (0, 0, 0), 0)) (by decide +kernel)) g6_z hc_z
  replace hc_z := rn_bipush (w := 12) (am_cur_of (i := (53, 2, .bipush 12, (0, 0, 0), 0)) (by decide +kernel)) (by decide) hc_z
  replace hc_z := rn_cmpT (am_cur_of (i := (55, 3, .if_icmp .ge 7, (31, 0, 0), 0)) (by decide +kernel)) (by decide) hc_z
  replace hc_z := rn_iload (am_cur_of (i := (62, 2, .iload 6, (0, 0, 0), 0)) (by decide +kernel)) g6_z hc_z
  replace hc_z := rn_bipush (w := 16) (am_cur_of (i := (64, 2, .bipush 16, (0, 0, 0), 0)) (by decide +kernel)) (by decide) hc_z
  replace hc_z := rn_cmpF (am_cur_of (i := (66, 3, .if_icmp .ge 8, (36, 0, 0), 0)) (by decide +kernel)) (by decide) hc_z
  replace hc_z := rn_iload (am_cur_of (i := (69, 2, .iload 4, (0, 0, 0), 0)) (by decide +kernel)) g4_z hc_z
  replace hc_z := rn_goto (am_cur_of (i := (71, 3, .goto 5, (37, 0, 0), 0)) (by decide +kernel)) hc_z
  replace hc_z := rn_istore (am_cur_of (i := (76, 2, .istore 7, (0, 0, 0), 0)) (by decide +kernel)) hc_z
  obtain ⟨_, s131_z, s132_z, g7_z, hc_z⟩ := hc_z
  replace g0_z := s131_z 0 _ (by decide) rfl g0_z
  replace g1_z := s131_z 1 _ (by decide) rfl g1_z
  replace g2_z := s131_z 2 _ (by decide) rfl g2_z
  replace g3_z := s131_z 3 _ (by decide) rfl g3_z
  replace g4_z := s131_z 4 _ (by decide) rfl g4_z
  replace g5_z := s131_z 5 _ (by decide) rfl g5_z
  replace g6_z := s131_z 6 _ (by decide) rfl g6_z
  clear s131_z s132_z
  replace hc_z := rn_aload_n (am_cur_of (i := (78, 1, .aload_n 0, (0, 0, 0), 0)) (by decide +kernel)) g0_z hc_z
  replace hc_z := rn_getR (x := 165) (am_cur_of (i := (79, 3, .getfield 7, (12, 0, 1384), 0)) (by decide +kernel)) (by decide +kernel) hc_z
  replace hc_z := rn_aload_n (am_cur_of (i := (82, 1, .aload_n 0, (0, 0, 0), 0)) (by decide +kernel)) g0_z hc_z
  replace hc_z := rn_getI (v := t) (am_cur_of (i := (83, 3, .getfield 142, (12, 1, 1385), 0)) (by decide +kernel)) (by decide +kernel) et hc_z
  replace hc_z := rn_iload (am_cur_of (i := (86, 2, .iload 6, (0, 0, 0), 0)) (by decide +kernel)) g6_z hc_z
  replace hc_z := rn_iadd (w := t + 15) (am_cur_of (i := (88, 1, .iadd, (0, 0, 0), 0)) (by decide +kernel)) rfl hc_z
  replace hc_z := rn_iload (am_cur_of (i := (89, 2, .iload 7, (0, 0, 0), 0)) (by decide +kernel)) g7_z hc_z
  replace hc_z := rn_bipush (w := 24) (am_cur_of (i := (91, 2, .bipush 24, (0, 0, 0), 0)) (by decide +kernel)) (by decide) hc_z
  replace hc_z := rn_bipush (w := 8) (am_cur_of (i := (93, 2, .bipush 8, (0, 0, 0), 0)) (by decide +kernel)) (by decide) hc_z
  replace hc_z := rn_iload (am_cur_of (i := (95, 2, .iload 6, (0, 0, 0), 0)) (by decide +kernel)) g6_z hc_z
  replace hc_z := rn_iconst (w := 4) (am_cur_of (i := (97, 1, .iconst 4, (0, 0, 0), 0)) (by decide +kernel)) (by decide) hc_z
  replace hc_z := rn_irem (w := 3) (am_cur_of (i := (98, 1, .irem, (0, 0, 0), 0)) (by decide +kernel)) (by decide) hc_z
  obtain ⟨d133_z, hc_z⟩ := hc_z
  replace hc_z := rn_imul (w := 24) (am_cur_of (i := (99, 1, .imul, (0, 0, 0), 0)) (by decide +kernel)) (by decide) hc_z
  replace hc_z := rn_isub (w := 0) (am_cur_of (i := (100, 1, .isub, (0, 0, 0), 0)) (by decide +kernel)) (by decide) hc_z
  replace hc_z := rn_ishr (w := d >>> (0 &&& 31)) (am_cur_of (i := (101, 1, .ishr, (0, 0, 0), 0)) (by decide +kernel)) rfl hc_z
  replace hc_z := rn_sipush (w := 255) (am_cur_of (i := (102, 3, .sipush 255, (0, 0, 0), 0)) (by decide +kernel)) (by decide) hc_z
  replace hc_z := rn_iand (w := (d >>> (0 &&& 31)) &&& 255) (am_cur_of (i := (105, 1, .iand, (0, 0, 0), 0)) (by decide +kernel)) rfl hc_z
  replace hc_z := rn_iastore (N := 700) (q := (t + 15).toNatClampNeg) (am_cur_of (i := (106, 1, .iastore, (0, 0, 0), 0)) (by decide +kernel)) (by decide +kernel) rfl hc_z
  obtain ⟨p134_z, hc_z⟩ := hc_z
  replace hc_z := rn_iinc (w := 16) (am_cur_of (i := (107, 3, .iinc 6 1, (0, 0, 0), 0)) (by decide +kernel)) g6_z (by decide) hc_z
  obtain ⟨_, s135_z, s136_z, g6_z, hc_z⟩ := hc_z
  replace g0_z := s135_z 0 _ (by decide) rfl g0_z
  replace g1_z := s135_z 1 _ (by decide) rfl g1_z
  replace g2_z := s135_z 2 _ (by decide) rfl g2_z
  replace g3_z := s135_z 3 _ (by decide) rfl g3_z
  replace g4_z := s135_z 4 _ (by decide) rfl g4_z
  replace g5_z := s135_z 5 _ (by decide) rfl g5_z
  replace g7_z := s135_z 7 _ (by decide) rfl g7_z
  clear s135_z s136_z
  replace hc_z := rn_goto (am_cur_of (i := (110, 3, .goto (-87), (13, 0, 0), 0)) (by decide +kernel)) hc_z
  have ix : ((t + 15).toNatClampNeg) = t.toNatClampNeg + 15 := fd_ix 15 (by decide) t0_z t6_z
  have iv : ((d >>> (0 &&& 31)) &&& 255) = rd_fb a b c d e 15 := rd_i (s := 24 - 8 * (15 % 4)) (by decide) (by decide)
  rw [ix, iv] at hc_z
  exact ⟨_, g0_z, g1_z, g2_z, g3_z, g4_z, g5_z, g6_z, hc_z⟩
theorem fd_M16 {n : Nat} {h h' : am_H} {r : Option Value} {t a b c d e : Int32} {ls : am_L} (et : rg_v h 164 1 = t) (t0_z : 0 ≤ t.toInt) (t6_z : t.toInt ≤ 680) (g0_z : am_get ls 0 = some (.ref 164)) (g1_z : am_get ls 1 = some (.int a)) (g2_z : am_get ls 2 = some (.int b)) (g3_z : am_get ls 3 = some (.int c)) (g4_z : am_get ls 4 = some (.int d)) (g5_z : am_get ls 5 = some (.int e)) (g6_z : am_get ls 6 = some (.int 16)) (hc_z : rn n am_m149 13 ls [] h r h') : ∃ ls', am_get ls' 0 = some (.ref 164) ∧ am_get ls' 1 = some (.int a) ∧ am_get ls' 2 = some (.int b) ∧ am_get ls' 3 = some (.int c) ∧ am_get ls' 4 = some (.int d) ∧ am_get ls' 5 = some (.int e) ∧ am_get ls' 6 = some (.int 17) ∧ rn n am_m149 13 ls' [] (am_up h 165 (t.toNatClampNeg + 16) (.int (rd_fb a b c d e 16))) r h' := by
  replace hc_z := rn_iload (am_cur_of (i := (23, 2, .iload 6, (0, 0, 0), 0)) (by decide +kernel)) g6_z hc_z
  replace hc_z := rn_bipush (w := 20) (am_cur_of (i := (25, 2, .bipush 20, (0, 0, 0), 0)) (by decide +kernel)) (by decide) hc_z
  replace hc_z := rn_cmpF (am_cur_of (i := (27, 3, .if_icmp .ge 86, (58, 0, 0), 0)) (by decide +kernel)) (by decide) hc_z
  replace hc_z := rn_iload (am_cur_of (i := (30, 2, .iload 6, (0, 0, 0), 0)) (by decide +kernel)) g6_z hc_z
  replace hc_z := rn_iconst (w := 4) (am_cur_of (i := (32, 1, .iconst 4, (0, 0, 0), 0)) (by decide +kernel)) (by decide) hc_z
  replace hc_z := rn_cmpT (am_cur_of (i := (33, 3, .if_icmp .ge 7, (21, 0, 0), 0)) (by decide +kernel)) (by decide) hc_z
  replace hc_z := rn_iload (am_cur_of (i := (40, 2, .iload 6, (0, 0, 0), 0)) (by decide +kernel)) g6_z hc_z
  replace hc_z := rn_bipush (w := 8) (am_cur_of (i := (42, 2, .bipush 8, (0, 0, 0), 0)) (by decide +kernel)) (by decide) hc_z
  replace hc_z := rn_cmpT (am_cur_of (i := (44, 3, .if_icmp .ge 7, (26, 0, 0), 0)) (by decide +kernel)) (by decide) hc_z
  replace hc_z := rn_iload (am_cur_of (i := (51, 2, .iload 6, (0, 0, 0), 0)) (by decide +kernel)) g6_z hc_z
  replace hc_z := rn_bipush (w := 12) (am_cur_of (i := (53, 2, .bipush 12, (0, 0, 0), 0)) (by decide +kernel)) (by decide) hc_z
  replace hc_z := rn_cmpT (am_cur_of (i := (55, 3, .if_icmp .ge 7, (31, 0, 0), 0)) (by decide +kernel)) (by decide) hc_z
  replace hc_z := rn_iload (am_cur_of (i := (62, 2, .iload 6, (0, 0, 0), 0)) (by decide +kernel)) g6_z hc_z
  replace hc_z := rn_bipush (w := 16) (am_cur_of (i := (64, 2, .bipush 16, (0, 0, 0), 0)) (by decide +kernel)) (by decide) hc_z
  replace hc_z := rn_cmpT (am_cur_of (i := (66, 3, .if_icmp .ge 8, (36, 0, 0), 0)) (by decide +kernel)) (by decide) hc_z
  replace hc_z := rn_iload (am_cur_of (i := (74, 2, .iload 5, (0, 0, 0), 0)) (by decide +kernel)) g5_z hc_z
  replace hc_z := rn_istore (am_cur_of (i := (76, 2, .istore 7, (0, 0, 0), 0)) (by decide +kernel)) hc_z
  obtain ⟨_, s137_z, s138_z, g7_z, hc_z⟩ := hc_z
  replace g0_z := s137_z 0 _ (by decide) rfl g0_z
  replace g1_z := s137_z 1 _ (by decide) rfl g1_z
  replace g2_z := s137_z 2 _ (by decide) rfl g2_z
  replace g3_z := s137_z 3 _ (by decide) rfl g3_z
  replace g4_z := s137_z 4 _ (by decide) rfl g4_z
  replace g5_z := s137_z 5 _ (by decide) rfl g5_z
  replace g6_z := s137_z 6 _ (by decide) rfl g6_z
  clear s137_z s138_z
  replace hc_z := rn_aload_n (am_cur_of (i := (78, 1, .aload_n 0, (0, 0, 0), 0)) (by decide +kernel)) g0_z hc_z
  replace hc_z := rn_getR (x := 165) (am_cur_of (i := (79, 3, .getfield 7, (12, 0, 1384), 0)) (by decide +kernel)) (by decide +kernel) hc_z
  replace hc_z := rn_aload_n (am_cur_of (i := (82, 1, .aload_n 0, (0, 0, 0), 0)) (by decide +kernel)) g0_z hc_z
  replace hc_z := rn_getI (v := t) (am_cur_of (i := (83, 3, .getfield 142, (12, 1, 1385), 0)) (by decide +kernel)) (by decide +kernel) et hc_z
  replace hc_z := rn_iload (am_cur_of (i := (86, 2, .iload 6, (0, 0, 0), 0)) (by decide +kernel)) g6_z hc_z
  replace hc_z := rn_iadd (w := t + 16) (am_cur_of (i := (88, 1, .iadd, (0, 0, 0), 0)) (by decide +kernel)) rfl hc_z
  replace hc_z := rn_iload (am_cur_of (i := (89, 2, .iload 7, (0, 0, 0), 0)) (by decide +kernel)) g7_z hc_z
  replace hc_z := rn_bipush (w := 24) (am_cur_of (i := (91, 2, .bipush 24, (0, 0, 0), 0)) (by decide +kernel)) (by decide) hc_z
  replace hc_z := rn_bipush (w := 8) (am_cur_of (i := (93, 2, .bipush 8, (0, 0, 0), 0)) (by decide +kernel)) (by decide) hc_z
  replace hc_z := rn_iload (am_cur_of (i := (95, 2, .iload 6, (0, 0, 0), 0)) (by decide +kernel)) g6_z hc_z
  replace hc_z := rn_iconst (w := 4) (am_cur_of (i := (97, 1, .iconst 4, (0, 0, 0), 0)) (by decide +kernel)) (by decide) hc_z
  replace hc_z := rn_irem (w := 0) (am_cur_of (i := (98, 1, .irem, (0, 0, 0), 0)) (by decide +kernel)) (by decide) hc_z
  obtain ⟨d139_z, hc_z⟩ := hc_z
  replace hc_z := rn_imul (w := 0) (am_cur_of (i := (99, 1, .imul, (0, 0, 0), 0)) (by decide +kernel)) (by decide) hc_z
  replace hc_z := rn_isub (w := 24) (am_cur_of (i := (100, 1, .isub, (0, 0, 0), 0)) (by decide +kernel)) (by decide) hc_z
  replace hc_z := rn_ishr (w := e >>> (24 &&& 31)) (am_cur_of (i := (101, 1, .ishr, (0, 0, 0), 0)) (by decide +kernel)) rfl hc_z
  replace hc_z := rn_sipush (w := 255) (am_cur_of (i := (102, 3, .sipush 255, (0, 0, 0), 0)) (by decide +kernel)) (by decide) hc_z
  replace hc_z := rn_iand (w := (e >>> (24 &&& 31)) &&& 255) (am_cur_of (i := (105, 1, .iand, (0, 0, 0), 0)) (by decide +kernel)) rfl hc_z
  replace hc_z := rn_iastore (N := 700) (q := (t + 16).toNatClampNeg) (am_cur_of (i := (106, 1, .iastore, (0, 0, 0), 0)) (by decide +kernel)) (by decide +kernel) rfl hc_z
  obtain ⟨p140_z, hc_z⟩ := hc_z
  replace hc_z := rn_iinc (w := 17) (am_cur_of (i := (107, 3, .iinc 6 1, (0, 0, 0), 0)) (by decide +kernel)) g6_z (by decide) hc_z
  obtain ⟨_, s141_z, s142_z, g6_z, hc_z⟩ := hc_z
  replace g0_z := s141_z 0 _ (by decide) rfl g0_z
  replace g1_z := s141_z 1 _ (by decide) rfl g1_z
  replace g2_z := s141_z 2 _ (by decide) rfl g2_z
  replace g3_z := s141_z 3 _ (by decide) rfl g3_z
  replace g4_z := s141_z 4 _ (by decide) rfl g4_z
  replace g5_z := s141_z 5 _ (by decide) rfl g5_z
  replace g7_z := s141_z 7 _ (by decide) rfl g7_z
  clear s141_z s142_z
  replace hc_z := rn_goto (am_cur_of (i := (110, 3, .goto (-87), (13, 0, 0), 0)) (by decide +kernel)) hc_z
  have ix : ((t + 16).toNatClampNeg) = t.toNatClampNeg + 16 := fd_ix 16 (by decide) t0_z t6_z
  have iv : ((e >>> (24 &&& 31)) &&& 255) = rd_fb a b c d e 16 := rd_i (s := 24 - 8 * (16 % 4)) (by decide) (by decide)
  rw [ix, iv] at hc_z
  exact ⟨_, g0_z, g1_z, g2_z, g3_z, g4_z, g5_z, g6_z, hc_z⟩
theorem fd_M17 {n : Nat} {h h' : am_H} {r : Option Value} {t a b c d e : Int32} {ls : am_L} (et : rg_v h 164 1 = t) (t0_z : 0 ≤ t.toInt) (t6_z : t.toInt ≤ 680) (g0_z : am_get ls 0 = some (.ref 164)) (g1_z : am_get ls 1 = some (.int a)) (g2_z : am_get ls 2 = some (.int b)) (g3_z : am_get ls 3 = some (.int c)) (g4_z : am_get ls 4 = some (.int d)) (g5_z : am_get ls 5 = some (.int e)) (g6_z : am_get ls 6 = some (.int 17)) (hc_z : rn n am_m149 13 ls [] h r h') : ∃ ls', am_get ls' 0 = some (.ref 164) ∧ am_get ls' 1 = some (.int a) ∧ am_get ls' 2 = some (.int b) ∧ am_get ls' 3 = some (.int c) ∧ am_get ls' 4 = some (.int d) ∧ am_get ls' 5 = some (.int e) ∧ am_get ls' 6 = some (.int 18) ∧ rn n am_m149 13 ls' [] (am_up h 165 (t.toNatClampNeg + 17) (.int (rd_fb a b c d e 17))) r h' := by
  replace hc_z := rn_iload (am_cur_of (i := (23, 2, .iload 6, (0, 0, 0), 0)) (by decide +kernel)) g6_z hc_z
  replace hc_z := rn_bipush (w := 20) (am_cur_of (i := (25, 2, .bipush 20, (0, 0, 0), 0)) (by decide +kernel)) (by decide) hc_z
  replace hc_z := rn_cmpF (am_cur_of (i := (27, 3, .if_icmp .ge 86, (58, 0, 0), 0)) (by decide +kernel)) (by decide) hc_z
  replace hc_z := rn_iload (am_cur_of (i := (30, 2, .iload 6, (0, 0, 0), 0)) (by decide +kernel)) g6_z hc_z
  replace hc_z := rn_iconst (w := 4) (am_cur_of (i := (32, 1, .iconst 4, (0, 0, 0), 0)) (by decide +kernel)) (by decide) hc_z
  replace hc_z := rn_cmpT (am_cur_of (i := (33, 3, .if_icmp .ge 7, (21, 0, 0), 0)) (by decide +kernel)) (by decide) hc_z
  replace hc_z := rn_iload (am_cur_of (i := (40, 2, .iload 6, (0, 0, 0), 0)) (by decide +kernel)) g6_z hc_z
  replace hc_z := rn_bipush (w := 8) (am_cur_of (i := (42, 2, .bipush 8, (0, 0, 0), 0)) (by decide +kernel)) (by decide) hc_z
  replace hc_z := rn_cmpT (am_cur_of (i := (44, 3, .if_icmp .ge 7, (26, 0, 0), 0)) (by decide +kernel)) (by decide) hc_z
  replace hc_z := rn_iload (am_cur_of (i := (51, 2, .iload 6, (0, 0, 0), 0)) (by decide +kernel)) g6_z hc_z
  replace hc_z := rn_bipush (w := 12) (am_cur_of (i := (53, 2, .bipush 12, (0, 0, 0), 0)) (by decide +kernel)) (by decide) hc_z
  replace hc_z := rn_cmpT (am_cur_of (i := (55, 3, .if_icmp .ge 7, (31, 0, 0), 0)) (by decide +kernel)) (by decide) hc_z
  replace hc_z := rn_iload (am_cur_of (i := (62, 2, .iload 6, (0, 0, 0), 0)) (by decide +kernel)) g6_z hc_z
  replace hc_z := rn_bipush (w := 16) (am_cur_of (i := (64, 2, .bipush 16, (0, 0, 0), 0)) (by decide +kernel)) (by decide) hc_z
  replace hc_z := rn_cmpT (am_cur_of (i := (66, 3, .if_icmp .ge 8, (36, 0, 0), 0)) (by decide +kernel)) (by decide) hc_z
  replace hc_z := rn_iload (am_cur_of (i := (74, 2, .iload 5, (0, 0, 0), 0)) (by decide +kernel)) g5_z hc_z
  replace hc_z := rn_istore (am_cur_of (i := (76, 2, .istore 7, (0, 0, 0), 0)) (by decide +kernel)) hc_z
  obtain ⟨_, s143_z, s144_z, g7_z, hc_z⟩ := hc_z
  replace g0_z := s143_z 0 _ (by decide) rfl g0_z
  replace g1_z := s143_z 1 _ (by decide) rfl g1_z
  replace g2_z := s143_z 2 _ (by decide) rfl g2_z
  replace g3_z := s143_z 3 _ (by decide) rfl g3_z
  replace g4_z := s143_z 4 _ (by decide) rfl g4_z
  replace g5_z := s143_z 5 _ (by decide) rfl g5_z
  replace g6_z := s143_z 6 _ (by decide) rfl g6_z
  clear s143_z s144_z
  replace hc_z := rn_aload_n (am_cur_of (i := (78, 1, .aload_n 0, (0, 0, 0), 0)) (by decide +kernel)) g0_z hc_z
  replace hc_z := rn_getR (x := 165) (am_cur_of (i := (79, 3, .getfield 7, (12, 0, 1384), 0)) (by decide +kernel)) (by decide +kernel) hc_z
  replace hc_z := rn_aload_n (am_cur_of (i := (82, 1, .aload_n 0, (0, 0, 0), 0)) (by decide +kernel)) g0_z hc_z
  replace hc_z := rn_getI (v := t) (am_cur_of (i := (83, 3, .getfield 142, (12, 1, 1385), 0)) (by decide +kernel)) (by decide +kernel) et hc_z
  replace hc_z := rn_iload (am_cur_of (i := (86, 2, .iload 6, (0, 0, 0), 0)) (by decide +kernel)) g6_z hc_z
  replace hc_z := rn_iadd (w := t + 17) (am_cur_of (i := (88, 1, .iadd, (0, 0, 0), 0)) (by decide +kernel)) rfl hc_z
  replace hc_z := rn_iload (am_cur_of (i := (89, 2, .iload 7, (0, 0, 0), 0)) (by decide +kernel)) g7_z hc_z
  replace hc_z := rn_bipush (w := 24) (am_cur_of (i := (91, 2, .bipush 24, (0, 0, 0), 0)) (by decide +kernel)) (by decide) hc_z
  replace hc_z := rn_bipush (w := 8) (am_cur_of (i := (93, 2, .bipush 8, (0, 0, 0), 0)) (by decide +kernel)) (by decide) hc_z
  replace hc_z := rn_iload (am_cur_of (i := (95, 2, .iload 6, (0, 0, 0), 0)) (by decide +kernel)) g6_z hc_z
  replace hc_z := rn_iconst (w := 4) (am_cur_of (i := (97, 1, .iconst 4, (0, 0, 0), 0)) (by decide +kernel)) (by decide) hc_z
  replace hc_z := rn_irem (w := 1) (am_cur_of (i := (98, 1, .irem, (0, 0, 0), 0)) (by decide +kernel)) (by decide) hc_z
  obtain ⟨d145_z, hc_z⟩ := hc_z
  replace hc_z := rn_imul (w := 8) (am_cur_of (i := (99, 1, .imul, (0, 0, 0), 0)) (by decide +kernel)) (by decide) hc_z
  replace hc_z := rn_isub (w := 16) (am_cur_of (i := (100, 1, .isub, (0, 0, 0), 0)) (by decide +kernel)) (by decide) hc_z
  replace hc_z := rn_ishr (w := e >>> (16 &&& 31)) (am_cur_of (i := (101, 1, .ishr, (0, 0, 0), 0)) (by decide +kernel)) rfl hc_z
  replace hc_z := rn_sipush (w := 255) (am_cur_of (i := (102, 3, .sipush 255, (0, 0, 0), 0)) (by decide +kernel)) (by decide) hc_z
  replace hc_z := rn_iand (w := (e >>> (16 &&& 31)) &&& 255) (am_cur_of (i := (105, 1, .iand, (0, 0, 0), 0)) (by decide +kernel)) rfl hc_z
  replace hc_z := rn_iastore (N := 700) (q := (t + 17).toNatClampNeg) (am_cur_of (i := (106, 1, .iastore, (0, 0, 0), 0)) (by decide +kernel)) (by decide +kernel) rfl hc_z
  obtain ⟨p146_z, hc_z⟩ := hc_z
  replace hc_z := rn_iinc (w := 18) (am_cur_of (i := (107, 3, .iinc 6 1, (0, 0, 0), 0)) (by decide +kernel)) g6_z (by decide) hc_z
  obtain ⟨_, s147_z, s148_z, g6_z, hc_z⟩ := hc_z
  replace g0_z := s147_z 0 _ (by decide) rfl g0_z
  replace g1_z := s147_z 1 _ (by decide) rfl g1_z
  replace g2_z := s147_z 2 _ (by decide) rfl g2_z
  replace g3_z := s147_z 3 _ (by decide) rfl g3_z
  replace g4_z := s147_z 4 _ (by decide) rfl g4_z
  replace g5_z := s147_z 5 _ (by decide) rfl g5_z
  replace g7_z := s147_z 7 _ (by decide) rfl g7_z
  clear s147_z s148_z
  replace hc_z := rn_goto (am_cur_of (i := (110, 3, .goto (-87), (13, 0, 0), 0)) (by decide +kernel)) hc_z
  have ix : ((t + 17).toNatClampNeg) = t.toNatClampNeg + 17 := fd_ix 17 (by decide) t0_z t6_z
  have iv : ((e >>> (16 &&& 31)) &&& 255) = rd_fb a b c d e 17 := rd_i (s := 24 - 8 * (17 % 4)) (by decide) (by decide)
  rw [ix, iv] at hc_z
  exact ⟨_, g0_z, g1_z, g2_z, g3_z, g4_z, g5_z, g6_z, hc_z⟩
theorem fd_M18 {n : Nat} {h h' : am_H} {r : Option Value} {t a b c d e : Int32} {ls : am_L} (et : rg_v h 164 1 = t) (t0_z : 0 ≤ t.toInt) (t6_z : t.toInt ≤ 680) (g0_z : am_get ls 0 = some (.ref 164)) (g1_z : am_get ls 1 = some (.int a)) (g2_z : am_get ls 2 = some (.int b)) (g3_z : am_get ls 3 = some (.int c)) (g4_z : am_get ls 4 = some (.int d)) (g5_z : am_get ls 5 = some (.int e)) (g6_z : am_get ls 6 = some (.int 18)) (hc_z : rn n am_m149 13 ls [] h r h') : ∃ ls', am_get ls' 0 = some (.ref 164) ∧ am_get ls' 1 = some (.int a) ∧ am_get ls' 2 = some (.int b) ∧ am_get ls' 3 = some (.int c) ∧ am_get ls' 4 = some (.int d) ∧ am_get ls' 5 = some (.int e) ∧ am_get ls' 6 = some (.int 19) ∧ rn n am_m149 13 ls' [] (am_up h 165 (t.toNatClampNeg + 18) (.int (rd_fb a b c d e 18))) r h' := by
  replace hc_z := rn_iload (am_cur_of (i := (23, 2, .iload 6, (0, 0, 0), 0)) (by decide +kernel)) g6_z hc_z
  replace hc_z := rn_bipush (w := 20) (am_cur_of (i := (25, 2, .bipush 20, (0, 0, 0), 0)) (by decide +kernel)) (by decide) hc_z
  replace hc_z := rn_cmpF (am_cur_of (i := (27, 3, .if_icmp .ge 86, (58, 0, 0), 0)) (by decide +kernel)) (by decide) hc_z
  replace hc_z := rn_iload (am_cur_of (i := (30, 2, .iload 6, (0, 0, 0), 0)) (by decide +kernel)) g6_z hc_z
  replace hc_z := rn_iconst (w := 4) (am_cur_of (i := (32, 1, .iconst 4, (0, 0, 0), 0)) (by decide +kernel)) (by decide) hc_z
  replace hc_z := rn_cmpT (am_cur_of (i := (33, 3, .if_icmp .ge 7, (21, 0, 0), 0)) (by decide +kernel)) (by decide) hc_z
  replace hc_z := rn_iload (am_cur_of (i := (40, 2, .iload 6, (0, 0, 0), 0)) (by decide +kernel)) g6_z hc_z
  replace hc_z := rn_bipush (w := 8) (am_cur_of (i := (42, 2, .bipush 8, (0, 0, 0), 0)) (by decide +kernel)) (by decide) hc_z
  replace hc_z := rn_cmpT (am_cur_of (i := (44, 3, .if_icmp .ge 7, (26, 0, 0), 0)) (by decide +kernel)) (by decide) hc_z
  replace hc_z := rn_iload (am_cur_of (i := (51, 2, .iload 6, (0, 0, 0), 0)) (by decide +kernel)) g6_z hc_z
  replace hc_z := rn_bipush (w := 12) (am_cur_of (i := (53, 2, .bipush 12, (0, 0, 0), 0)) (by decide +kernel)) (by decide) hc_z
  replace hc_z := rn_cmpT (am_cur_of (i := (55, 3, .if_icmp .ge 7, (31, 0, 0), 0)) (by decide +kernel)) (by decide) hc_z
  replace hc_z := rn_iload (am_cur_of (i := (62, 2, .iload 6, (0, 0, 0), 0)) (by decide +kernel)) g6_z hc_z
  replace hc_z := rn_bipush (w := 16) (am_cur_of (i := (64, 2, .bipush 16, (0, 0, 0), 0)) (by decide +kernel)) (by decide) hc_z
  replace hc_z := rn_cmpT (am_cur_of (i := (66, 3, .if_icmp .ge 8, (36, 0, 0), 0)) (by decide +kernel)) (by decide) hc_z
  replace hc_z := rn_iload (am_cur_of (i := (74, 2, .iload 5, (0, 0, 0), 0)) (by decide +kernel)) g5_z hc_z
  replace hc_z := rn_istore (am_cur_of (i := (76, 2, .istore 7, (0, 0, 0), 0)) (by decide +kernel)) hc_z
  obtain ⟨_, s149_z, s150_z, g7_z, hc_z⟩ := hc_z
  replace g0_z := s149_z 0 _ (by decide) rfl g0_z
  replace g1_z := s149_z 1 _ (by decide) rfl g1_z
  replace g2_z := s149_z 2 _ (by decide) rfl g2_z
  replace g3_z := s149_z 3 _ (by decide) rfl g3_z
  replace g4_z := s149_z 4 _ (by decide) rfl g4_z
  replace g5_z := s149_z 5 _ (by decide) rfl g5_z
  replace g6_z := s149_z 6 _ (by decide) rfl g6_z
  clear s149_z s150_z
  replace hc_z := rn_aload_n (am_cur_of (i := (78, 1, .aload_n 0, (0, 0, 0), 0)) (by decide +kernel)) g0_z hc_z
  replace hc_z := rn_getR (x := 165) (am_cur_of (i := (79, 3, .getfield 7, (12, 0, 1384), 0)) (by decide +kernel)) (by decide +kernel) hc_z
  replace hc_z := rn_aload_n (am_cur_of (i := (82, 1, .aload_n 0, (0, 0, 0), 0)) (by decide +kernel)) g0_z hc_z
  replace hc_z := rn_getI (v := t) (am_cur_of (i := (83, 3, .getfield 142, (12, 1, 1385), 0)) (by decide +kernel)) (by decide +kernel) et hc_z
  replace hc_z := rn_iload (am_cur_of (i := (86, 2, .iload 6, (0, 0, 0), 0)) (by decide +kernel)) g6_z hc_z
  replace hc_z := rn_iadd (w := t + 18) (am_cur_of (i := (88, 1, .iadd, (0, 0, 0), 0)) (by decide +kernel)) rfl hc_z
  replace hc_z := rn_iload (am_cur_of (i := (89, 2, .iload 7, (0, 0, 0), 0)) (by decide +kernel)) g7_z hc_z
  replace hc_z := rn_bipush (w := 24) (am_cur_of (i := (91, 2, .bipush 24, (0, 0, 0), 0)) (by decide +kernel)) (by decide) hc_z
  replace hc_z := rn_bipush (w := 8) (am_cur_of (i := (93, 2, .bipush 8, (0, 0, 0), 0)) (by decide +kernel)) (by decide) hc_z
  replace hc_z := rn_iload (am_cur_of (i := (95, 2, .iload 6, (0, 0, 0), 0)) (by decide +kernel)) g6_z hc_z
  replace hc_z := rn_iconst (w := 4) (am_cur_of (i := (97, 1, .iconst 4, (0, 0, 0), 0)) (by decide +kernel)) (by decide) hc_z
  replace hc_z := rn_irem (w := 2) (am_cur_of (i := (98, 1, .irem, (0, 0, 0), 0)) (by decide +kernel)) (by decide) hc_z
  obtain ⟨d151_z, hc_z⟩ := hc_z
  replace hc_z := rn_imul (w := 16) (am_cur_of (i := (99, 1, .imul, (0, 0, 0), 0)) (by decide +kernel)) (by decide) hc_z
  replace hc_z := rn_isub (w := 8) (am_cur_of (i := (100, 1, .isub, (0, 0, 0), 0)) (by decide +kernel)) (by decide) hc_z
  replace hc_z := rn_ishr (w := e >>> (8 &&& 31)) (am_cur_of (i := (101, 1, .ishr, (0, 0, 0), 0)) (by decide +kernel)) rfl hc_z
  replace hc_z := rn_sipush (w := 255) (am_cur_of (i := (102, 3, .sipush 255, (0, 0, 0), 0)) (by decide +kernel)) (by decide) hc_z
  replace hc_z := rn_iand (w := (e >>> (8 &&& 31)) &&& 255) (am_cur_of (i := (105, 1, .iand, (0, 0, 0), 0)) (by decide +kernel)) rfl hc_z
  replace hc_z := rn_iastore (N := 700) (q := (t + 18).toNatClampNeg) (am_cur_of (i := (106, 1, .iastore, (0, 0, 0), 0)) (by decide +kernel)) (by decide +kernel) rfl hc_z
  obtain ⟨p152_z, hc_z⟩ := hc_z
  replace hc_z := rn_iinc (w := 19) (am_cur_of (i := (107, 3, .iinc 6 1, (0, 0, 0), 0)) (by decide +kernel)) g6_z (by decide) hc_z
  obtain ⟨_, s153_z, s154_z, g6_z, hc_z⟩ := hc_z
  replace g0_z := s153_z 0 _ (by decide) rfl g0_z
  replace g1_z := s153_z 1 _ (by decide) rfl g1_z
  replace g2_z := s153_z 2 _ (by decide) rfl g2_z
  replace g3_z := s153_z 3 _ (by decide) rfl g3_z
  replace g4_z := s153_z 4 _ (by decide) rfl g4_z
  replace g5_z := s153_z 5 _ (by decide) rfl g5_z
  replace g7_z := s153_z 7 _ (by decide) rfl g7_z
  clear s153_z s154_z
  replace hc_z := rn_goto (am_cur_of (i := (110, 3, .goto (-87), (13, 0, 0), 0)) (by decide +kernel)) hc_z
  have ix : ((t + 18).toNatClampNeg) = t.toNatClampNeg + 18 := fd_ix 18 (by decide) t0_z t6_z
  have iv : ((e >>> (8 &&& 31)) &&& 255) = rd_fb a b c d e 18 := rd_i (s := 24 - 8 * (18 % 4)) (by decide) (by decide)
  rw [ix, iv] at hc_z
  exact ⟨_, g0_z, g1_z, g2_z, g3_z, g4_z, g5_z, g6_z, hc_z⟩
theorem fd_M19 {n : Nat} {h h' : am_H} {r : Option Value} {t a b c d e : Int32} {ls : am_L} (et : rg_v h 164 1 = t) (t0_z : 0 ≤ t.toInt) (t6_z : t.toInt ≤ 680) (g0_z : am_get ls 0 = some (.ref 164)) (g1_z : am_get ls 1 = some (.int a)) (g2_z : am_get ls 2 = some (.int b)) (g3_z : am_get ls 3 = some (.int c)) (g4_z : am_get ls 4 = some (.int d)) (g5_z : am_get ls 5 = some (.int e)) (g6_z : am_get ls 6 = some (.int 19)) (hc_z : rn n am_m149 13 ls [] h r h') : ∃ ls', am_get ls' 0 = some (.ref 164) ∧ am_get ls' 1 = some (.int a) ∧ am_get ls' 2 = some (.int b) ∧ am_get ls' 3 = some (.int c) ∧ am_get ls' 4 = some (.int d) ∧ am_get ls' 5 = some (.int e) ∧ am_get ls' 6 = some (.int 20) ∧ rn n am_m149 13 ls' [] (am_up h 165 (t.toNatClampNeg + 19) (.int (rd_fb a b c d e 19))) r h' := by
  replace hc_z := rn_iload (am_cur_of (i := (23, 2, .iload 6, (0, 0, 0), 0)) (by decide +kernel)) g6_z hc_z
  replace hc_z := rn_bipush (w := 20) (am_cur_of (i := (25, 2, .bipush 20, (0, 0, 0), 0)) (by decide +kernel)) (by decide) hc_z
  replace hc_z := rn_cmpF (am_cur_of (i := (27, 3, .if_icmp .ge 86, (58, 0, 0), 0)) (by decide +kernel)) (by decide) hc_z
  replace hc_z := rn_iload (am_cur_of (i := (30, 2, .iload 6, (0, 0, 0), 0)) (by decide +kernel)) g6_z hc_z
  replace hc_z := rn_iconst (w := 4) (am_cur_of (i := (32, 1, .iconst 4, (0, 0, 0), 0)) (by decide +kernel)) (by decide) hc_z
  replace hc_z := rn_cmpT (am_cur_of (i := (33, 3, .if_icmp .ge 7, (21, 0, 0), 0)) (by decide +kernel)) (by decide) hc_z
  replace hc_z := rn_iload (am_cur_of (i := (40, 2, .iload 6, (0, 0, 0), 0)) (by decide +kernel)) g6_z hc_z
  replace hc_z := rn_bipush (w := 8) (am_cur_of (i := (42, 2, .bipush 8, (0, 0, 0), 0)) (by decide +kernel)) (by decide) hc_z
  replace hc_z := rn_cmpT (am_cur_of (i := (44, 3, .if_icmp .ge 7, (26, 0, 0), 0)) (by decide +kernel)) (by decide) hc_z
  replace hc_z := rn_iload (am_cur_of (i := (51, 2, .iload 6, (0, 0, 0), 0)) (by decide +kernel)) g6_z hc_z
  replace hc_z := rn_bipush (w := 12) (am_cur_of (i := (53, 2, .bipush 12, (0, 0, 0), 0)) (by decide +kernel)) (by decide) hc_z
  replace hc_z := rn_cmpT (am_cur_of (i := (55, 3, .if_icmp .ge 7, (31, 0, 0), 0)) (by decide +kernel)) (by decide) hc_z
  replace hc_z := rn_iload (am_cur_of (i := (62, 2, .iload 6, (0, 0, 0), 0)) (by decide +kernel)) g6_z hc_z
  replace hc_z := rn_bipush (w := 16) (am_cur_of (i := (64, 2, .bipush 16, (0, 0, 0), 0)) (by decide +kernel)) (by decide) hc_z
  replace hc_z := rn_cmpT (am_cur_of (i := (66, 3, .if_icmp .ge 8, (36, 0, 0), 0)) (by decide +kernel)) (by decide) hc_z
  replace hc_z := rn_iload (am_cur_of (i := (74, 2, .iload 5, (0, 0, 0), 0)) (by decide +kernel)) g5_z hc_z
  replace hc_z := rn_istore (am_cur_of (i := (76, 2, .istore 7, (0, 0, 0), 0)) (by decide +kernel)) hc_z
  obtain ⟨_, s155_z, s156_z, g7_z, hc_z⟩ := hc_z
  replace g0_z := s155_z 0 _ (by decide) rfl g0_z
  replace g1_z := s155_z 1 _ (by decide) rfl g1_z
  replace g2_z := s155_z 2 _ (by decide) rfl g2_z
  replace g3_z := s155_z 3 _ (by decide) rfl g3_z
  replace g4_z := s155_z 4 _ (by decide) rfl g4_z
  replace g5_z := s155_z 5 _ (by decide) rfl g5_z
  replace g6_z := s155_z 6 _ (by decide) rfl g6_z
  clear s155_z s156_z
  replace hc_z := rn_aload_n (am_cur_of (i := (78, 1, .aload_n 0, (0, 0, 0), 0)) (by decide +kernel)) g0_z hc_z
  replace hc_z := rn_getR (x := 165) (am_cur_of (i := (79, 3, .getfield 7, (12, 0, 1384), 0)) (by decide +kernel)) (by decide +kernel) hc_z
  replace hc_z := rn_aload_n (am_cur_of (i := (82, 1, .aload_n 0, (0, 0, 0), 0)) (by decide +kernel)) g0_z hc_z
  replace hc_z := rn_getI (v := t) (am_cur_of (i := (83, 3, .getfield 142, (12, 1, 1385), 0)) (by decide +kernel)) (by decide +kernel) et hc_z
  replace hc_z := rn_iload (am_cur_of (i := (86, 2, .iload 6, (0, 0, 0), 0)) (by decide +kernel)) g6_z hc_z
  replace hc_z := rn_iadd (w := t + 19) (am_cur_of (i := (88, 1, .iadd, (0, 0, 0), 0)) (by decide +kernel)) rfl hc_z
  replace hc_z := rn_iload (am_cur_of (i := (89, 2, .iload 7, (0, 0, 0), 0)) (by decide +kernel)) g7_z hc_z
  replace hc_z := rn_bipush (w := 24) (am_cur_of (i := (91, 2, .bipush 24, (0, 0, 0), 0)) (by decide +kernel)) (by decide) hc_z
  replace hc_z := rn_bipush (w := 8) (am_cur_of (i := (93, 2, .bipush 8, (0, 0, 0), 0)) (by decide +kernel)) (by decide) hc_z
  replace hc_z := rn_iload (am_cur_of (i := (95, 2, .iload 6, (0, 0, 0), 0)) (by decide +kernel)) g6_z hc_z
  replace hc_z := rn_iconst (w := 4) (am_cur_of (i := (97, 1, .iconst 4, (0, 0, 0), 0)) (by decide +kernel)) (by decide) hc_z
  replace hc_z := rn_irem (w := 3) (am_cur_of (i := (98, 1, .irem, (0, 0, 0), 0)) (by decide +kernel)) (by decide) hc_z
  obtain ⟨d157_z, hc_z⟩ := hc_z
  replace hc_z := rn_imul (w := 24) (am_cur_of (i := (99, 1, .imul, (0, 0, 0), 0)) (by decide +kernel)) (by decide) hc_z
  replace hc_z := rn_isub (w := 0) (am_cur_of (i := (100, 1, .isub, (0, 0, 0), 0)) (by decide +kernel)) (by decide) hc_z
  replace hc_z := rn_ishr (w := e >>> (0 &&& 31)) (am_cur_of (i := (101, 1, .ishr, (0, 0, 0), 0)) (by decide +kernel)) rfl hc_z
  replace hc_z := rn_sipush (w := 255) (am_cur_of (i := (102, 3, .sipush 255, (0, 0, 0), 0)) (by decide +kernel)) (by decide) hc_z
  replace hc_z := rn_iand (w := (e >>> (0 &&& 31)) &&& 255) (am_cur_of (i := (105, 1, .iand, (0, 0, 0), 0)) (by decide +kernel)) rfl hc_z
  replace hc_z := rn_iastore (N := 700) (q := (t + 19).toNatClampNeg) (am_cur_of (i := (106, 1, .iastore, (0, 0, 0), 0)) (by decide +kernel)) (by decide +kernel) rfl hc_z
  obtain ⟨p158_z, hc_z⟩ := hc_z
  replace hc_z := rn_iinc (w := 20) (am_cur_of (i := (107, 3, .iinc 6 1, (0, 0, 0), 0)) (by decide +kernel)) g6_z (by decide) hc_z
  obtain ⟨_, s159_z, s160_z, g6_z, hc_z⟩ := hc_z
  replace g0_z := s159_z 0 _ (by decide) rfl g0_z
  replace g1_z := s159_z 1 _ (by decide) rfl g1_z
  replace g2_z := s159_z 2 _ (by decide) rfl g2_z
  replace g3_z := s159_z 3 _ (by decide) rfl g3_z
  replace g4_z := s159_z 4 _ (by decide) rfl g4_z
  replace g5_z := s159_z 5 _ (by decide) rfl g5_z
  replace g7_z := s159_z 7 _ (by decide) rfl g7_z
  clear s159_z s160_z
  replace hc_z := rn_goto (am_cur_of (i := (110, 3, .goto (-87), (13, 0, 0), 0)) (by decide +kernel)) hc_z
  have ix : ((t + 19).toNatClampNeg) = t.toNatClampNeg + 19 := fd_ix 19 (by decide) t0_z t6_z
  have iv : ((e >>> (0 &&& 31)) &&& 255) = rd_fb a b c d e 19 := rd_i (s := 24 - 8 * (19 % 4)) (by decide) (by decide)
  rw [ix, iv] at hc_z
  exact ⟨_, g0_z, g1_z, g2_z, g3_z, g4_z, g5_z, g6_z, hc_z⟩
theorem fd_My {n : Nat} {h g h' : am_H} {r : Option Value} {t a b c d e : Int32} {ls : am_L} (eg : rg_v g 164 1 = t) (es_z : g = fd_st (am_up h 164 2 (.int 0)) 165 t.toNatClampNeg [rd_fb a b c d e 0, rd_fb a b c d e 1, rd_fb a b c d e 2, rd_fb a b c d e 3, rd_fb a b c d e 4, rd_fb a b c d e 5, rd_fb a b c d e 6, rd_fb a b c d e 7, rd_fb a b c d e 8, rd_fb a b c d e 9, rd_fb a b c d e 10, rd_fb a b c d e 11, rd_fb a b c d e 12, rd_fb a b c d e 13, rd_fb a b c d e 14, rd_fb a b c d e 15, rd_fb a b c d e 16, rd_fb a b c d e 17, rd_fb a b c d e 18, rd_fb a b c d e 19]) (t0_z : 0 ≤ t.toInt) (t6_z : t.toInt ≤ 680) (g0_z : am_get ls 0 = some (.ref 164)) (g6_z : am_get ls 6 = some (.int 20)) (hc_z : rn n am_m149 13 ls [] g r h') : ∃ t', rg_v h' 164 1 = t' ∧ t'.toInt = t.toInt + 20 ∧ (∀ k, k < t.toNatClampNeg → rg_v h' 165 k = rg_v h 165 k) ∧ ∀ j, j < 20 → rg_v h' 165 (t.toNatClampNeg + j) = rd_fb a b c d e j := by
  have z20_z : (20 : Int32).toInt = 20 := by decide
  have z680_z : (680 : Int32).toInt = 680 := by decide
  have y20_z := ab_iadd (x := t) (y := 20) (by omega) (by omega)
  replace hc_z := rn_iload (am_cur_of (i := (23, 2, .iload 6, (0, 0, 0), 0)) (by decide +kernel)) g6_z hc_z
  replace hc_z := rn_bipush (w := 20) (am_cur_of (i := (25, 2, .bipush 20, (0, 0, 0), 0)) (by decide +kernel)) (by decide) hc_z
  replace hc_z := rn_cmpT (am_cur_of (i := (27, 3, .if_icmp .ge 86, (58, 0, 0), 0)) (by decide +kernel)) (by decide) hc_z
  replace hc_z := rn_aload_n (am_cur_of (i := (113, 1, .aload_n 0, (0, 0, 0), 0)) (by decide +kernel)) g0_z hc_z
  replace hc_z := rn_dup (am_cur_of (i := (114, 1, .dup, (0, 0, 0), 0)) (by decide +kernel)) hc_z
  replace hc_z := rn_getI (v := t) (am_cur_of (i := (115, 3, .getfield 142, (12, 1, 1385), 0)) (by decide +kernel)) (by decide +kernel) eg hc_z
  replace hc_z := rn_bipush (w := 20) (am_cur_of (i := (118, 2, .bipush 20, (0, 0, 0), 0)) (by decide +kernel)) (by decide) hc_z
  replace hc_z := rn_iadd (w := t + 20) (am_cur_of (i := (120, 1, .iadd, (0, 0, 0), 0)) (by decide +kernel)) rfl hc_z
  replace hc_z := rn_put (am_cur_of (i := (121, 3, .putfield 142, (12, 1, 1385), 0)) (by decide +kernel)) (by decide +kernel) hc_z
  replace hc_z := rn_aload_n (am_cur_of (i := (124, 1, .aload_n 0, (0, 0, 0), 0)) (by decide +kernel)) g0_z hc_z
  replace hc_z := rn_getI (v := t + 20) (am_cur_of (i := (125, 3, .getfield 142, (12, 1, 1385), 0)) (by decide +kernel)) (by decide +kernel) (show rg_v (am_up g 164 1 (.int (t + 20))) 164 1 = t + 20 from rfl) hc_z
  replace hc_z := rn_iret (am_cur_of (i := (128, 1, .ireturn, (0, 0, 0), 0)) (by decide +kernel)) hc_z
  obtain ⟨e166_z, e167_z⟩ := hc_z
  subst e167_z
  refine ⟨t + 20, rfl, by omega, fun k hk_z => ?_, fun j hj_z => ?_⟩
  · refine (rg_v_other (by omega)).trans ?_
    rw [es_z]
    exact (fd_lt _ _ _ hk_z).trans rfl
  · refine (rg_v_other (by omega)).trans ?_
    rw [es_z]
    refine (fd_at _ _ _ _ hj_z).trans ?_
    have hj20_z : j = 0 ∨ j = 1 ∨ j = 2 ∨ j = 3 ∨ j = 4 ∨ j = 5 ∨ j = 6 ∨ j = 7 ∨ j = 8 ∨ j = 9 ∨ j = 10 ∨ j = 11 ∨ j = 12 ∨ j = 13 ∨ j = 14 ∨ j = 15 ∨ j = 16 ∨ j = 17 ∨ j = 18 ∨ j = 19 := by omega
    rcases hj20_z with rfl | rfl | rfl | rfl | rfl | rfl | rfl | rfl | rfl | rfl | rfl | rfl | rfl | rfl | rfl | rfl | rfl | rfl | rfl | rfl <;> rfl
theorem fd_Mz {n : Nat} {h h' : am_H} {r : Option Value} {t a b c d e : Int32} {ls : am_L} (et : rg_v h 164 1 = t) (t0_z : 0 ≤ t.toInt) (t6_z : t.toInt ≤ 680) (g0_z : am_get ls 0 = some (.ref 164)) (g6_z : am_get ls 6 = some (.int 20)) (hc_z : rn n am_m149 13 ls [] (am_up (am_up (am_up (am_up (am_up (am_up (am_up (am_up (am_up (am_up (am_up (am_up (am_up (am_up (am_up (am_up (am_up (am_up (am_up (am_up (am_up h 164 2 (.int 0)) 165 (t.toNatClampNeg + 0) (.int (rd_fb a b c d e 0))) 165 (t.toNatClampNeg + 1) (.int (rd_fb a b c d e 1))) 165 (t.toNatClampNeg + 2) (.int (rd_fb a b c d e 2))) 165 (t.toNatClampNeg + 3) (.int (rd_fb a b c d e 3))) 165 (t.toNatClampNeg + 4) (.int (rd_fb a b c d e 4))) 165 (t.toNatClampNeg + 5) (.int (rd_fb a b c d e 5))) 165 (t.toNatClampNeg + 6) (.int (rd_fb a b c d e 6))) 165 (t.toNatClampNeg + 7) (.int (rd_fb a b c d e 7))) 165 (t.toNatClampNeg + 8) (.int (rd_fb a b c d e 8))) 165 (t.toNatClampNeg + 9) (.int (rd_fb a b c d e 9))) 165 (t.toNatClampNeg + 10) (.int (rd_fb a b c d e 10))) 165 (t.toNatClampNeg + 11) (.int (rd_fb a b c d e 11))) 165 (t.toNatClampNeg + 12) (.int (rd_fb a b c d e 12))) 165 (t.toNatClampNeg + 13) (.int (rd_fb a b c d e 13))) 165 (t.toNatClampNeg + 14) (.int (rd_fb a b c d e 14))) 165 (t.toNatClampNeg + 15) (.int (rd_fb a b c d e 15))) 165 (t.toNatClampNeg + 16) (.int (rd_fb a b c d e 16))) 165 (t.toNatClampNeg + 17) (.int (rd_fb a b c d e 17))) 165 (t.toNatClampNeg + 18) (.int (rd_fb a b c d e 18))) 165 (t.toNatClampNeg + 19) (.int (rd_fb a b c d e 19))) r h') : ∃ t', rg_v h' 164 1 = t' ∧ t'.toInt = t.toInt + 20 ∧ (∀ k, k < t.toNatClampNeg → rg_v h' 165 k = rg_v h 165 k) ∧ ∀ j, j < 20 → rg_v h' 165 (t.toNatClampNeg + j) = rd_fb a b c d e j :=
  fd_My (h := h) (g := (am_up (am_up (am_up (am_up (am_up (am_up (am_up (am_up (am_up (am_up (am_up (am_up (am_up (am_up (am_up (am_up (am_up (am_up (am_up (am_up (am_up h 164 2 (.int 0)) 165 (t.toNatClampNeg + 0) (.int (rd_fb a b c d e 0))) 165 (t.toNatClampNeg + 1) (.int (rd_fb a b c d e 1))) 165 (t.toNatClampNeg + 2) (.int (rd_fb a b c d e 2))) 165 (t.toNatClampNeg + 3) (.int (rd_fb a b c d e 3))) 165 (t.toNatClampNeg + 4) (.int (rd_fb a b c d e 4))) 165 (t.toNatClampNeg + 5) (.int (rd_fb a b c d e 5))) 165 (t.toNatClampNeg + 6) (.int (rd_fb a b c d e 6))) 165 (t.toNatClampNeg + 7) (.int (rd_fb a b c d e 7))) 165 (t.toNatClampNeg + 8) (.int (rd_fb a b c d e 8))) 165 (t.toNatClampNeg + 9) (.int (rd_fb a b c d e 9))) 165 (t.toNatClampNeg + 10) (.int (rd_fb a b c d e 10))) 165 (t.toNatClampNeg + 11) (.int (rd_fb a b c d e 11))) 165 (t.toNatClampNeg + 12) (.int (rd_fb a b c d e 12))) 165 (t.toNatClampNeg + 13) (.int (rd_fb a b c d e 13))) 165 (t.toNatClampNeg + 14) (.int (rd_fb a b c d e 14))) 165 (t.toNatClampNeg + 15) (.int (rd_fb a b c d e 15))) 165 (t.toNatClampNeg + 16) (.int (rd_fb a b c d e 16))) 165 (t.toNatClampNeg + 17) (.int (rd_fb a b c d e 17))) 165 (t.toNatClampNeg + 18) (.int (rd_fb a b c d e 18))) 165 (t.toNatClampNeg + 19) (.int (rd_fb a b c d e 19)))) et rfl t0_z t6_z g0_z g6_z hc_z
theorem fd_M {n : Nat} {h h' : am_H} {r : Option Value} {t a b c d e : Int32} (et : rg_v h 164 1 = t) (t0_z : 0 ≤ t.toInt) (t7_z : t.toInt ≤ 700) (hc_z : rn n am_m149 0 (lv_args 0 [.ref 164, .int a, .int b, .int c, .int d, .int e]) [] h r h') : (680 < t.toInt ∧ (∀ k, rg_v h' 165 k = rg_v h 165 k) ∧ rg_v h' 164 1 = t) ∨ (t.toInt ≤ 680 ∧ ∃ t', rg_v h' 164 1 = t' ∧ t'.toInt = t.toInt + 20 ∧ (∀ k, k < t.toNatClampNeg → rg_v h' 165 k = rg_v h 165 k) ∧ ∀ j, j < 20 → rg_v h' 165 (t.toNatClampNeg + j) = rd_fb a b c d e j) := by
  have z20_z : (20 : Int32).toInt = 20 := by decide
  have z680_z : (680 : Int32).toInt = 680 := by decide
  have z700_z : (700 : Int32).toInt = 700 := by decide
  have g0_z : am_get (lv_args 0 [.ref 164, .int a, .int b, .int c, .int d, .int e]) 0 = some (.ref 164) := rfl
  have g1_z : am_get (lv_args 0 [.ref 164, .int a, .int b, .int c, .int d, .int e]) 1 = some (.int a) := rfl
  have g2_z : am_get (lv_args 0 [.ref 164, .int a, .int b, .int c, .int d, .int e]) 2 = some (.int b) := rfl
  have g3_z : am_get (lv_args 0 [.ref 164, .int a, .int b, .int c, .int d, .int e]) 3 = some (.int c) := rfl
  have g4_z : am_get (lv_args 0 [.ref 164, .int a, .int b, .int c, .int d, .int e]) 4 = some (.int d) := rfl
  have g5_z : am_get (lv_args 0 [.ref 164, .int a, .int b, .int c, .int d, .int e]) 5 = some (.int e) := rfl
  have y20_z := ab_iadd (x := t) (y := 20) (by omega) (by omega)
  replace hc_z := rn_aload_n (am_cur_of (i := (0, 1, .aload_n 0, (0, 0, 0), 0)) (by decide +kernel)) g0_z hc_z
  replace hc_z := rn_iconst (w := 0) (am_cur_of (i := (1, 1, .iconst 0, (0, 0, 0), 0)) (by decide +kernel)) (by decide) hc_z
  replace hc_z := rn_put (am_cur_of (i := (2, 3, .putfield 139, (12, 2, 1386), 0)) (by decide +kernel)) (by decide +kernel) hc_z
  replace hc_z := rn_aload_n (am_cur_of (i := (5, 1, .aload_n 0, (0, 0, 0), 0)) (by decide +kernel)) g0_z hc_z
  replace hc_z := rn_getI (v := t) (am_cur_of (i := (6, 3, .getfield 142, (12, 1, 1385), 0)) (by decide +kernel)) (by decide +kernel) (show rg_v (am_up h 164 2 (.int 0)) 164 1 = t from et) hc_z
  replace hc_z := rn_bipush (w := 20) (am_cur_of (i := (9, 2, .bipush 20, (0, 0, 0), 0)) (by decide +kernel)) (by decide) hc_z
  replace hc_z := rn_iadd (w := t + 20) (am_cur_of (i := (11, 1, .iadd, (0, 0, 0), 0)) (by decide +kernel)) rfl hc_z
  replace hc_z := rn_sipush (w := 700) (am_cur_of (i := (12, 3, .sipush 700, (0, 0, 0), 0)) (by decide +kernel)) (by decide) hc_z
  replace hc_z := rn_cmp (am_cur_of (i := (15, 3, .if_icmp .le 5, (11, 0, 0), 0)) (by decide +kernel)) hc_z
  rcases hc_z with ⟨b161_z, hc_z⟩ | ⟨b161_z, hc_z⟩
  · replace b161_z : (t + 20).toInt ≤ (700 : Int32).toInt := b161_z
    replace hc_z := rn_iconst (w := 0) (am_cur_of (i := (20, 1, .iconst 0, (0, 0, 0), 0)) (by decide +kernel)) (by decide) hc_z
    replace hc_z := rn_istore (am_cur_of (i := (21, 2, .istore 6, (0, 0, 0), 0)) (by decide +kernel)) hc_z
    obtain ⟨_, s162_z, s163_z, g6_z, hc_z⟩ := hc_z
    replace g0_z := s162_z 0 _ (by decide) rfl g0_z
    replace g1_z := s162_z 1 _ (by decide) rfl g1_z
    replace g2_z := s162_z 2 _ (by decide) rfl g2_z
    replace g3_z := s162_z 3 _ (by decide) rfl g3_z
    replace g4_z := s162_z 4 _ (by decide) rfl g4_z
    replace g5_z := s162_z 5 _ (by decide) rfl g5_z
    clear s162_z s163_z
    have t6_z : t.toInt ≤ 680 := by omega
    obtain ⟨_, g0_z, g1_z, g2_z, g3_z, g4_z, g5_z, g6_z, hc_z⟩ := fd_M0 (h := (am_up h 164 2 (.int 0))) (t := t) et t0_z t6_z g0_z g1_z g2_z g3_z g4_z g5_z g6_z hc_z
    obtain ⟨_, g0_z, g1_z, g2_z, g3_z, g4_z, g5_z, g6_z, hc_z⟩ := fd_M1 (h := (am_up (am_up h 164 2 (.int 0)) 165 (t.toNatClampNeg + 0) (.int (rd_fb a b c d e 0)))) (t := t) et t0_z t6_z g0_z g1_z g2_z g3_z g4_z g5_z g6_z hc_z
    obtain ⟨_, g0_z, g1_z, g2_z, g3_z, g4_z, g5_z, g6_z, hc_z⟩ := fd_M2 (h := (am_up (am_up (am_up h 164 2 (.int 0)) 165 (t.toNatClampNeg + 0) (.int (rd_fb a b c d e 0))) 165 (t.toNatClampNeg + 1) (.int (rd_fb a b c d e 1)))) (t := t) et t0_z t6_z g0_z g1_z g2_z g3_z g4_z g5_z g6_z hc_z
    obtain ⟨_, g0_z, g1_z, g2_z, g3_z, g4_z, g5_z, g6_z, hc_z⟩ := fd_M3 (h := (am_up (am_up (am_up (am_up h 164 2 (.int 0)) 165 (t.toNatClampNeg + 0) (.int (rd_fb a b c d e 0))) 165 (t.toNatClampNeg + 1) (.int (rd_fb a b c d e 1))) 165 (t.toNatClampNeg + 2) (.int (rd_fb a b c d e 2)))) (t := t) et t0_z t6_z g0_z g1_z g2_z g3_z g4_z g5_z g6_z hc_z
    obtain ⟨_, g0_z, g1_z, g2_z, g3_z, g4_z, g5_z, g6_z, hc_z⟩ := fd_M4 (h := (am_up (am_up (am_up (am_up (am_up h 164 2 (.int 0)) 165 (t.toNatClampNeg + 0) (.int (rd_fb a b c d e 0))) 165 (t.toNatClampNeg + 1) (.int (rd_fb a b c d e 1))) 165 (t.toNatClampNeg + 2) (.int (rd_fb a b c d e 2))) 165 (t.toNatClampNeg + 3) (.int (rd_fb a b c d e 3)))) (t := t) et t0_z t6_z g0_z g1_z g2_z g3_z g4_z g5_z g6_z hc_z
    obtain ⟨_, g0_z, g1_z, g2_z, g3_z, g4_z, g5_z, g6_z, hc_z⟩ := fd_M5 (h := (am_up (am_up (am_up (am_up (am_up (am_up h 164 2 (.int 0)) 165 (t.toNatClampNeg + 0) (.int (rd_fb a b c d e 0))) 165 (t.toNatClampNeg + 1) (.int (rd_fb a b c d e 1))) 165 (t.toNatClampNeg + 2) (.int (rd_fb a b c d e 2))) 165 (t.toNatClampNeg + 3) (.int (rd_fb a b c d e 3))) 165 (t.toNatClampNeg + 4) (.int (rd_fb a b c d e 4)))) (t := t) et t0_z t6_z g0_z g1_z g2_z g3_z g4_z g5_z g6_z hc_z
    obtain ⟨_, g0_z, g1_z, g2_z, g3_z, g4_z, g5_z, g6_z, hc_z⟩ := fd_M6 (h := (am_up (am_up (am_up (am_up (am_up (am_up (am_up h 164 2 (.int 0)) 165 (t.toNatClampNeg + 0) (.int (rd_fb a b c d e 0))) 165 (t.toNatClampNeg + 1) (.int (rd_fb a b c d e 1))) 165 (t.toNatClampNeg + 2) (.int (rd_fb a b c d e 2))) 165 (t.toNatClampNeg + 3) (.int (rd_fb a b c d e 3))) 165 (t.toNatClampNeg + 4) (.int (rd_fb a b c d e 4))) 165 (t.toNatClampNeg + 5) (.int (rd_fb a b c d e 5)))) (t := t) et t0_z t6_z g0_z g1_z g2_z g3_z g4_z g5_z g6_z hc_z
    obtain ⟨_, g0_z, g1_z, g2_z, g3_z, g4_z, g5_z, g6_z, hc_z⟩ := fd_M7 (h := (am_up (am_up (am_up (am_up (am_up (am_up (am_up (am_up h 164 2 (.int 0)) 165 (t.toNatClampNeg + 0) (.int (rd_fb a b c d e 0))) 165 (t.toNatClampNeg + 1) (.int (rd_fb a b c d e 1))) 165 (t.toNatClampNeg + 2) (.int (rd_fb a b c d e 2))) 165 (t.toNatClampNeg + 3) (.int (rd_fb a b c d e 3))) 165 (t.toNatClampNeg + 4) (.int (rd_fb a b c d e 4))) 165 (t.toNatClampNeg + 5) (.int (rd_fb a b c d e 5))) 165 (t.toNatClampNeg + 6) (.int (rd_fb a b c d e 6)))) (t := t) et t0_z t6_z g0_z g1_z g2_z g3_z g4_z g5_z g6_z hc_z
    obtain ⟨_, g0_z, g1_z, g2_z, g3_z, g4_z, g5_z, g6_z, hc_z⟩ := fd_M8 (h := (am_up (am_up (am_up (am_up (am_up (am_up (am_up (am_up (am_up h 164 2 (.int 0)) 165 (t.toNatClampNeg + 0) (.int (rd_fb a b c d e 0))) 165 (t.toNatClampNeg + 1) (.int (rd_fb a b c d e 1))) 165 (t.toNatClampNeg + 2) (.int (rd_fb a b c d e 2))) 165 (t.toNatClampNeg + 3) (.int (rd_fb a b c d e 3))) 165 (t.toNatClampNeg + 4) (.int (rd_fb a b c d e 4))) 165 (t.toNatClampNeg + 5) (.int (rd_fb a b c d e 5))) 165 (t.toNatClampNeg + 6) (.int (rd_fb a b c d e 6))) 165 (t.toNatClampNeg + 7) (.int (rd_fb a b c d e 7)))) (t := t) et t0_z t6_z g0_z g1_z g2_z g3_z g4_z g5_z g6_z hc_z
    obtain ⟨_, g0_z, g1_z, g2_z, g3_z, g4_z, g5_z, g6_z, hc_z⟩ := fd_M9 (h := (am_up (am_up (am_up (am_up (am_up (am_up (am_up (am_up (am_up (am_up h 164 2 (.int 0)) 165 (t.toNatClampNeg + 0) (.int (rd_fb a b c d e 0))) 165 (t.toNatClampNeg + 1) (.int (rd_fb a b c d e 1))) 165 (t.toNatClampNeg + 2) (.int (rd_fb a b c d e 2))) 165 (t.toNatClampNeg + 3) (.int (rd_fb a b c d e 3))) 165 (t.toNatClampNeg + 4) (.int (rd_fb a b c d e 4))) 165 (t.toNatClampNeg + 5) (.int (rd_fb a b c d e 5))) 165 (t.toNatClampNeg + 6) (.int (rd_fb a b c d e 6))) 165 (t.toNatClampNeg + 7) (.int (rd_fb a b c d e 7))) 165 (t.toNatClampNeg + 8) (.int (rd_fb a b c d e 8)))) (t := t) et t0_z t6_z g0_z g1_z g2_z g3_z g4_z g5_z g6_z hc_z
    obtain ⟨_, g0_z, g1_z, g2_z, g3_z, g4_z, g5_z, g6_z, hc_z⟩ := fd_M10 (h := (am_up (am_up (am_up (am_up (am_up (am_up (am_up (am_up (am_up (am_up (am_up h 164 2 (.int 0)) 165 (t.toNatClampNeg + 0) (.int (rd_fb a b c d e 0))) 165 (t.toNatClampNeg + 1) (.int (rd_fb a b c d e 1))) 165 (t.toNatClampNeg + 2) (.int (rd_fb a b c d e 2))) 165 (t.toNatClampNeg + 3) (.int (rd_fb a b c d e 3))) 165 (t.toNatClampNeg + 4) (.int (rd_fb a b c d e 4))) 165 (t.toNatClampNeg + 5) (.int (rd_fb a b c d e 5))) 165 (t.toNatClampNeg + 6) (.int (rd_fb a b c d e 6))) 165 (t.toNatClampNeg + 7) (.int (rd_fb a b c d e 7))) 165 (t.toNatClampNeg + 8) (.int (rd_fb a b c d e 8))) 165 (t.toNatClampNeg + 9) (.int (rd_fb a b c d e 9)))) (t := t) et t0_z t6_z g0_z g1_z g2_z g3_z g4_z g5_z g6_z hc_z
    obtain ⟨_, g0_z, g1_z, g2_z, g3_z, g4_z, g5_z, g6_z, hc_z⟩ := fd_M11 (h := (am_up (am_up (am_up (am_up (am_up (am_up (am_up (am_up (am_up (am_up (am_up (am_up h 164 2 (.int 0)) 165 (t.toNatClampNeg + 0) (.int (rd_fb a b c d e 0))) 165 (t.toNatClampNeg + 1) (.int (rd_fb a b c d e 1))) 165 (t.toNatClampNeg + 2) (.int (rd_fb a b c d e 2))) 165 (t.toNatClampNeg + 3) (.int (rd_fb a b c d e 3))) 165 (t.toNatClampNeg + 4) (.int (rd_fb a b c d e 4))) 165 (t.toNatClampNeg + 5) (.int (rd_fb a b c d e 5))) 165 (t.toNatClampNeg + 6) (.int (rd_fb a b c d e 6))) 165 (t.toNatClampNeg + 7) (.int (rd_fb a b c d e 7))) 165 (t.toNatClampNeg + 8) (.int (rd_fb a b c d e 8))) 165 (t.toNatClampNeg + 9) (.int (rd_fb a b c d e 9))) 165 (t.toNatClampNeg + 10) (.int (rd_fb a b c d e 10)))) (t := t) et t0_z t6_z g0_z g1_z g2_z g3_z g4_z g5_z g6_z hc_z
    obtain ⟨_, g0_z, g1_z, g2_z, g3_z, g4_z, g5_z, g6_z, hc_z⟩ := fd_M12 (h := (am_up (am_up (am_up (am_up (am_up (am_up (am_up (am_up (am_up (am_up (am_up (am_up (am_up h 164 2 (.int 0)) 165 (t.toNatClampNeg + 0) (.int (rd_fb a b c d e 0))) 165 (t.toNatClampNeg + 1) (.int (rd_fb a b c d e 1))) 165 (t.toNatClampNeg + 2) (.int (rd_fb a b c d e 2))) 165 (t.toNatClampNeg + 3) (.int (rd_fb a b c d e 3))) 165 (t.toNatClampNeg + 4) (.int (rd_fb a b c d e 4))) 165 (t.toNatClampNeg + 5) (.int (rd_fb a b c d e 5))) 165 (t.toNatClampNeg + 6) (.int (rd_fb a b c d e 6))) 165 (t.toNatClampNeg + 7) (.int (rd_fb a b c d e 7))) 165 (t.toNatClampNeg + 8) (.int (rd_fb a b c d e 8))) 165 (t.toNatClampNeg + 9) (.int (rd_fb a b c d e 9))) 165 (t.toNatClampNeg + 10) (.int (rd_fb a b c d e 10))) 165 (t.toNatClampNeg + 11) (.int (rd_fb a b c d e 11)))) (t := t) et t0_z t6_z g0_z g1_z g2_z g3_z g4_z g5_z g6_z hc_z
    obtain ⟨_, g0_z, g1_z, g2_z, g3_z, g4_z, g5_z, g6_z, hc_z⟩ := fd_M13 (h := (am_up (am_up (am_up (am_up (am_up (am_up (am_up (am_up (am_up (am_up (am_up (am_up (am_up (am_up h 164 2 (.int 0)) 165 (t.toNatClampNeg + 0) (.int (rd_fb a b c d e 0))) 165 (t.toNatClampNeg + 1) (.int (rd_fb a b c d e 1))) 165 (t.toNatClampNeg + 2) (.int (rd_fb a b c d e 2))) 165 (t.toNatClampNeg + 3) (.int (rd_fb a b c d e 3))) 165 (t.toNatClampNeg + 4) (.int (rd_fb a b c d e 4))) 165 (t.toNatClampNeg + 5) (.int (rd_fb a b c d e 5))) 165 (t.toNatClampNeg + 6) (.int (rd_fb a b c d e 6))) 165 (t.toNatClampNeg + 7) (.int (rd_fb a b c d e 7))) 165 (t.toNatClampNeg + 8) (.int (rd_fb a b c d e 8))) 165 (t.toNatClampNeg + 9) (.int (rd_fb a b c d e 9))) 165 (t.toNatClampNeg + 10) (.int (rd_fb a b c d e 10))) 165 (t.toNatClampNeg + 11) (.int (rd_fb a b c d e 11))) 165 (t.toNatClampNeg + 12) (.int (rd_fb a b c d e 12)))) (t := t) et t0_z t6_z g0_z g1_z g2_z g3_z g4_z g5_z g6_z hc_z
    obtain ⟨_, g0_z, g1_z, g2_z, g3_z, g4_z, g5_z, g6_z, hc_z⟩ := fd_M14 (h := (am_up (am_up (am_up (am_up (am_up (am_up (am_up (am_up (am_up (am_up (am_up (am_up (am_up (am_up (am_up h 164 2 (.int 0)) 165 (t.toNatClampNeg + 0) (.int (rd_fb a b c d e 0))) 165 (t.toNatClampNeg + 1) (.int (rd_fb a b c d e 1))) 165 (t.toNatClampNeg + 2) (.int (rd_fb a b c d e 2))) 165 (t.toNatClampNeg + 3) (.int (rd_fb a b c d e 3))) 165 (t.toNatClampNeg + 4) (.int (rd_fb a b c d e 4))) 165 (t.toNatClampNeg + 5) (.int (rd_fb a b c d e 5))) 165 (t.toNatClampNeg + 6) (.int (rd_fb a b c d e 6))) 165 (t.toNatClampNeg + 7) (.int (rd_fb a b c d e 7))) 165 (t.toNatClampNeg + 8) (.int (rd_fb a b c d e 8))) 165 (t.toNatClampNeg + 9) (.int (rd_fb a b c d e 9))) 165 (t.toNatClampNeg + 10) (.int (rd_fb a b c d e 10))) 165 (t.toNatClampNeg + 11) (.int (rd_fb a b c d e 11))) 165 (t.toNatClampNeg + 12) (.int (rd_fb a b c d e 12))) 165 (t.toNatClampNeg + 13) (.int (rd_fb a b c d e 13)))) (t := t) et t0_z t6_z g0_z g1_z g2_z g3_z g4_z g5_z g6_z hc_z
    obtain ⟨_, g0_z, g1_z, g2_z, g3_z, g4_z, g5_z, g6_z, hc_z⟩ := fd_M15 (h := (am_up (am_up (am_up (am_up (am_up (am_up (am_up (am_up (am_up (am_up (am_up (am_up (am_up (am_up (am_up (am_up h 164 2 (.int 0)) 165 (t.toNatClampNeg + 0) (.int (rd_fb a b c d e 0))) 165 (t.toNatClampNeg + 1) (.int (rd_fb a b c d e 1))) 165 (t.toNatClampNeg + 2) (.int (rd_fb a b c d e 2))) 165 (t.toNatClampNeg + 3) (.int (rd_fb a b c d e 3))) 165 (t.toNatClampNeg + 4) (.int (rd_fb a b c d e 4))) 165 (t.toNatClampNeg + 5) (.int (rd_fb a b c d e 5))) 165 (t.toNatClampNeg + 6) (.int (rd_fb a b c d e 6))) 165 (t.toNatClampNeg + 7) (.int (rd_fb a b c d e 7))) 165 (t.toNatClampNeg + 8) (.int (rd_fb a b c d e 8))) 165 (t.toNatClampNeg + 9) (.int (rd_fb a b c d e 9))) 165 (t.toNatClampNeg + 10) (.int (rd_fb a b c d e 10))) 165 (t.toNatClampNeg + 11) (.int (rd_fb a b c d e 11))) 165 (t.toNatClampNeg + 12) (.int (rd_fb a b c d e 12))) 165 (t.toNatClampNeg + 13) (.int (rd_fb a b c d e 13))) 165 (t.toNatClampNeg + 14) (.int (rd_fb a b c d e 14)))) (t := t) et t0_z t6_z g0_z g1_z g2_z g3_z g4_z g5_z g6_z hc_z
    obtain ⟨_, g0_z, g1_z, g2_z, g3_z, g4_z, g5_z, g6_z, hc_z⟩ := fd_M16 (h := (am_up (am_up (am_up (am_up (am_up (am_up (am_up (am_up (am_up (am_up (am_up (am_up (am_up (am_up (am_up (am_up (am_up h 164 2 (.int 0)) 165 (t.toNatClampNeg + 0) (.int (rd_fb a b c d e 0))) 165 (t.toNatClampNeg + 1) (.int (rd_fb a b c d e 1))) 165 (t.toNatClampNeg + 2) (.int (rd_fb a b c d e 2))) 165 (t.toNatClampNeg + 3) (.int (rd_fb a b c d e 3))) 165 (t.toNatClampNeg + 4) (.int (rd_fb a b c d e 4))) 165 (t.toNatClampNeg + 5) (.int (rd_fb a b c d e 5))) 165 (t.toNatClampNeg + 6) (.int (rd_fb a b c d e 6))) 165 (t.toNatClampNeg + 7) (.int (rd_fb a b c d e 7))) 165 (t.toNatClampNeg + 8) (.int (rd_fb a b c d e 8))) 165 (t.toNatClampNeg + 9) (.int (rd_fb a b c d e 9))) 165 (t.toNatClampNeg + 10) (.int (rd_fb a b c d e 10))) 165 (t.toNatClampNeg + 11) (.int (rd_fb a b c d e 11))) 165 (t.toNatClampNeg + 12) (.int (rd_fb a b c d e 12))) 165 (t.toNatClampNeg + 13) (.int (rd_fb a b c d e 13))) 165 (t.toNatClampNeg + 14) (.int (rd_fb a b c d e 14))) 165 (t.toNatClampNeg + 15) (.int (rd_fb a b c d e 15)))) (t := t) et t0_z t6_z g0_z g1_z g2_z g3_z g4_z g5_z g6_z hc_z
    obtain ⟨_, g0_z, g1_z, g2_z, g3_z, g4_z, g5_z, g6_z, hc_z⟩ := fd_M17 (h := (am_up (am_up (am_up (am_up (am_up (am_up (am_up (am_up (am_up (am_up (am_up (am_up (am_up (am_up (am_up (am_up (am_up (am_up h 164 2 (.int 0)) 165 (t.toNatClampNeg + 0) (.int (rd_fb a b c d e 0))) 165 (t.toNatClampNeg + 1) (.int (rd_fb a b c d e 1))) 165 (t.toNatClampNeg + 2) (.int (rd_fb a b c d e 2))) 165 (t.toNatClampNeg + 3) (.int (rd_fb a b c d e 3))) 165 (t.toNatClampNeg + 4) (.int (rd_fb a b c d e 4))) 165 (t.toNatClampNeg + 5) (.int (rd_fb a b c d e 5))) 165 (t.toNatClampNeg + 6) (.int (rd_fb a b c d e 6))) 165 (t.toNatClampNeg + 7) (.int (rd_fb a b c d e 7))) 165 (t.toNatClampNeg + 8) (.int (rd_fb a b c d e 8))) 165 (t.toNatClampNeg + 9) (.int (rd_fb a b c d e 9))) 165 (t.toNatClampNeg + 10) (.int (rd_fb a b c d e 10))) 165 (t.toNatClampNeg + 11) (.int (rd_fb a b c d e 11))) 165 (t.toNatClampNeg + 12) (.int (rd_fb a b c d e 12))) 165 (t.toNatClampNeg + 13) (.int (rd_fb a b c d e 13))) 165 (t.toNatClampNeg + 14) (.int (rd_fb a b c d e 14))) 165 (t.toNatClampNeg + 15) (.int (rd_fb a b c d e 15))) 165 (t.toNatClampNeg + 16) (.int (rd_fb a b c d e 16)))) (t := t) et t0_z t6_z g0_z g1_z g2_z g3_z g4_z g5_z g6_z hc_z
    obtain ⟨_, g0_z, g1_z, g2_z, g3_z, g4_z, g5_z, g6_z, hc_z⟩ := fd_M18 (h := (am_up (am_up (am_up (am_up (am_up (am_up (am_up (am_up (am_up (am_up (am_up (am_up (am_up (am_up (am_up (am_up (am_up (am_up (am_up h 164 2 (.int 0)) 165 (t.toNatClampNeg + 0) (.int (rd_fb a b c d e 0))) 165 (t.toNatClampNeg + 1) (.int (rd_fb a b c d e 1))) 165 (t.toNatClampNeg + 2) (.int (rd_fb a b c d e 2))) 165 (t.toNatClampNeg + 3) (.int (rd_fb a b c d e 3))) 165 (t.toNatClampNeg + 4) (.int (rd_fb a b c d e 4))) 165 (t.toNatClampNeg + 5) (.int (rd_fb a b c d e 5))) 165 (t.toNatClampNeg + 6) (.int (rd_fb a b c d e 6))) 165 (t.toNatClampNeg + 7) (.int (rd_fb a b c d e 7))) 165 (t.toNatClampNeg + 8) (.int (rd_fb a b c d e 8))) 165 (t.toNatClampNeg + 9) (.int (rd_fb a b c d e 9))) 165 (t.toNatClampNeg + 10) (.int (rd_fb a b c d e 10))) 165 (t.toNatClampNeg + 11) (.int (rd_fb a b c d e 11))) 165 (t.toNatClampNeg + 12) (.int (rd_fb a b c d e 12))) 165 (t.toNatClampNeg + 13) (.int (rd_fb a b c d e 13))) 165 (t.toNatClampNeg + 14) (.int (rd_fb a b c d e 14))) 165 (t.toNatClampNeg + 15) (.int (rd_fb a b c d e 15))) 165 (t.toNatClampNeg + 16) (.int (rd_fb a b c d e 16))) 165 (t.toNatClampNeg + 17) (.int (rd_fb a b c d e 17)))) (t := t) et t0_z t6_z g0_z g1_z g2_z g3_z g4_z g5_z g6_z hc_z
    obtain ⟨_, g0_z, g1_z, g2_z, g3_z, g4_z, g5_z, g6_z, hc_z⟩ := fd_M19 (h := (am_up (am_up (am_up (am_up (am_up (am_up (am_up (am_up (am_up (am_up (am_up (am_up (am_up (am_up (am_up (am_up (am_up (am_up (am_up (am_up h 164 2 (.int 0)) 165 (t.toNatClampNeg + 0) (.int (rd_fb a b c d e 0))) 165 (t.toNatClampNeg + 1) (.int (rd_fb a b c d e 1))) 165 (t.toNatClampNeg + 2) (.int (rd_fb a b c d e 2))) 165 (t.toNatClampNeg + 3) (.int (rd_fb a b c d e 3))) 165 (t.toNatClampNeg + 4) (.int (rd_fb a b c d e 4))) 165 (t.toNatClampNeg + 5) (.int (rd_fb a b c d e 5))) 165 (t.toNatClampNeg + 6) (.int (rd_fb a b c d e 6))) 165 (t.toNatClampNeg + 7) (.int (rd_fb a b c d e 7))) 165 (t.toNatClampNeg + 8) (.int (rd_fb a b c d e 8))) 165 (t.toNatClampNeg + 9) (.int (rd_fb a b c d e 9))) 165 (t.toNatClampNeg + 10) (.int (rd_fb a b c d e 10))) 165 (t.toNatClampNeg + 11) (.int (rd_fb a b c d e 11))) 165 (t.toNatClampNeg + 12) (.int (rd_fb a b c d e 12))) 165 (t.toNatClampNeg + 13) (.int (rd_fb a b c d e 13))) 165 (t.toNatClampNeg + 14) (.int (rd_fb a b c d e 14))) 165 (t.toNatClampNeg + 15) (.int (rd_fb a b c d e 15))) 165 (t.toNatClampNeg + 16) (.int (rd_fb a b c d e 16))) 165 (t.toNatClampNeg + 17) (.int (rd_fb a b c d e 17))) 165 (t.toNatClampNeg + 18) (.int (rd_fb a b c d e 18)))) (t := t) et t0_z t6_z g0_z g1_z g2_z g3_z g4_z g5_z g6_z hc_z
    exact Or.inr ⟨t6_z, fd_Mz et t0_z t6_z g0_z g6_z hc_z⟩
  · replace b161_z : (700 : Int32).toInt < (t + 20).toInt := b161_z
    replace hc_z := rn_iconst (w := (-1)) (am_cur_of (i := (18, 1, .iconst (-1), (0, 0, 0), 0)) (by decide +kernel)) (by decide) hc_z
    replace hc_z := rn_iret (am_cur_of (i := (19, 1, .ireturn, (0, 0, 0), 0)) (by decide +kernel)) hc_z
    obtain ⟨e164_z, e165_z⟩ := hc_z
    subst e165_z
    exact Or.inl ⟨by omega, fun k => rfl, et⟩
/-- between the calls: which plan is the draft, the words of both, the tapes' bytes -/
def R3 (h : am_H) : Prop := tx_D h ∧ (∀ k, k < 20 → rg_v h 45 k = rt_w k) ∧ (∀ k, k < 101 → rg_v h 166 k = ab_words k) ∧ ∀ k : Nat, (k : Int) < (rg_v h 0 1).toInt → rg_v h 165 k = rg_v h 1 k
def r3_ok (md : List (Nat × Nat)) : Bool := ab_no 1 md && ab_no 45 md && ab_no 165 md && ab_no 166 md && !(ab_in md 0 1) && !(ab_in md 0 2) && !(ab_in md 0 3)
theorem r3_no {md : List (Nat × Nat)} {h h' : am_H} {o : Nat} (hb_z : ab_no o md = true) (hf_z : ab_Fr md h h') (k : Nat) : rg_v h' o k = rg_v h o k := by
  unfold rg_v
  rw [ab_no_ok hb_z hf_z k]
theorem R3_fr {md : List (Nat × Nat)} {h h' : am_H} (hb_z : r3_ok md = true) (hf_z : ab_Fr md h h') (hR : R3 h) : R3 h' := by
  unfold r3_ok at hb_z
  simp only [Bool.and_eq_true, Bool.not_eq_true'] at hb_z
  obtain ⟨⟨⟨⟨⟨⟨b1_z, b2_z⟩, b3_z⟩, b4_z⟩, b5_z⟩, b6_z⟩, b7_z⟩ := hb_z
  obtain ⟨D, w1_z, w2_z, w3_z⟩ := hR
  have e1_z : rg_v h' 0 1 = rg_v h 0 1 := rg_v_fr hf_z b5_z
  refine ⟨?_, fun k hk_z => (r3_no b2_z hf_z k).trans (w1_z k hk_z), fun k hk_z => (r3_no b4_z hf_z k).trans (w2_z k hk_z), fun k hk_z => ?_⟩
  · unfold tx_D
    rw [hf_z 0 2 b6_z, hf_z 0 3 b7_z]
    exact D
  · rw [e1_z] at hk_z
    rw [r3_no b3_z hf_z k, r3_no b1_z hf_z k]
    exact w3_z k hk_z
theorem R3_feed : ax_feed R3 := by
  intro t t1_z a b c d e h h1_z h2_z r1_z r2_z n1_z n2_z hR hG hG2 F1 F2 rn1_z rn2_z
  obtain ⟨D, w1_z, w2_z, w3_z⟩ := hR
  obtain ⟨g1_z, g2_z, g3_z, g4_z, g5_z⟩ := hG
  obtain ⟨t', et', t0_z, t7_z⟩ := ac_g01 g1_z
  rw [g4_z] at et'
  cases et'
  have eC : rg_v h 0 1 = t := rg_v_e g4_z
  have eM : rg_v h1_z 164 1 = t := rg_v_e ((F1 164 1 (by decide)).trans g5_z)
  have cT := rt_cl t0_z
  have kC : ∀ o, ab_no o [(0, 2), (1, 0)] = true → ∀ k, rg_v h1_z o k = rg_v h o k := fun o hb_z k => r3_no hb_z F1 k
  have kM : ∀ o, ab_no o [(164, 2), (164, 3), (165, 0)] = true → ∀ k, rg_v h2_z o k = rg_v h1_z o k := fun o hb_z k => r3_no hb_z F2 k
  refine ⟨?_, fun k hk_z => (kM 45 (by decide) k).trans ((kC 45 (by decide) k).trans (w1_z k hk_z)), fun k hk_z => (kM 166 (by decide) k).trans ((kC 166 (by decide) k).trans (w2_z k hk_z)), fun k hk_z => ?_⟩
  · unfold tx_D
    rw [F2 0 2 (by decide), F2 0 3 (by decide), F1 0 2 (by decide), F1 0 3 (by decide)]
    exact D
  · rw [kM 0 (by decide) 1] at hk_z
    rw [kM 1 (by decide) k]
    rcases fd_C eC t0_z t7_z rn1_z with ⟨a1_z, a2_z⟩ | ⟨a1_z, u, a2_z, a3_z, a4_z, a5_z⟩
    · rcases fd_M eM t0_z t7_z rn2_z with ⟨b1_z, b2_z, b3_z⟩ | ⟨b1_z, -⟩
      · rw [b2_z k, a2_z]
        rw [a2_z] at hk_z
        exact w3_z k hk_z
      · omega
    · rcases fd_M eM t0_z t7_z rn2_z with ⟨b1_z, -⟩ | ⟨b1_z, v, b2_z, b3_z, b4_z, b5_z⟩
      · omega
      · rw [a2_z] at hk_z
        by_cases hkT : k < t.toNatClampNeg
        · rw [b4_z k hkT, a4_z k hkT, kC 165 (by decide) k]
          exact w3_z k (by rw [eC]; omega)
        · obtain ⟨j, rfl⟩ : ∃ j, k = t.toNatClampNeg + j := ⟨k - t.toNatClampNeg, by omega⟩
          rw [b5_z j (by omega), a5_z j (by omega)]
theorem tx_all {t nn : Int32} {h h1_z h2_z : am_H} {r1_z r2_z : Option Value} {n1_z n2_z : Nat} (hR : R3 h) (hG : ag_G t h) (F1 : ab_Fr ab_s2.2.2.2.1 h h1_z) (rn1_z : rn n1_z am_m17 0 (lv_args 0 [.ref 0, .int nn]) [] h r1_z h1_z) (rn2_z : rn n2_z am_m150 0 (lv_args 0 [.ref 164, .int nn]) [] h1_z r2_z h2_z) : (∃ v, r1_z = some (.int v) ∧ r2_z = some (.int v)) ∧ tx_D h1_z ∧ ∃ d, (d = 2 ∨ d = 23) ∧ h 0 3 = .ref d ∧ h 0 2 = .ref (25 - d) ∧ tx_O d h h1_z h1_z h2_z := by
  obtain ⟨D, w1_z, w2_z, w3_z⟩ := hR
  obtain ⟨g1_z, g2_z, g3_z, g4_z, g5_z⟩ := hG
  obtain ⟨t', et', t0_z, t7_z⟩ := ac_g01 g1_z
  rw [g4_z] at et'
  cases et'
  have eC : rg_v h 0 1 = t := rg_v_e g4_z
  have eM : rg_v h1_z 164 1 = t := rg_v_e ((F1 164 1 (by decide +kernel)).trans g5_z)
  have cT := rt_cl t0_z
  have I : tx_I t h h1_z := ⟨eC, eM, t0_z, t7_z, fun k hk_z => (r3_no (by decide +kernel) F1 k).trans (w3_z k (by rw [eC]; omega)), w1_z, fun k hk_z => (r3_no (by decide +kernel) F1 k).trans (w2_z k hk_z)⟩
  rcases D with ⟨D, E⟩ | ⟨D, E⟩
  · obtain ⟨a, b, c⟩ := tx2_z I D E rn1_z rn2_z
    exact ⟨a, b, 2, Or.inl rfl, D, E, c⟩
  · obtain ⟨a, b, c⟩ := tx23_z I D E rn1_z rn2_z
    exact ⟨a, b, 23, Or.inr rfl, D, E, c⟩
theorem R3_text : ax_text R3 := by
  intro t t1_z a h h1_z h2_z r1_z r2_z n1_z n2_z hR hG hG2 hT F1 F2 rn1_z rn2_z
  obtain ⟨-, D1, -⟩ := tx_all hR hG F1 rn1_z rn2_z
  obtain ⟨D, w1_z, w2_z, w3_z⟩ := hR
  refine ⟨?_, fun k hk_z => (r3_no (by decide +kernel) F2 k).trans ((r3_no (by decide +kernel) F1 k).trans (w1_z k hk_z)), fun k hk_z => (r3_no (by decide +kernel) F2 k).trans ((r3_no (by decide +kernel) F1 k).trans (w2_z k hk_z)), fun k hk_z => ?_⟩
  · unfold tx_D
    rw [F2 0 2 (by decide +kernel), F2 0 3 (by decide +kernel)]
    exact D1
  · rw [r3_no (o := 165) (by decide +kernel) F2 k, r3_no (o := 165) (by decide +kernel) F1 k, r3_no (o := 1) (by decide +kernel) F2 k, r3_no (o := 1) (by decide +kernel) F1 k]
    refine w3_z k ?_
    have e2_z : rg_v h2_z 0 1 = t1_z := rg_v_e hG2.2.2.2.1
    have e0_z : rg_v h 0 1 = t := rg_v_e hG.2.2.2.1
    rw [e2_z] at hk_z
    rw [e0_z]
    rcases hT with q | q
    · rw [← q]
      exact hk_z
    · rw [q, show (0 : Int32).toInt = 0 by decide] at hk_z
      omega
theorem R3_ytext : ay_text R3 := by
  intro t t1_z a h h1_z h2_z r1_z r2_z n1_z n2_z hR hG hG2 hT F1 F2 rn1_z rn2_z
  obtain ⟨⟨v, e1_z, e2_z⟩, -⟩ := tx_all hR hG F1 rn1_z rn2_z
  rw [e1_z, e2_z]
theorem R3_fault : ax_fault R3 := fun _ _ _ _ _ _ _ _ _ hR _ _ _ f1_z f2_z _ _ => R3_fr (by decide +kernel) f2_z (R3_fr (by decide +kernel) f1_z hR)
theorem R3_named : ax_named R3 := fun _ _ _ _ _ _ _ _ _ _ hR _ _ _ f1_z f2_z _ _ => R3_fr (by decide +kernel) f2_z (R3_fr (by decide +kernel) f1_z hR)
theorem R3_look : ax_look R3 := fun _ _ _ _ _ _ _ _ hR _ _ _ f1_z f2_z _ => R3_fr (by decide +kernel) f2_z (R3_fr (by decide +kernel) f1_z hR)
theorem R3_law : ax_law R3 := fun _ _ _ _ _ _ _ _ _ _ hR _ _ _ f1_z f2_z _ _ => R3_fr (by decide +kernel) f2_z (R3_fr (by decide +kernel) f1_z hR)
theorem R3_blow : ax_blow R3 := fun _ _ _ _ _ _ _ _ _ _ hR _ _ _ f1_z f2_z _ _ => R3_fr (by decide +kernel) f2_z (R3_fr (by decide +kernel) f1_z hR)
theorem R3_waits : ax_waits R3 := fun _ _ _ _ _ _ _ _ _ _ hR _ _ _ _ _ f1_z f2_z _ _ => R3_fr (by decide +kernel) f2_z (R3_fr (by decide +kernel) f1_z hR)
theorem R3_pump : ax_pump R3 := fun _ _ _ _ _ _ _ _ _ hR _ _ _ f1_z f2_z _ _ => R3_fr (by decide +kernel) f2_z (R3_fr (by decide +kernel) f1_z hR)
theorem R3_patch : ax_patch R3 := fun _ _ _ _ _ _ _ _ _ hR _ _ _ f1_z f2_z _ _ => R3_fr (by decide +kernel) f2_z (R3_fr (by decide +kernel) f1_z hR)
theorem R3_leak : ax_leak R3 := fun _ _ _ _ _ _ _ _ hR _ _ _ f1_z f2_z _ _ => R3_fr (by decide +kernel) f2_z (R3_fr (by decide +kernel) f1_z hR)
theorem R3_ever : ax_ever R3 := fun _ _ _ _ _ _ _ _ _ hR _ _ _ f1_z f2_z _ _ => R3_fr (by decide +kernel) f2_z (R3_fr (by decide +kernel) f1_z hR)
theorem R3_best : ax_best R3 := fun _ _ _ _ _ _ _ _ _ _ hR _ _ _ f1_z f2_z _ _ => R3_fr (by decide +kernel) f2_z (R3_fr (by decide +kernel) f1_z hR)
theorem R3_lasts : ax_lasts R3 := fun _ _ _ _ _ _ _ _ _ _ hR _ _ _ f1_z f2_z _ _ => R3_fr (by decide +kernel) f2_z (R3_fr (by decide +kernel) f1_z hR)
theorem R3_firm : ax_firm R3 := fun _ _ _ _ _ _ _ _ _ _ hR _ _ _ f1_z f2_z _ _ => R3_fr (by decide +kernel) f2_z (R3_fr (by decide +kernel) f1_z hR)
theorem R3_up : ax_up R3 := fun _ _ _ _ _ _ _ _ _ _ _ hR _ _ _ f1_z f2_z _ _ => R3_fr (by decide +kernel) f2_z (R3_fr (by decide +kernel) f1_z hR)
theorem R3_upAt : ax_upAt R3 := fun _ _ _ _ _ _ _ _ _ _ _ _ hR _ _ _ f1_z f2_z _ _ => R3_fr (by decide +kernel) f2_z (R3_fr (by decide +kernel) f1_z hR)
theorem R3_cheapest : ax_cheapest R3 := fun _ _ _ _ _ _ _ _ _ _ _ hR _ _ _ f1_z f2_z _ _ => R3_fr (by decide +kernel) f2_z (R3_fr (by decide +kernel) f1_z hR)
theorem R3_lend : ax_lend R3 := fun _ _ _ _ _ _ _ _ _ _ hR _ _ _ f1_z f2_z _ _ => R3_fr (by decide +kernel) f2_z (R3_fr (by decide +kernel) f1_z hR)
theorem R3_seek : ax_seek R3 := fun _ _ _ _ _ _ _ _ _ _ hR _ _ _ f1_z f2_z _ _ => R3_fr (by decide +kernel) f2_z (R3_fr (by decide +kernel) f1_z hR)
theorem R3_mean : ax_mean R3 := fun _ _ _ _ _ _ _ _ _ hR _ _ _ f1_z f2_z _ _ => R3_fr (by decide +kernel) f2_z (R3_fr (by decide +kernel) f1_z hR)
theorem R3_rule : ax_rule R3 := fun _ _ _ _ _ _ _ _ _ hR _ _ _ f1_z f2_z _ _ => R3_fr (by decide +kernel) f2_z (R3_fr (by decide +kernel) f1_z hR)
theorem R3_fairest : ax_fairest R3 := fun _ _ _ _ _ _ _ _ hR _ _ _ f1_z f2_z _ _ => R3_fr (by decide +kernel) f2_z (R3_fr (by decide +kernel) f1_z hR)
theorem R3_cheek : ax_cheek R3 := fun _ _ _ _ _ _ _ _ _ _ _ _ hR _ _ _ _ _ f1_z f2_z _ _ => R3_fr (by decide +kernel) f2_z (R3_fr (by decide +kernel) f1_z hR)
theorem R3_strike : ax_strike R3 := fun _ _ _ _ _ _ _ _ _ hR _ _ _ f1_z f2_z _ _ => R3_fr (by decide +kernel) f2_z (R3_fr (by decide +kernel) f1_z hR)
theorem R3_known : ax_known R3 := fun _ _ _ _ _ _ _ _ _ hR _ _ _ f1_z f2_z _ _ => R3_fr (by decide +kernel) f2_z (R3_fr (by decide +kernel) f1_z hR)
theorem R3_fits : ax_fits R3 := fun _ _ _ _ _ _ _ _ hR _ _ _ f1_z f2_z _ _ => R3_fr (by decide +kernel) f2_z (R3_fr (by decide +kernel) f1_z hR)
theorem R3_chance : ax_chance R3 := fun _ _ _ _ _ _ _ _ _ _ _ hR _ _ _ f1_z f2_z _ _ => R3_fr (by decide +kernel) f2_z (R3_fr (by decide +kernel) f1_z hR)
theorem R3_tried : ax_tried R3 := fun _ _ _ _ _ _ _ _ _ _ _ hR _ _ _ f1_z f2_z _ _ => R3_fr (by decide +kernel) f2_z (R3_fr (by decide +kernel) f1_z hR)
theorem R3_undo : ax_undo R3 := fun _ _ _ _ _ _ _ _ hR _ _ _ f1_z f2_z _ _ => R3_fr (by decide +kernel) f2_z (R3_fr (by decide +kernel) f1_z hR)
theorem R3_keep : ax_keep R3 := fun _ _ _ _ _ _ _ _ hR _ _ _ f1_z f2_z _ _ => R3_fr (by decide +kernel) f2_z (R3_fr (by decide +kernel) f1_z hR)
theorem R3_back : ax_back R3 := fun _ _ _ _ _ _ _ _ hR _ _ _ f1_z f2_z _ _ => R3_fr (by decide +kernel) f2_z (R3_fr (by decide +kernel) f1_z hR)
theorem R3_count : ax_count R3 := fun _ _ _ _ _ _ _ _ _ hR _ _ _ f1_z f2_z _ _ => R3_fr (by decide +kernel) f2_z (R3_fr (by decide +kernel) f1_z hR)
theorem R3_All : ax_All R3 := ⟨R3_feed, R3_text, R3_fault, R3_named, R3_look, R3_law, R3_blow, R3_waits, R3_pump, R3_patch, R3_leak, R3_ever, R3_best, R3_lasts, R3_firm, R3_up, R3_upAt, R3_cheapest, R3_lend, R3_seek, R3_mean, R3_rule, R3_fairest, R3_cheek, R3_strike, R3_known, R3_fits, R3_chance, R3_tried, R3_undo, R3_keep, R3_back, R3_count⟩
theorem rg_r0 {h : am_H} {o k x : Nat} (e : Nat.beq (rg_r h o k) x = true) (a : h o k = .ref (rg_r h o k)) : h o k = .ref x := by
  rw [a, Nat.eq_of_beq_eq_true e]
theorem R3_0 : R3 am_h0 := by
  have b45_z : (List.range 20).all (fun k => decide (rg_v am_h0 45 k = rt_w k)) = true := by decide +kernel
  have b166_z : (List.range 101).all (fun k => decide (rg_v am_h0 166 k = ab_words k)) = true := by decide +kernel
  have b01_z : rg_v am_h0 0 1 = 0 := by decide +kernel
  refine ⟨Or.inr ⟨rg_r0 (x := 23) (by decide +kernel) ?_, rg_r0 (x := 2) (by decide +kernel) ?_⟩, fun k hk_z => of_decide_eq_true (List.all_eq_true.mp b45_z k (List.mem_range.mpr hk_z)), fun k hk_z => of_decide_eq_true (List.all_eq_true.mp b166_z k (List.mem_range.mpr hk_z)), fun k hk_z => ?_⟩
  · exact rg_any gd_h0 (kd := .inl 0) (by decide +kernel) (by decide) (by decide +kernel)
  · exact rg_any gd_h0 (kd := .inl 0) (by decide +kernel) (by decide) (by decide +kernel)
  · rw [b01_z, show (0 : Int32).toInt = 0 by decide] at hk_z
    omega
