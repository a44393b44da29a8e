/-! ===== THE TAPE'S SIZE: feed of both, text of the class (wip/s/gen99m.py) ===== -/
theorem ac_o0 : am_ks0[0]? = some (.inl 0) := by decide +kernel
theorem ac_k1 : am_ks0[1]? = some (.inr (.int, 700)) := by decide +kernel
theorem ac_f00 {h : am_H} (hI : ab_Inv (ab_hi ab_tab) h) : h 0 0 = .ref 1 := ab_ref1 hI ac_o0 (by decide +kernel) (by decide +kernel)
theorem ac_g01 {h : am_H} (hI : ab_Inv (ab_hi ab_tab) h) : ∃ v : Int32, h 0 1 = .int v ∧ 0 ≤ v.toInt ∧ v.toInt ≤ 700 := ac_g hI ac_o0 (by decide +kernel) (by decide +kernel)
theorem ac_p01 {h : am_H} {v : Int32} (hI : ab_Inv (ab_hi ab_tab) h) (v0 : 0 ≤ v.toInt) (v1 : v.toInt ≤ 700) : ab_Inv (ab_hi ab_tab) (am_up h 0 1 (.int v)) := ac_p hI (l := 0) (u := 700) (by decide +kernel) v0 v1
theorem ac_w1 {h : am_H} {q : Nat} {v : Int32} (hI : ab_Inv (ab_hi ab_tab) h) : ab_Inv (ab_hi ab_tab) (am_up h 1 q (.int v)) := ac_p hI (ac_ar (l := -2147483648) (u := 2147483647) (by decide +kernel) (by decide +kernel) q) (ab_32 v).1 (ab_32 v).2
section ACN
variable {X : am_H → Prop}
theorem ac_putFour (hX : ab_XF X) {h : am_H} (hI : ab_Inv (ab_hi ab_tab) h) (hj : ab_JX X h) {t x : Int32} (et : h 0 1 = .int t) (t0 : 0 ≤ t.toInt) (t1 : t.toInt ≤ 696) : am_Ek false am_G0 am_m16 0 (lv_args 0 [.ref 0, .int x]) [] am_ks0 h 0 0 (fun r ks h' => ks = am_ks0 ∧ r = none ∧ ab_Inv (ab_hi ab_tab) h' ∧ ab_JX X h' ∧ ab_Fr [(0, 2), (1, 0)] h h' ∧ ∃ t' : Int32, h' 0 1 = .int t' ∧ t'.toInt = t.toInt + 4) := by
  have z7 : (700 : Int32).toInt = 700 := by decide
  refine am_e_bipush (w := 24) (am_nxt_of (i := (0, 2, .bipush 24, (0, 0, 0), 0)) (by decide +kernel)) (by decide) ?_
  refine am_e_istore_n (ls' := [(2, .int 24), (0, .ref 0), (1, .int x)]) (am_nxt_of (i := (2, 1, .istore_n 2, (0, 0, 0), 0)) (by decide +kernel)) (by decide +kernel) rfl ?_
  refine am_e_iload_n (am_nxt_of (i := (3, 1, .iload_n 2, (0, 0, 0), 0)) (by decide +kernel)) (v := 24) rfl ?_
  refine am_e_ifF (am_nxt_of (i := (4, 3, .ifCond .lt 45, (26, 0, 0), 0)) (by decide +kernel)) (am_c_ltF (by decide)) ?_
  refine am_e_aload_n (am_nxt_of (i := (7, 1, .aload_n 0, (0, 0, 0), 0)) (by decide +kernel)) (v := 0) rfl ?_
  refine am_e_getf (v := .int t) (am_nxt_of (i := (8, 3, .getfield 99, (0, 1, 662), 0)) (by decide +kernel)) ac_o0 et ?_
  refine am_e_sipush (w := 700) (am_nxt_of (i := (11, 3, .sipush 700, (0, 0, 0), 0)) (by decide +kernel)) (by decide) ?_
  refine am_e_cmpF (am_nxt_of (i := (14, 3, .if_icmp .ge 35, (26, 0, 0), 0)) (by decide +kernel)) (am_c_geF (ac_lt (by omega))) ?_
  have x0 := ab_ix (x := t) (n := 700) (by omega) (by omega)
  refine am_e_aload_n (am_nxt_of (i := (17, 1, .aload_n 0, (0, 0, 0), 0)) (by decide +kernel)) (v := 0) rfl ?_
  refine am_e_getf (v := .ref 1) (am_nxt_of (i := (18, 3, .getfield 11, (0, 0, 661), 0)) (by decide +kernel)) ac_o0 (ac_f00 hI) ?_
  refine am_e_aload_n (am_nxt_of (i := (21, 1, .aload_n 0, (0, 0, 0), 0)) (by decide +kernel)) (v := 0) rfl ?_
  refine am_e_getf (v := .int t) (am_nxt_of (i := (22, 3, .getfield 99, (0, 1, 662), 0)) (by decide +kernel)) ac_o0 et ?_
  refine am_e_iload_n (am_nxt_of (i := (25, 1, .iload_n 1, (0, 0, 0), 0)) (by decide +kernel)) (v := x) rfl ?_
  refine am_e_iload_n (am_nxt_of (i := (26, 1, .iload_n 2, (0, 0, 0), 0)) (by decide +kernel)) (v := 24) rfl ?_
  obtain ⟨v0, hv0⟩ : ∃ v : Int32, (x.toUInt32 >>> ((24 : Int32).toUInt32 &&& Int32.toUInt32 31)).toInt32 &&& 255 = v := ⟨_, rfl⟩
  refine am_e_iushr (w := (x.toUInt32 >>> ((24 : Int32).toUInt32 &&& Int32.toUInt32 31)).toInt32) (am_nxt_of (i := (27, 1, .iushr, (0, 0, 0), 0)) (by decide +kernel)) rfl ?_
  refine am_e_sipush (w := 255) (am_nxt_of (i := (28, 3, .sipush 255, (0, 0, 0), 0)) (by decide +kernel)) (by decide) ?_
  refine am_e_iand (w := v0) (am_nxt_of (i := (31, 1, .iand, (0, 0, 0), 0)) (by decide +kernel)) hv0 ?_
  refine am_e_iastore (am_nxt_of (i := (32, 1, .iastore, (0, 0, 0), 0)) (by decide +kernel)) ac_k1 x0 rfl ?_
  have e0 := ac_c1 (x := t) (by omega) (by omega)
  have I0 := ac_p01 (v := (t + 1)) (ac_w1 (q := (t).toNatClampNeg) (v := v0) hI) (by omega) (by omega)
  refine am_e_aload_n (am_nxt_of (i := (33, 1, .aload_n 0, (0, 0, 0), 0)) (by decide +kernel)) (v := 0) rfl ?_
  refine am_e_dup (am_nxt_of (i := (34, 1, .dup, (0, 0, 0), 0)) (by decide +kernel)) rfl ?_
  refine am_e_getf (v := .int t) (am_nxt_of (i := (35, 3, .getfield 99, (0, 1, 662), 0)) (by decide +kernel)) ac_o0 et ?_
  refine am_e_iconst (w := 1) (am_nxt_of (i := (38, 1, .iconst 1, (0, 0, 0), 0)) (by decide +kernel)) rfl ?_
  refine am_e_iadd (w := t + 1) (am_nxt_of (i := (39, 1, .iadd, (0, 0, 0), 0)) (by decide +kernel)) rfl ?_
  refine am_e_putf (am_nxt_of (i := (40, 3, .putfield 99, (0, 1, 662), 0)) (by decide +kernel)) ac_o0 rfl ?_
  refine am_e_iinc (w := 16) (ls' := [(2, .int 16), (0, .ref 0), (1, .int x)]) (am_nxt_of (i := (43, 3, .iinc 2 (-8), (0, 0, 0), 0)) (by decide +kernel)) (v := 24) rfl (by decide +kernel) (by decide) rfl ?_
  refine am_e_goto (am_cur_of (i := (46, 3, .goto (-43), (2, 0, 0), 0)) (by decide +kernel)) (am_tgt_of (by decide +kernel)) ?_
  refine am_e_iload_n (am_nxt_of (i := (3, 1, .iload_n 2, (0, 0, 0), 0)) (by decide +kernel)) (v := 16) rfl ?_
  refine am_e_ifF (am_nxt_of (i := (4, 3, .ifCond .lt 45, (26, 0, 0), 0)) (by decide +kernel)) (am_c_ltF (by decide)) ?_
  refine am_e_aload_n (am_nxt_of (i := (7, 1, .aload_n 0, (0, 0, 0), 0)) (by decide +kernel)) (v := 0) rfl ?_
  refine am_e_getf (v := .int (t + 1)) (am_nxt_of (i := (8, 3, .getfield 99, (0, 1, 662), 0)) (by decide +kernel)) ac_o0 rfl ?_
  refine am_e_sipush (w := 700) (am_nxt_of (i := (11, 3, .sipush 700, (0, 0, 0), 0)) (by decide +kernel)) (by decide) ?_
  refine am_e_cmpF (am_nxt_of (i := (14, 3, .if_icmp .ge 35, (26, 0, 0), 0)) (by decide +kernel)) (am_c_geF (ac_lt (by omega))) ?_
  have x1 := ab_ix (x := (t + 1)) (n := 700) (by omega) (by omega)
  refine am_e_aload_n (am_nxt_of (i := (17, 1, .aload_n 0, (0, 0, 0), 0)) (by decide +kernel)) (v := 0) rfl ?_
  refine am_e_getf (v := .ref 1) (am_nxt_of (i := (18, 3, .getfield 11, (0, 0, 661), 0)) (by decide +kernel)) ac_o0 (ac_f00 I0) ?_
  refine am_e_aload_n (am_nxt_of (i := (21, 1, .aload_n 0, (0, 0, 0), 0)) (by decide +kernel)) (v := 0) rfl ?_
  refine am_e_getf (v := .int (t + 1)) (am_nxt_of (i := (22, 3, .getfield 99, (0, 1, 662), 0)) (by decide +kernel)) ac_o0 rfl ?_
  refine am_e_iload_n (am_nxt_of (i := (25, 1, .iload_n 1, (0, 0, 0), 0)) (by decide +kernel)) (v := x) rfl ?_
  refine am_e_iload_n (am_nxt_of (i := (26, 1, .iload_n 2, (0, 0, 0), 0)) (by decide +kernel)) (v := 16) rfl ?_
  obtain ⟨v1, hv1⟩ : ∃ v : Int32, (x.toUInt32 >>> ((16 : Int32).toUInt32 &&& Int32.toUInt32 31)).toInt32 &&& 255 = v := ⟨_, rfl⟩
  refine am_e_iushr (w := (x.toUInt32 >>> ((16 : Int32).toUInt32 &&& Int32.toUInt32 31)).toInt32) (am_nxt_of (i := (27, 1, .iushr, (0, 0, 0), 0)) (by decide +kernel)) rfl ?_
  refine am_e_sipush (w := 255) (am_nxt_of (i := (28, 3, .sipush 255, (0, 0, 0), 0)) (by decide +kernel)) (by decide) ?_
  refine am_e_iand (w := v1) (am_nxt_of (i := (31, 1, .iand, (0, 0, 0), 0)) (by decide +kernel)) hv1 ?_
  refine am_e_iastore (am_nxt_of (i := (32, 1, .iastore, (0, 0, 0), 0)) (by decide +kernel)) ac_k1 x1 rfl ?_
  have e1 := ac_c1 (x := (t + 1)) (by omega) (by omega)
  have I1 := ac_p01 (v := ((t + 1) + 1)) (ac_w1 (q := ((t + 1)).toNatClampNeg) (v := v1) I0) (by omega) (by omega)
  refine am_e_aload_n (am_nxt_of (i := (33, 1, .aload_n 0, (0, 0, 0), 0)) (by decide +kernel)) (v := 0) rfl ?_
  refine am_e_dup (am_nxt_of (i := (34, 1, .dup, (0, 0, 0), 0)) (by decide +kernel)) rfl ?_
  refine am_e_getf (v := .int (t + 1)) (am_nxt_of (i := (35, 3, .getfield 99, (0, 1, 662), 0)) (by decide +kernel)) ac_o0 rfl ?_
  refine am_e_iconst (w := 1) (am_nxt_of (i := (38, 1, .iconst 1, (0, 0, 0), 0)) (by decide +kernel)) rfl ?_
  refine am_e_iadd (w := (t + 1) + 1) (am_nxt_of (i := (39, 1, .iadd, (0, 0, 0), 0)) (by decide +kernel)) rfl ?_
  refine am_e_putf (am_nxt_of (i := (40, 3, .putfield 99, (0, 1, 662), 0)) (by decide +kernel)) ac_o0 rfl ?_
  refine am_e_iinc (w := 8) (ls' := [(2, .int 8), (0, .ref 0), (1, .int x)]) (am_nxt_of (i := (43, 3, .iinc 2 (-8), (0, 0, 0), 0)) (by decide +kernel)) (v := 16) rfl (by decide +kernel) (by decide) rfl ?_
  refine am_e_goto (am_cur_of (i := (46, 3, .goto (-43), (2, 0, 0), 0)) (by decide +kernel)) (am_tgt_of (by decide +kernel)) ?_
  refine am_e_iload_n (am_nxt_of (i := (3, 1, .iload_n 2, (0, 0, 0), 0)) (by decide +kernel)) (v := 8) rfl ?_
  refine am_e_ifF (am_nxt_of (i := (4, 3, .ifCond .lt 45, (26, 0, 0), 0)) (by decide +kernel)) (am_c_ltF (by decide)) ?_
  refine am_e_aload_n (am_nxt_of (i := (7, 1, .aload_n 0, (0, 0, 0), 0)) (by decide +kernel)) (v := 0) rfl ?_
  refine am_e_getf (v := .int ((t + 1) + 1)) (am_nxt_of (i := (8, 3, .getfield 99, (0, 1, 662), 0)) (by decide +kernel)) ac_o0 rfl ?_
  refine am_e_sipush (w := 700) (am_nxt_of (i := (11, 3, .sipush 700, (0, 0, 0), 0)) (by decide +kernel)) (by decide) ?_
  refine am_e_cmpF (am_nxt_of (i := (14, 3, .if_icmp .ge 35, (26, 0, 0), 0)) (by decide +kernel)) (am_c_geF (ac_lt (by omega))) ?_
  have x2 := ab_ix (x := ((t + 1) + 1)) (n := 700) (by omega) (by omega)
  refine am_e_aload_n (am_nxt_of (i := (17, 1, .aload_n 0, (0, 0, 0), 0)) (by decide +kernel)) (v := 0) rfl ?_
  refine am_e_getf (v := .ref 1) (am_nxt_of (i := (18, 3, .getfield 11, (0, 0, 661), 0)) (by decide +kernel)) ac_o0 (ac_f00 I1) ?_
  refine am_e_aload_n (am_nxt_of (i := (21, 1, .aload_n 0, (0, 0, 0), 0)) (by decide +kernel)) (v := 0) rfl ?_
  refine am_e_getf (v := .int ((t + 1) + 1)) (am_nxt_of (i := (22, 3, .getfield 99, (0, 1, 662), 0)) (by decide +kernel)) ac_o0 rfl ?_
  refine am_e_iload_n (am_nxt_of (i := (25, 1, .iload_n 1, (0, 0, 0), 0)) (by decide +kernel)) (v := x) rfl ?_
  refine am_e_iload_n (am_nxt_of (i := (26, 1, .iload_n 2, (0, 0, 0), 0)) (by decide +kernel)) (v := 8) rfl ?_
  obtain ⟨v2, hv2⟩ : ∃ v : Int32, (x.toUInt32 >>> ((8 : Int32).toUInt32 &&& Int32.toUInt32 31)).toInt32 &&& 255 = v := ⟨_, rfl⟩
  refine am_e_iushr (w := (x.toUInt32 >>> ((8 : Int32).toUInt32 &&& Int32.toUInt32 31)).toInt32) (am_nxt_of (i := (27, 1, .iushr, (0, 0, 0), 0)) (by decide +kernel)) rfl ?_
  refine am_e_sipush (w := 255) (am_nxt_of (i := (28, 3, .sipush 255, (0, 0, 0), 0)) (by decide +kernel)) (by decide) ?_
  refine am_e_iand (w := v2) (am_nxt_of (i := (31, 1, .iand, (0, 0, 0), 0)) (by decide +kernel)) hv2 ?_
  refine am_e_iastore (am_nxt_of (i := (32, 1, .iastore, (0, 0, 0), 0)) (by decide +kernel)) ac_k1 x2 rfl ?_
  have e2 := ac_c1 (x := ((t + 1) + 1)) (by omega) (by omega)
  have I2 := ac_p01 (v := (((t + 1) + 1) + 1)) (ac_w1 (q := (((t + 1) + 1)).toNatClampNeg) (v := v2) I1) (by omega) (by omega)
  refine am_e_aload_n (am_nxt_of (i := (33, 1, .aload_n 0, (0, 0, 0), 0)) (by decide +kernel)) (v := 0) rfl ?_
  refine am_e_dup (am_nxt_of (i := (34, 1, .dup, (0, 0, 0), 0)) (by decide +kernel)) rfl ?_
  refine am_e_getf (v := .int ((t + 1) + 1)) (am_nxt_of (i := (35, 3, .getfield 99, (0, 1, 662), 0)) (by decide +kernel)) ac_o0 rfl ?_
  refine am_e_iconst (w := 1) (am_nxt_of (i := (38, 1, .iconst 1, (0, 0, 0), 0)) (by decide +kernel)) rfl ?_
  refine am_e_iadd (w := ((t + 1) + 1) + 1) (am_nxt_of (i := (39, 1, .iadd, (0, 0, 0), 0)) (by decide +kernel)) rfl ?_
  refine am_e_putf (am_nxt_of (i := (40, 3, .putfield 99, (0, 1, 662), 0)) (by decide +kernel)) ac_o0 rfl ?_
  refine am_e_iinc (w := 0) (ls' := [(2, .int 0), (0, .ref 0), (1, .int x)]) (am_nxt_of (i := (43, 3, .iinc 2 (-8), (0, 0, 0), 0)) (by decide +kernel)) (v := 8) rfl (by decide +kernel) (by decide) rfl ?_
  refine am_e_goto (am_cur_of (i := (46, 3, .goto (-43), (2, 0, 0), 0)) (by decide +kernel)) (am_tgt_of (by decide +kernel)) ?_
  refine am_e_iload_n (am_nxt_of (i := (3, 1, .iload_n 2, (0, 0, 0), 0)) (by decide +kernel)) (v := 0) rfl ?_
  refine am_e_ifF (am_nxt_of (i := (4, 3, .ifCond .lt 45, (26, 0, 0), 0)) (by decide +kernel)) (am_c_ltF (by decide)) ?_
  refine am_e_aload_n (am_nxt_of (i := (7, 1, .aload_n 0, (0, 0, 0), 0)) (by decide +kernel)) (v := 0) rfl ?_
  refine am_e_getf (v := .int (((t + 1) + 1) + 1)) (am_nxt_of (i := (8, 3, .getfield 99, (0, 1, 662), 0)) (by decide +kernel)) ac_o0 rfl ?_
  refine am_e_sipush (w := 700) (am_nxt_of (i := (11, 3, .sipush 700, (0, 0, 0), 0)) (by decide +kernel)) (by decide) ?_
  refine am_e_cmpF (am_nxt_of (i := (14, 3, .if_icmp .ge 35, (26, 0, 0), 0)) (by decide +kernel)) (am_c_geF (ac_lt (by omega))) ?_
  have x3 := ab_ix (x := (((t + 1) + 1) + 1)) (n := 700) (by omega) (by omega)
  refine am_e_aload_n (am_nxt_of (i := (17, 1, .aload_n 0, (0, 0, 0), 0)) (by decide +kernel)) (v := 0) rfl ?_
  refine am_e_getf (v := .ref 1) (am_nxt_of (i := (18, 3, .getfield 11, (0, 0, 661), 0)) (by decide +kernel)) ac_o0 (ac_f00 I2) ?_
  refine am_e_aload_n (am_nxt_of (i := (21, 1, .aload_n 0, (0, 0, 0), 0)) (by decide +kernel)) (v := 0) rfl ?_
  refine am_e_getf (v := .int (((t + 1) + 1) + 1)) (am_nxt_of (i := (22, 3, .getfield 99, (0, 1, 662), 0)) (by decide +kernel)) ac_o0 rfl ?_
  refine am_e_iload_n (am_nxt_of (i := (25, 1, .iload_n 1, (0, 0, 0), 0)) (by decide +kernel)) (v := x) rfl ?_
  refine am_e_iload_n (am_nxt_of (i := (26, 1, .iload_n 2, (0, 0, 0), 0)) (by decide +kernel)) (v := 0) rfl ?_
  obtain ⟨v3, hv3⟩ : ∃ v : Int32, (x.toUInt32 >>> ((0 : Int32).toUInt32 &&& Int32.toUInt32 31)).toInt32 &&& 255 = v := ⟨_, rfl⟩
  refine am_e_iushr (w := (x.toUInt32 >>> ((0 : Int32).toUInt32 &&& Int32.toUInt32 31)).toInt32) (am_nxt_of (i := (27, 1, .iushr, (0, 0, 0), 0)) (by decide +kernel)) rfl ?_
  refine am_e_sipush (w := 255) (am_nxt_of (i := (28, 3, .sipush 255, (0, 0, 0), 0)) (by decide +kernel)) (by decide) ?_
  refine am_e_iand (w := v3) (am_nxt_of (i := (31, 1, .iand, (0, 0, 0), 0)) (by decide +kernel)) hv3 ?_
  refine am_e_iastore (am_nxt_of (i := (32, 1, .iastore, (0, 0, 0), 0)) (by decide +kernel)) ac_k1 x3 rfl ?_
  have e3 := ac_c1 (x := (((t + 1) + 1) + 1)) (by omega) (by omega)
  have I3 := ac_p01 (v := ((((t + 1) + 1) + 1) + 1)) (ac_w1 (q := ((((t + 1) + 1) + 1)).toNatClampNeg) (v := v3) I2) (by omega) (by omega)
  refine am_e_aload_n (am_nxt_of (i := (33, 1, .aload_n 0, (0, 0, 0), 0)) (by decide +kernel)) (v := 0) rfl ?_
  refine am_e_dup (am_nxt_of (i := (34, 1, .dup, (0, 0, 0), 0)) (by decide +kernel)) rfl ?_
  refine am_e_getf (v := .int (((t + 1) + 1) + 1)) (am_nxt_of (i := (35, 3, .getfield 99, (0, 1, 662), 0)) (by decide +kernel)) ac_o0 rfl ?_
  refine am_e_iconst (w := 1) (am_nxt_of (i := (38, 1, .iconst 1, (0, 0, 0), 0)) (by decide +kernel)) rfl ?_
  refine am_e_iadd (w := (((t + 1) + 1) + 1) + 1) (am_nxt_of (i := (39, 1, .iadd, (0, 0, 0), 0)) (by decide +kernel)) rfl ?_
  refine am_e_putf (am_nxt_of (i := (40, 3, .putfield 99, (0, 1, 662), 0)) (by decide +kernel)) ac_o0 rfl ?_
  refine am_e_iinc (w := (-8)) (ls' := [(2, .int (-8)), (0, .ref 0), (1, .int x)]) (am_nxt_of (i := (43, 3, .iinc 2 (-8), (0, 0, 0), 0)) (by decide +kernel)) (v := 0) rfl (by decide +kernel) (by decide) rfl ?_
  refine am_e_goto (am_cur_of (i := (46, 3, .goto (-43), (2, 0, 0), 0)) (by decide +kernel)) (am_tgt_of (by decide +kernel)) ?_
  refine am_e_iload_n (am_nxt_of (i := (3, 1, .iload_n 2, (0, 0, 0), 0)) (by decide +kernel)) (v := (-8)) rfl ?_
  refine am_e_ifT (am_nxt_of (i := (4, 3, .ifCond .lt 45, (26, 0, 0), 0)) (by decide +kernel)) (am_c_ltT (by decide)) (am_tgt_of (by decide +kernel)) ?_
  have hfr : ab_Fr [(0, 2), (1, 0)] h (am_up (am_up (am_up (am_up (am_up (am_up (am_up (am_up h 1 (t).toNatClampNeg (.int v0)) 0 1 (.int (t + 1))) 1 ((t + 1)).toNatClampNeg (.int v1)) 0 1 (.int ((t + 1) + 1))) 1 (((t + 1) + 1)).toNatClampNeg (.int v2)) 0 1 (.int (((t + 1) + 1) + 1))) 1 ((((t + 1) + 1) + 1)).toNatClampNeg (.int v3)) 0 1 (.int ((((t + 1) + 1) + 1) + 1))) := ab_Fr_up rfl (ab_Fr_up rfl (ab_Fr_up rfl (ab_Fr_up rfl (ab_Fr_up rfl (ab_Fr_up rfl (ab_Fr_up rfl (ab_Fr_up rfl (ab_Fr_refl))))))))
  exact am_e_vret (am_cur_of (i := (49, 1, .return_, (0, 0, 0), 0)) (by decide +kernel)) rfl rfl ⟨rfl, rfl, I3, ab_JX_fr hX rfl _ _ hfr hj, hfr, _, am_up_self _ _ _ _, by omega⟩
theorem ac_cfeed (hX : ab_XF X) {h : am_H} (hI : ab_Inv (ab_hi ab_tab) h) (hj : ab_JX X h) {t a b c d e : Int32} (et : h 0 1 = .int t) : am_Ek false am_G0 am_m15 0 (lv_args 0 [.ref 0, .int a, .int b, .int c, .int d, .int e]) [] am_ks0 h 0 0 (fun r ks h' => ks = am_ks0 ∧ ab_Inv (ab_hi ab_tab) h' ∧ ab_JX X h' ∧ ab_Fr [(0, 2), (1, 0)] h h' ∧ (680 < t.toInt ∧ r = some (.int (-1)) ∧ h' 0 1 = .int t ∨ t.toInt ≤ 680 ∧ ∃ t' : Int32, t'.toInt = t.toInt + 20 ∧ r = some (.int t') ∧ h' 0 1 = .int t')) := by
  have z6 : (680 : Int32).toInt = 680 := by decide
  obtain ⟨t', et', t0, t1⟩ := ac_g01 hI
  rw [et] at et'
  cases et'
  refine am_e_aload_n (am_nxt_of (i := (0, 1, .aload_n 0, (0, 0, 0), 0)) (by decide +kernel)) (v := 0) rfl ?_
  refine am_e_getf (v := .int t) (am_nxt_of (i := (1, 3, .getfield 99, (0, 1, 662), 0)) (by decide +kernel)) ac_o0 et ?_
  refine am_e_sipush (w := 680) (am_nxt_of (i := (4, 3, .sipush 680, (0, 0, 0), 0)) (by decide +kernel)) (by decide) ?_
  by_cases ht : (680 : Int32) < t
  · refine am_e_cmpF (am_nxt_of (i := (7, 3, .if_icmp .le 5, (6, 0, 0), 0)) (by decide +kernel)) (am_c_leF ht) ?_
    have hb := ac_lt' ht
    refine am_e_iconst (w := (-1)) (am_nxt_of (i := (10, 1, .iconst (-1), (0, 0, 0), 0)) (by decide +kernel)) rfl ?_
    exact am_e_iret (ty := .int) (am_cur_of (i := (11, 1, .ireturn, (0, 0, 0), 0)) (by decide +kernel)) rfl rfl rfl ⟨rfl, hI, hj, ab_Fr_refl, Or.inl ⟨by omega, rfl, et⟩⟩
  · refine am_e_cmpT (am_nxt_of (i := (7, 3, .if_icmp .le 5, (6, 0, 0), 0)) (by decide +kernel)) (am_c_leT ht) (am_tgt_of (by decide +kernel)) ?_
    have hb := ac_nlt' ht
    refine am_e_aload_n (am_nxt_of (i := (12, 1, .aload_n 0, (0, 0, 0), 0)) (by decide +kernel)) (v := 0) rfl ?_
    refine am_e_iload_n (am_nxt_of (i := (13, 1, .iload_n 1, (0, 0, 0), 0)) (by decide +kernel)) (v := a) rfl ?_
    refine am_e_callV (M' := am_m16) (o := 0) (ar := [.int a]) (rest := []) (L := lv_args 0 [.ref 0, .int a]) (am_nxt_of (i := (14, 3, .invokevirtual 103, (16, 714, 3), 0)) (by decide +kernel)) rfl rfl rfl rfl ac_o0 rfl rfl rfl ?_
    refine am_Ev_mono (ac_putFour hX hI hj et (by omega) (by omega)) (fun r ks h0 hq => ?_)
    obtain ⟨rfl, rfl, I0, J0, f0, t0', et0, e0⟩ := hq
    show am_Ek false am_G0 am_m15 9 _ [] _ _ _ _ _
    refine am_e_aload_n (am_nxt_of (i := (17, 1, .aload_n 0, (0, 0, 0), 0)) (by decide +kernel)) (v := 0) rfl ?_
    refine am_e_iload_n (am_nxt_of (i := (18, 1, .iload_n 2, (0, 0, 0), 0)) (by decide +kernel)) (v := b) rfl ?_
    refine am_e_callV (M' := am_m16) (o := 0) (ar := [.int b]) (rest := []) (L := lv_args 0 [.ref 0, .int b]) (am_nxt_of (i := (19, 3, .invokevirtual 103, (16, 714, 3), 0)) (by decide +kernel)) rfl rfl rfl rfl ac_o0 rfl rfl rfl ?_
    refine am_Ev_mono (ac_putFour hX I0 J0 et0 (by omega) (by omega)) (fun r ks h1 hq => ?_)
    obtain ⟨rfl, rfl, I1, J1, f1, t1', et1, e1⟩ := hq
    show am_Ek false am_G0 am_m15 12 _ [] _ _ _ _ _
    refine am_e_aload_n (am_nxt_of (i := (22, 1, .aload_n 0, (0, 0, 0), 0)) (by decide +kernel)) (v := 0) rfl ?_
    refine am_e_iload_n (am_nxt_of (i := (23, 1, .iload_n 3, (0, 0, 0), 0)) (by decide +kernel)) (v := c) rfl ?_
    refine am_e_callV (M' := am_m16) (o := 0) (ar := [.int c]) (rest := []) (L := lv_args 0 [.ref 0, .int c]) (am_nxt_of (i := (24, 3, .invokevirtual 103, (16, 714, 3), 0)) (by decide +kernel)) rfl rfl rfl rfl ac_o0 rfl rfl rfl ?_
    refine am_Ev_mono (ac_putFour hX I1 J1 et1 (by omega) (by omega)) (fun r ks h2 hq => ?_)
    obtain ⟨rfl, rfl, I2, J2, f2, t2', et2, e2⟩ := hq
    show am_Ek false am_G0 am_m15 15 _ [] _ _ _ _ _
    refine am_e_aload_n (am_nxt_of (i := (27, 1, .aload_n 0, (0, 0, 0), 0)) (by decide +kernel)) (v := 0) rfl ?_
    refine am_e_iload (am_nxt_of (i := (28, 2, .iload 4, (0, 0, 0), 0)) (by decide +kernel)) (v := d) rfl ?_
    refine am_e_callV (M' := am_m16) (o := 0) (ar := [.int d]) (rest := []) (L := lv_args 0 [.ref 0, .int d]) (am_nxt_of (i := (30, 3, .invokevirtual 103, (16, 714, 3), 0)) (by decide +kernel)) rfl rfl rfl rfl ac_o0 rfl rfl rfl ?_
    refine am_Ev_mono (ac_putFour hX I2 J2 et2 (by omega) (by omega)) (fun r ks h3 hq => ?_)
    obtain ⟨rfl, rfl, I3, J3, f3, t3', et3, e3⟩ := hq
    show am_Ek false am_G0 am_m15 18 _ [] _ _ _ _ _
    refine am_e_aload_n (am_nxt_of (i := (33, 1, .aload_n 0, (0, 0, 0), 0)) (by decide +kernel)) (v := 0) rfl ?_
    refine am_e_iload (am_nxt_of (i := (34, 2, .iload 5, (0, 0, 0), 0)) (by decide +kernel)) (v := e) rfl ?_
    refine am_e_callV (M' := am_m16) (o := 0) (ar := [.int e]) (rest := []) (L := lv_args 0 [.ref 0, .int e]) (am_nxt_of (i := (36, 3, .invokevirtual 103, (16, 714, 3), 0)) (by decide +kernel)) rfl rfl rfl rfl ac_o0 rfl rfl rfl ?_
    refine am_Ev_mono (ac_putFour hX I3 J3 et3 (by omega) (by omega)) (fun r ks h4 hq => ?_)
    obtain ⟨rfl, rfl, I4, J4, f4, t4', et4, e4⟩ := hq
    show am_Ek false am_G0 am_m15 21 _ [] _ _ _ _ _
    refine am_e_aload_n (am_nxt_of (i := (39, 1, .aload_n 0, (0, 0, 0), 0)) (by decide +kernel)) (v := 0) rfl ?_
    refine am_e_getf (v := .int t4') (am_nxt_of (i := (40, 3, .getfield 99, (0, 1, 662), 0)) (by decide +kernel)) ac_o0 et4 ?_
    exact am_e_iret (ty := .int) (am_cur_of (i := (43, 1, .ireturn, (0, 0, 0), 0)) (by decide +kernel)) rfl rfl rfl ⟨rfl, I4, J4, ab_Fr_trans (ab_Fr_trans (ab_Fr_trans (ab_Fr_trans f0 f1) f2) f3) f4, Or.inr ⟨by omega, t4', by omega, rfl, et4⟩⟩
def ac_ctT : List (Option ab_K) := some ([], 0, []) :: none :: none :: none :: none :: none :: some ([], 0, []) :: none :: ab_c2.drop 8
set_option maxRecDepth 1000000 in
theorem ac_ctq : ab_walk ab_tab [(0, 2), (0, 3), (0, 4), (0, 9)] ab_s2.2.2.2.1 [ab_s143, ab_s131, ab_s129, ab_s142, ab_s130, ab_s67] (ab_s2.2.2.2.2.drop 1) [(1, 1)] am_m17 ac_ctT [] am_m17.2.2.2 0 ab_k0 ac_ctT = true := by decide +kernel
theorem ac_ctext (hX : ab_XF X) {h : am_H} (hI : ab_Inv (ab_hi ab_tab) h) (hj : ab_JX X h) {n t : Int32} (et : h 0 1 = .int t) : am_Ek false am_G0 am_m17 0 (lv_args 0 [.ref 0, .int n]) [] am_ks0 h 0 0 (fun r ks h' => ks = am_ks0 ∧ ab_Inv (ab_hi ab_tab) h' ∧ ab_JX X h' ∧ ab_Fr ab_s2.2.2.2.1 h h' ∧ (∃ x : Int32, r = some (.int x)) ∧ ((n < 0 ∨ t < n) ∧ h' 0 1 = .int t ∨ ¬ (n < 0 ∨ t < n) ∧ h' 0 1 = .int 0)) := by
  obtain ⟨t', et', t0, t1⟩ := ac_g01 hI
  rw [et] at et'
  cases et'
  refine am_e_iload_n (am_nxt_of (i := (0, 1, .iload_n 1, (0, 0, 0), 0)) (by decide +kernel)) (v := n) rfl ?_
  by_cases h0 : (n : Int32) < 0
  · refine am_e_ifT (am_nxt_of (i := (1, 3, .ifCond .lt 11, (6, 0, 0), 0)) (by decide +kernel)) (am_c_ltT h0) (am_tgt_of (by decide +kernel)) ?_
    refine am_e_bipush (w := (-2)) (am_nxt_of (i := (12, 2, .bipush (-2), (0, 0, 0), 0)) (by decide +kernel)) (by decide) ?_
    exact am_e_iret (ty := .int) (am_cur_of (i := (14, 1, .ireturn, (0, 0, 0), 0)) (by decide +kernel)) rfl rfl rfl ⟨rfl, hI, hj, ab_Fr_refl, ⟨_, rfl⟩, Or.inl ⟨Or.inl h0, et⟩⟩
  · refine am_e_ifF (am_nxt_of (i := (1, 3, .ifCond .lt 11, (6, 0, 0), 0)) (by decide +kernel)) (am_c_ltF h0) ?_
    have hn := ac_nlt' h0
    refine am_e_iload_n (am_nxt_of (i := (4, 1, .iload_n 1, (0, 0, 0), 0)) (by decide +kernel)) (v := n) rfl ?_
    refine am_e_aload_n (am_nxt_of (i := (5, 1, .aload_n 0, (0, 0, 0), 0)) (by decide +kernel)) (v := 0) rfl ?_
    refine am_e_getf (v := .int t) (am_nxt_of (i := (6, 3, .getfield 99, (0, 1, 662), 0)) (by decide +kernel)) ac_o0 et ?_
    by_cases h1 : (t : Int32) < n
    · refine am_e_cmpF (am_nxt_of (i := (9, 3, .if_icmp .le 6, (8, 0, 0), 0)) (by decide +kernel)) (am_c_leF h1) ?_
      refine am_e_bipush (w := (-2)) (am_nxt_of (i := (12, 2, .bipush (-2), (0, 0, 0), 0)) (by decide +kernel)) (by decide) ?_
      exact am_e_iret (ty := .int) (am_cur_of (i := (14, 1, .ireturn, (0, 0, 0), 0)) (by decide +kernel)) rfl rfl rfl ⟨rfl, hI, hj, ab_Fr_refl, ⟨_, rfl⟩, Or.inl ⟨Or.inr h1, et⟩⟩
    · refine am_e_cmpT (am_nxt_of (i := (9, 3, .if_icmp .le 6, (8, 0, 0), 0)) (by decide +kernel)) (am_c_leT h1) (am_tgt_of (by decide +kernel)) ?_
      have hnt := ac_nlt' h1
      have z0 : (0 : Int32).toInt = 0 := by decide
      have hcl : ∀ s ∈ [ab_s143, ab_s131, ab_s129, ab_s142, ab_s130, ab_s67], ab_Con ab_tab (ab_JX X) s := List.forall_mem_cons.mpr ⟨ab_h143 hX, List.forall_mem_cons.mpr ⟨ab_h131 hX, List.forall_mem_cons.mpr ⟨ab_h129 hX, List.forall_mem_cons.mpr ⟨ab_h142 hX, List.forall_mem_cons.mpr ⟨ab_h130 hX, List.forall_mem_cons.mpr ⟨ab_h67 hX, fun _ h => absurd h List.not_mem_nil⟩⟩⟩⟩⟩⟩
      refine ab_all (T := ab_tab) (J := ab_JX X) (md := ab_s2.2.2.2.1) (mdo := [(0, 2), (0, 3), (0, 4), (0, 9)]) (fx := [(1, 1)]) (cl := [ab_s143, ab_s131, ab_s129, ab_s142, ab_s130, ab_s67]) (cs := ab_s2.2.2.2.2.drop 1) (M := am_m17) (ct := ac_ctT) (hs := []) (as := [.ref 0, .int n]) (h0 := h) (by decide) (ab_JX_fr hX rfl) hcl ?_ rfl (fun t ht => absurd ht List.not_mem_nil) ac_ctq 1000 8 ([([(0, ab_rf [0]), (1, ab_i 0 700)], [], [])], 39, []) rfl _ _ _ ⟨⟨_, List.mem_singleton.mpr rfl, ?_, trivial, ?_⟩, hI, hj, ab_Fr_refl, ?_⟩ ?_
      · intro rv h' c gI gj gF hc hg
        refine ⟨rfl, gI, gj, gF, ?_, Or.inr ⟨fun q => q.elim h0 h1, ?_⟩⟩
        · rcases List.mem_cons.mp hc with rfl | hc
          · exact ⟨_, ac_g0 hg.1 (v := -1) (by decide)⟩
          · have e := List.mem_singleton.mp hc
            subst e
            have hr := hg.1
            unfold ab_gR at hr
            split at hr
            · rename_i e
              cases e
            · rename_i V v e
              cases e
              obtain ⟨x, rfl, -⟩ := hr
              exact ⟨x, rfl⟩
            · exact hr.elim
        · have hz : ∃ v, ab_at [] h' (1, 1) = some v ∧ ab_g (ab_i 0 0) v := by
            rcases List.mem_cons.mp hc with rfl | hc
            · exact hg.2.2 _ List.mem_cons_self
            · have e := List.mem_singleton.mp hc
              subst e
              exact hg.2.2 _ List.mem_cons_self
          obtain ⟨v, g1, x, rfl, x0, x1⟩ := hz
          have x0 : (0 : Int) ≤ x.toInt := x0
          have x1 : x.toInt ≤ 0 := x1
          have g1 : some (h' 0 1) = some (.int x) := g1
          rw [Option.some.inj g1, show x = 0 from Int32.toInt_inj.mp (by omega)]
      · intro q hq
        rcases List.mem_cons.mp hq with rfl | hq
        · exact ⟨_, rfl, 0, rfl, List.mem_singleton.mpr rfl⟩
        · have e := List.mem_singleton.mp hq
          subst e
          exact ⟨_, rfl, ab_i_ok (by omega) (by omega)⟩
      · exact fun q hq => absurd hq List.not_mem_nil
      · intro w hw
        have e := List.mem_singleton.mp hw
        subst e
        exact ⟨n, rfl, rfl⟩
      · show (39 : Int) + 0 < 1000
        decide
theorem ac_mf_l (hX : ac_XF X) {h0 : am_H} {t a b c d e : Int32} (t0 : 0 ≤ t.toInt) (t1 : t.toInt ≤ 680) : ∀ (f : Nat) (k : Int32) (h : am_H), k.toInt + f = 20 → 0 ≤ k.toInt → ab_Inv (ab_hi ab_tab) h → ac_JX X h → ab_Fr [(164, 2), (164, 3), (165, 0)] h0 h → h 164 1 = .int t → am_Ek false am_G0 am_m149 13 [(0, .ref 164), (1, .int a), (2, .int b), (3, .int c), (4, .int d), (5, .int e), (6, .int k)] [] am_ks0 h 0 0 (fun r ks h' => ks = am_ks0 ∧ ab_Inv (ab_hi ab_tab) h' ∧ ac_JX X h' ∧ ab_Fr [(164, 2), (164, 3), (165, 0)] h0 h' ∧ ∃ t' : Int32, t'.toInt = t.toInt + 20 ∧ r = some (.int t') ∧ h' 164 1 = .int t') := by
  have z20 : (20 : Int32).toInt = 20 := by decide
  intro f
  induction f with
  | zero =>
    intro k h hf k0 hI hj hF et
    refine am_e_iload (am_nxt_of (i := (23, 2, .iload 6, (0, 0, 0), 0)) (by decide +kernel)) (v := k) rfl ?_
    refine am_e_bipush (w := 20) (am_nxt_of (i := (25, 2, .bipush 20, (0, 0, 0), 0)) (by decide +kernel)) (by decide) ?_
    refine am_e_cmpT (am_nxt_of (i := (27, 3, .if_icmp .ge 86, (58, 0, 0), 0)) (by decide +kernel)) (am_c_geT (ac_nlt (by omega))) (am_tgt_of (by decide +kernel)) ?_
    have ea := ab_iadd (x := t) (y := 20) (by omega) (by omega)
    have I2 := ac_p1 (v := t + 20) hI (by omega) (by omega)
    refine am_e_aload_n (am_nxt_of (i := (113, 1, .aload_n 0, (0, 0, 0), 0)) (by decide +kernel)) (v := 164) rfl ?_
    refine am_e_dup (am_nxt_of (i := (114, 1, .dup, (0, 0, 0), 0)) (by decide +kernel)) rfl ?_
    refine am_e_getf (v := .int t) (am_nxt_of (i := (115, 3, .getfield 142, (12, 1, 1385), 0)) (by decide +kernel)) ac_o et ?_
    refine am_e_bipush (w := 20) (am_nxt_of (i := (118, 2, .bipush 20, (0, 0, 0), 0)) (by decide +kernel)) (by decide) ?_
    refine am_e_iadd (w := t + 20) (am_nxt_of (i := (120, 1, .iadd, (0, 0, 0), 0)) (by decide +kernel)) rfl ?_
    refine am_e_putf (am_nxt_of (i := (121, 3, .putfield 142, (12, 1, 1385), 0)) (by decide +kernel)) ac_o rfl ?_
    refine am_e_aload_n (am_nxt_of (i := (124, 1, .aload_n 0, (0, 0, 0), 0)) (by decide +kernel)) (v := 164) rfl ?_
    refine am_e_getf (v := .int (t + 20)) (am_nxt_of (i := (125, 3, .getfield 142, (12, 1, 1385), 0)) (by decide +kernel)) ac_o rfl ?_
    exact am_e_iret (ty := .int) (am_cur_of (i := (128, 1, .ireturn, (0, 0, 0), 0)) (by decide +kernel)) rfl rfl rfl ⟨rfl, I2, ac_JX_fr hX (md := [(164, 2)]) rfl _ _ (ab_Fr_up rfl ab_Fr_refl) hj, ab_Fr_up rfl hF, _, by omega, rfl, am_up_self _ _ _ _⟩
  | succ f ih =>
    intro k h hf k0 hI hj hF et
    refine am_e_iload (am_nxt_of (i := (23, 2, .iload 6, (0, 0, 0), 0)) (by decide +kernel)) (v := k) rfl ?_
    refine am_e_bipush (w := 20) (am_nxt_of (i := (25, 2, .bipush 20, (0, 0, 0), 0)) (by decide +kernel)) (by decide) ?_
    refine am_e_cmpF (am_nxt_of (i := (27, 3, .if_icmp .ge 86, (58, 0, 0), 0)) (by decide +kernel)) (am_c_geF (ac_lt (by omega))) ?_
    have hw : ∀ x : Int32, am_Ek false am_G0 am_m149 37 [(0, .ref 164), (1, .int a), (2, .int b), (3, .int c), (4, .int d), (5, .int e), (6, .int k)] [.int x] am_ks0 h 0 0 (fun r ks h' => ks = am_ks0 ∧ ab_Inv (ab_hi ab_tab) h' ∧ ac_JX X h' ∧ ab_Fr [(164, 2), (164, 3), (165, 0)] h0 h' ∧ ∃ t' : Int32, t'.toInt = t.toInt + 20 ∧ r = some (.int t') ∧ h' 164 1 = .int t') := by
      intro x
      have ea := ab_iadd (x := t) (y := k) (by omega) (by omega)
      have hx := ab_ix (x := t + k) (n := 700) (by omega) (by omega)
      obtain ⟨v, hv⟩ : ∃ v : Int32, x >>> ((24 - (8 : Int32) * (k - k / 4 * 4)) &&& 31) &&& 255 = v := ⟨_, rfl⟩
      refine am_e_istore (ls' := [(7, .int x), (0, .ref 164), (1, .int a), (2, .int b), (3, .int c), (4, .int d), (5, .int e), (6, .int k)]) (am_nxt_of (i := (76, 2, .istore 7, (0, 0, 0), 0)) (by decide +kernel)) (by decide +kernel) rfl ?_
      refine am_e_aload_n (am_nxt_of (i := (78, 1, .aload_n 0, (0, 0, 0), 0)) (by decide +kernel)) (v := 164) rfl ?_
      refine am_e_getf (am_nxt_of (i := (79, 3, .getfield 7, (12, 0, 1384), 0)) (by decide +kernel)) ac_o (ac_f0 hI) ?_
      refine am_e_aload_n (am_nxt_of (i := (82, 1, .aload_n 0, (0, 0, 0), 0)) (by decide +kernel)) (v := 164) rfl ?_
      refine am_e_getf (v := .int t) (am_nxt_of (i := (83, 3, .getfield 142, (12, 1, 1385), 0)) (by decide +kernel)) ac_o et ?_
      refine am_e_iload (am_nxt_of (i := (86, 2, .iload 6, (0, 0, 0), 0)) (by decide +kernel)) (v := k) rfl ?_
      refine am_e_iadd (w := t + k) (am_nxt_of (i := (88, 1, .iadd, (0, 0, 0), 0)) (by decide +kernel)) rfl ?_
      refine am_e_iload (am_nxt_of (i := (89, 2, .iload 7, (0, 0, 0), 0)) (by decide +kernel)) (v := x) rfl ?_
      refine am_e_bipush (w := 24) (am_nxt_of (i := (91, 2, .bipush 24, (0, 0, 0), 0)) (by decide +kernel)) (by decide) ?_
      refine am_e_bipush (w := 8) (am_nxt_of (i := (93, 2, .bipush 8, (0, 0, 0), 0)) (by decide +kernel)) (by decide) ?_
      refine am_e_iload (am_nxt_of (i := (95, 2, .iload 6, (0, 0, 0), 0)) (by decide +kernel)) (v := k) rfl ?_
      refine am_e_iconst (w := 4) (am_nxt_of (i := (97, 1, .iconst 4, (0, 0, 0), 0)) (by decide +kernel)) rfl ?_
      refine am_e_irem (w := k - k / 4 * 4) (am_nxt_of (i := (98, 1, .irem, (0, 0, 0), 0)) (by decide +kernel)) (by decide) rfl ?_
      refine am_e_imul (w := 8 * (k - k / 4 * 4)) (am_nxt_of (i := (99, 1, .imul, (0, 0, 0), 0)) (by decide +kernel)) rfl ?_
      refine am_e_isub (w := 24 - (8 * (k - k / 4 * 4))) (am_nxt_of (i := (100, 1, .isub, (0, 0, 0), 0)) (by decide +kernel)) rfl ?_
      refine am_e_ishr (w := x >>> ((24 - (8 : Int32) * (k - k / 4 * 4)) &&& 31)) (am_nxt_of (i := (101, 1, .ishr, (0, 0, 0), 0)) (by decide +kernel)) rfl ?_
      refine am_e_sipush (w := 255) (am_nxt_of (i := (102, 3, .sipush 255, (0, 0, 0), 0)) (by decide +kernel)) (by decide) ?_
      refine am_e_iand (w := v) (am_nxt_of (i := (105, 1, .iand, (0, 0, 0), 0)) (by decide +kernel)) hv ?_
      refine am_e_iastore (am_nxt_of (i := (106, 1, .iastore, (0, 0, 0), 0)) (by decide +kernel)) ac_k165 hx rfl ?_
      have I2 := ac_w165 (q := (t + k).toNatClampNeg) (v := v) hI (ab_32 v).1 (ab_32 v).2
      have e1 := ab_inc1 k0 (by omega)
      have hfr : ab_Fr [(165, 0)] h (am_up h 165 (t + k).toNatClampNeg (.int v)) := ab_Fr_up rfl ab_Fr_refl
      refine am_e_iinc (w := k + Int32.ofInt 1) (ls' := [(6, .int (k + Int32.ofInt 1)), (7, .int x), (0, .ref 164), (1, .int a), (2, .int b), (3, .int c), (4, .int d), (5, .int e)]) (am_nxt_of (i := (107, 3, .iinc 6 1, (0, 0, 0), 0)) (by decide +kernel)) (v := k) rfl (by decide +kernel) rfl rfl ?_
      refine am_e_goto (am_cur_of (i := (110, 3, .goto (-87), (13, 0, 0), 0)) (by decide +kernel)) (am_tgt_of (by decide +kernel)) ?_
      refine am_Ek_ls (ls' := [(0, .ref 164), (1, .int a), (2, .int b), (3, .int c), (4, .int d), (5, .int e), (6, .int (k + Int32.ofInt 1))]) ⟨rfl, rfl, rfl, rfl, rfl, rfl, rfl, trivial⟩ ?_
      exact ih _ _ (by omega) (by omega) I2 (ac_JX_fr hX rfl _ _ hfr hj) (ab_Fr_trans hF (ab_mdle_Fr (by decide) hfr)) et
    refine am_e_iload (am_nxt_of (i := (30, 2, .iload 6, (0, 0, 0), 0)) (by decide +kernel)) (v := k) rfl ?_
    refine am_e_iconst (w := 4) (am_nxt_of (i := (32, 1, .iconst 4, (0, 0, 0), 0)) (by decide +kernel)) rfl ?_
    by_cases hk0 : (k : Int32) < 4
    · refine am_e_cmpF (am_nxt_of (i := (33, 3, .if_icmp .ge 7, (21, 0, 0), 0)) (by decide +kernel)) (am_c_geF hk0) ?_
      refine am_e_iload_n (am_nxt_of (i := (36, 1, .iload_n 1, (0, 0, 0), 0)) (by decide +kernel)) (v := a) rfl ?_
      refine am_e_goto (am_cur_of (i := (37, 3, .goto 39, (37, 0, 0), 0)) (by decide +kernel)) (am_tgt_of (by decide +kernel)) ?_
      refine am_Ek_ls (ls' := [(0, .ref 164), (1, .int a), (2, .int b), (3, .int c), (4, .int d), (5, .int e), (6, .int k)]) ⟨rfl, rfl, rfl, rfl, rfl, rfl, rfl, trivial⟩ ?_
      exact hw _
    · refine am_e_cmpT (am_nxt_of (i := (33, 3, .if_icmp .ge 7, (21, 0, 0), 0)) (by decide +kernel)) (am_c_geT hk0) (am_tgt_of (by decide +kernel)) ?_
      refine am_e_iload (am_nxt_of (i := (40, 2, .iload 6, (0, 0, 0), 0)) (by decide +kernel)) (v := k) rfl ?_
      refine am_e_bipush (w := 8) (am_nxt_of (i := (42, 2, .bipush 8, (0, 0, 0), 0)) (by decide +kernel)) (by decide) ?_
      by_cases hk1 : (k : Int32) < 8
      · refine am_e_cmpF (am_nxt_of (i := (44, 3, .if_icmp .ge 7, (26, 0, 0), 0)) (by decide +kernel)) (am_c_geF hk1) ?_
        refine am_e_iload_n (am_nxt_of (i := (47, 1, .iload_n 2, (0, 0, 0), 0)) (by decide +kernel)) (v := b) rfl ?_
        refine am_e_goto (am_cur_of (i := (48, 3, .goto 28, (37, 0, 0), 0)) (by decide +kernel)) (am_tgt_of (by decide +kernel)) ?_
        refine am_Ek_ls (ls' := [(0, .ref 164), (1, .int a), (2, .int b), (3, .int c), (4, .int d), (5, .int e), (6, .int k)]) ⟨rfl, rfl, rfl, rfl, rfl, rfl, rfl, trivial⟩ ?_
        exact hw _
      · refine am_e_cmpT (am_nxt_of (i := (44, 3, .if_icmp .ge 7, (26, 0, 0), 0)) (by decide +kernel)) (am_c_geT hk1) (am_tgt_of (by decide +kernel)) ?_
        refine am_e_iload (am_nxt_of (i := (51, 2, .iload 6, (0, 0, 0), 0)) (by decide +kernel)) (v := k) rfl ?_
        refine am_e_bipush (w := 12) (am_nxt_of (i := (53, 2, .bipush 12, (0, 0, 0), 0)) (by decide +kernel)) (by decide) ?_
        by_cases hk2 : (k : Int32) < 12
        · refine am_e_cmpF (am_nxt_of (i := (55, 3, .if_icmp .ge 7, (31, 0, 0), 0)) (by decide +kernel)) (am_c_geF hk2) ?_
          refine am_e_iload_n (am_nxt_of (i := (58, 1, .iload_n 3, (0, 0, 0), 0)) (by decide +kernel)) (v := c) rfl ?_
          refine am_e_goto (am_cur_of (i := (59, 3, .goto 17, (37, 0, 0), 0)) (by decide +kernel)) (am_tgt_of (by decide +kernel)) ?_
          refine am_Ek_ls (ls' := [(0, .ref 164), (1, .int a), (2, .int b), (3, .int c), (4, .int d), (5, .int e), (6, .int k)]) ⟨rfl, rfl, rfl, rfl, rfl, rfl, rfl, trivial⟩ ?_
          exact hw _
        · refine am_e_cmpT (am_nxt_of (i := (55, 3, .if_icmp .ge 7, (31, 0, 0), 0)) (by decide +kernel)) (am_c_geT hk2) (am_tgt_of (by decide +kernel)) ?_
          refine am_e_iload (am_nxt_of (i := (62, 2, .iload 6, (0, 0, 0), 0)) (by decide +kernel)) (v := k) rfl ?_
          refine am_e_bipush (w := 16) (am_nxt_of (i := (64, 2, .bipush 16, (0, 0, 0), 0)) (by decide +kernel)) (by decide) ?_
          by_cases hk3 : (k : Int32) < 16
          · refine am_e_cmpF (am_nxt_of (i := (66, 3, .if_icmp .ge 8, (36, 0, 0), 0)) (by decide +kernel)) (am_c_geF hk3) ?_
            refine am_e_iload (am_nxt_of (i := (69, 2, .iload 4, (0, 0, 0), 0)) (by decide +kernel)) (v := d) rfl ?_
            refine am_e_goto (am_cur_of (i := (71, 3, .goto 5, (37, 0, 0), 0)) (by decide +kernel)) (am_tgt_of (by decide +kernel)) ?_
            refine am_Ek_ls (ls' := [(0, .ref 164), (1, .int a), (2, .int b), (3, .int c), (4, .int d), (5, .int e), (6, .int k)]) ⟨rfl, rfl, rfl, rfl, rfl, rfl, rfl, trivial⟩ ?_
            exact hw _
          · refine am_e_cmpT (am_nxt_of (i := (66, 3, .if_icmp .ge 8, (36, 0, 0), 0)) (by decide +kernel)) (am_c_geT hk3) (am_tgt_of (by decide +kernel)) ?_
            refine am_e_iload (am_nxt_of (i := (74, 2, .iload 5, (0, 0, 0), 0)) (by decide +kernel)) (v := e) rfl ?_
            refine am_Ek_ls (ls' := [(0, .ref 164), (1, .int a), (2, .int b), (3, .int c), (4, .int d), (5, .int e), (6, .int k)]) ⟨rfl, rfl, rfl, rfl, rfl, rfl, rfl, trivial⟩ ?_
            exact hw _
theorem ac_mfeed (hX : ac_XF X) {h0 : am_H} {t a b c d e : Int32} (hI : ab_Inv (ab_hi ab_tab) h0) (hj : ac_JX X h0) (et : h0 164 1 = .int t) : am_Ek false am_G0 am_m149 0 (lv_args 0 [.ref 164, .int a, .int b, .int c, .int d, .int e]) [] am_ks0 h0 0 0 (fun r ks h' => ks = am_ks0 ∧ ab_Inv (ab_hi ab_tab) h' ∧ ac_JX X h' ∧ ab_Fr [(164, 2), (164, 3), (165, 0)] h0 h' ∧ (680 < t.toInt ∧ r = some (.int (-1)) ∧ h' 164 1 = .int t ∨ t.toInt ≤ 680 ∧ ∃ t' : Int32, t'.toInt = t.toInt + 20 ∧ r = some (.int t') ∧ h' 164 1 = .int t')) := by
  have z20 : (20 : Int32).toInt = 20 := by decide
  have z700 : (700 : Int32).toInt = 700 := by decide
  obtain ⟨t', et', t0, t1⟩ := ac_g1 hI
  rw [et] at et'
  cases et'
  have I1 := ac_p2 (v := 0) hI (by decide) (by decide)
  have J1 := ac_JX_fr hX (md := [(164, 3)]) rfl _ (am_up h0 164 2 (.int 0)) (ab_Fr_up rfl ab_Fr_refl) hj
  have f1 : ab_Fr [(164, 2), (164, 3), (165, 0)] h0 (am_up h0 164 2 (.int 0)) := ab_Fr_up rfl ab_Fr_refl
  have ea := ab_iadd (x := t) (y := 20) (by omega) (by omega)
  refine am_e_aload_n (am_nxt_of (i := (0, 1, .aload_n 0, (0, 0, 0), 0)) (by decide +kernel)) (v := 164) rfl ?_
  refine am_e_iconst (w := 0) (am_nxt_of (i := (1, 1, .iconst 0, (0, 0, 0), 0)) (by decide +kernel)) rfl ?_
  refine am_e_putf (am_nxt_of (i := (2, 3, .putfield 139, (12, 2, 1386), 0)) (by decide +kernel)) ac_o rfl ?_
  refine am_e_aload_n (am_nxt_of (i := (5, 1, .aload_n 0, (0, 0, 0), 0)) (by decide +kernel)) (v := 164) rfl ?_
  refine am_e_getf (v := .int t) (am_nxt_of (i := (6, 3, .getfield 142, (12, 1, 1385), 0)) (by decide +kernel)) ac_o et ?_
  refine am_e_bipush (w := 20) (am_nxt_of (i := (9, 2, .bipush 20, (0, 0, 0), 0)) (by decide +kernel)) (by decide) ?_
  refine am_e_iadd (w := t + 20) (am_nxt_of (i := (11, 1, .iadd, (0, 0, 0), 0)) (by decide +kernel)) rfl ?_
  refine am_e_sipush (w := 700) (am_nxt_of (i := (12, 3, .sipush 700, (0, 0, 0), 0)) (by decide +kernel)) (by decide) ?_
  by_cases ht : (700 : Int32) < (t + 20)
  · refine am_e_cmpF (am_nxt_of (i := (15, 3, .if_icmp .le 5, (11, 0, 0), 0)) (by decide +kernel)) (am_c_leF ht) ?_
    have hb := ac_lt' ht
    refine am_e_iconst (w := (-1)) (am_nxt_of (i := (18, 1, .iconst (-1), (0, 0, 0), 0)) (by decide +kernel)) rfl ?_
    exact am_e_iret (ty := .int) (am_cur_of (i := (19, 1, .ireturn, (0, 0, 0), 0)) (by decide +kernel)) rfl rfl rfl ⟨rfl, I1, J1, f1, Or.inl ⟨by omega, rfl, et⟩⟩
  · refine am_e_cmpT (am_nxt_of (i := (15, 3, .if_icmp .le 5, (11, 0, 0), 0)) (by decide +kernel)) (am_c_leT ht) (am_tgt_of (by decide +kernel)) ?_
    have hb := ac_nlt' ht
    refine am_e_iconst (w := 0) (am_nxt_of (i := (20, 1, .iconst 0, (0, 0, 0), 0)) (by decide +kernel)) rfl ?_
    refine am_e_istore (ls' := [(6, .int 0), (0, .ref 164), (1, .int a), (2, .int b), (3, .int c), (4, .int d), (5, .int e)]) (am_nxt_of (i := (21, 2, .istore 6, (0, 0, 0), 0)) (by decide +kernel)) (by decide +kernel) rfl ?_
    refine am_Ek_ls (ls' := [(0, .ref 164), (1, .int a), (2, .int b), (3, .int c), (4, .int d), (5, .int e), (6, .int 0)]) ⟨rfl, rfl, rfl, rfl, rfl, rfl, rfl, trivial⟩ ?_
    refine am_Ev_mono (ac_mf_l hX t0 (by omega) 20 0 _ (by decide) (by decide) I1 J1 f1 et) (fun r ks h' hq => ?_)
    obtain ⟨q1, q2, q3, q4, q5⟩ := hq
    exact ⟨q1, q2, q3, q4, Or.inr ⟨by omega, q5⟩⟩
end ACN
