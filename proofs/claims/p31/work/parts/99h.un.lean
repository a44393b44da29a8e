/-! ===== THE MODEL'S put, remember, take, undo (wip/s/gen99h.py) ===== -/
section ACH
variable {X : am_H → Prop}
theorem ac_J_200 (hX : ac_XF X) {h : am_H} {q : Nat} {v : Int32} (hj : ac_JX X h) (hv : q % 17 = 3 → -99999 ≤ v.toInt ∧ v.toInt ≤ 99999) : ac_JX X (am_up h 200 q (.int v)) := by
  obtain ⟨⟨j1, j2, j3, j4, j5, j6, j7, j8, j9, j10, j11, j12, j13⟩, hx⟩ := hj
  refine ⟨⟨j1, j2, j3, j4, j5, j6, j7, ⟨fun u hu => ?_, j8.2⟩, j9, j10, j11, j12, j13⟩, ac_X_up hX (by decide) (fun e => absurd e (by decide)) hx⟩
  by_cases hq : 17 * u + 3 = q
  · rw [hq]
    exact ⟨v, am_up_self _ _ _ _, hv (by omega)⟩
  · rw [am_up_same _ _ _ _ _ hq]
    exact j8.1 u hu
theorem ac_J_201 (hX : ac_XF X) {h : am_H} {q : Nat} {v : Int32} (hj : ac_JX X h) (hv : q = 3 → -99999 ≤ v.toInt ∧ v.toInt ≤ 99999) : ac_JX X (am_up h 201 q (.int v)) := by
  obtain ⟨⟨j1, j2, j3, j4, j5, j6, j7, j8, j9, j10, j11, j12, j13⟩, hx⟩ := hj
  refine ⟨⟨j1, j2, j3, j4, j5, j6, j7, ⟨j8.1, ?_⟩, j9, j10, j11, j12, j13⟩, ac_X_up hX (by decide) (fun e => absurd e (by decide)) hx⟩
  by_cases hq : 3 = q
  · rw [hq]
    exact ⟨v, am_up_self _ _ _ _, hv hq.symm⟩
  · rw [am_up_same _ _ _ _ _ hq]
    exact j8.2
theorem ac_i1 {i c : Int32} {u L n : Nat} (hi : i.toInt = u) (hc : c.toInt = n) (hL : u + n < L) (hL2 : L ≤ 1000) : ¬ ((i + c) < 0 ∨ L ≤ (i + c).toNatClampNeg) ∧ (i + c).toNatClampNeg = u + n := by
  have e := ab_iadd (x := i) (y := c) (by omega) (by omega)
  exact ⟨ab_ix (by omega) (by omega), ab_clamp (by omega)⟩
theorem ac_i2 {i c d : Int32} {u L n m : Nat} (hi : i.toInt = u) (hc : c.toInt = n) (hd : d.toInt = m) (hL : u + n + m < L) (hL2 : L ≤ 1000) : ¬ ((i + c + d) < 0 ∨ L ≤ (i + c + d).toNatClampNeg) ∧ (i + c + d).toNatClampNeg = u + n + m := by
  have e := ab_iadd (x := i) (y := c) (by omega) (by omega)
  have e2 := ab_iadd (x := i + c) (y := d) (by omega) (by omega)
  exact ⟨ab_ix (by omega) (by omega), ab_clamp (by omega)⟩
theorem ac_i0 {i : Int32} {u L : Nat} (hi : i.toInt = u) (hL : u < L) : ¬ (i < 0 ∨ L ≤ i.toNatClampNeg) ∧ i.toNatClampNeg = u := ⟨ab_ix (by omega) (by omega), ab_clamp hi⟩
theorem ac_put200 (hX : ac_XF X) {h : am_H} (hI : ab_Inv (ab_hi ab_tab) h) (hj : ac_JX X h) {i : Int32} {u : Nat} (hi : i.toInt = (17 * u : Nat)) (hu : u ≤ 19) : am_Ek false am_G0 am_m208 0 (lv_args 0 [.ref 164, .ref 200, .int i]) [] am_ks0 h 0 0 (fun r ks h' => ks = am_ks0 ∧ r = none ∧ ab_Inv (ab_hi ab_tab) h' ∧ ac_JX X h' ∧ ab_Fr [(200, 0)] h h') := by
  refine am_e_aload_n (am_nxt_of (i := (0, 1, .aload_n 1, (0, 0, 0), 0)) (by decide +kernel)) (v := 200) rfl ?_
  refine am_e_iload_n (am_nxt_of (i := (1, 1, .iload_n 2, (0, 0, 0), 0)) (by decide +kernel)) (v := i) rfl ?_
  refine am_e_aload_n (am_nxt_of (i := (2, 1, .aload_n 0, (0, 0, 0), 0)) (by decide +kernel)) (v := 164) rfl ?_
  refine am_e_getf (am_nxt_of (i := (3, 3, .getfield 85, (12, 50, 1434), 0)) (by decide +kernel)) ac_o (ac_f50 hI) ?_
  refine am_e_iconst (w := 0) (am_nxt_of (i := (6, 1, .iconst 0, (0, 0, 0), 0)) (by decide +kernel)) rfl ?_
  obtain ⟨v, ev, vl, vu⟩ := ac_r188 hI (q := 0) (by decide)
  refine am_e_iaload (v := v) (q := 0) (am_nxt_of (i := (7, 1, .iaload, (0, 0, 0), 0)) (by decide +kernel)) ac_k188 (by decide) (by decide) ev ?_
  refine am_e_iastore (am_nxt_of (i := (8, 1, .iastore, (0, 0, 0), 0)) (by decide +kernel)) ac_k200 (ac_i0 hi (L := 340) (by omega)).1 (ac_i0 hi (L := 340) (by omega)).2 ?_
  have I1 := ac_w200 (q := 17 * u) (v := v) hI (ab_32 v).1 (ab_32 v).2
  have J1 := ac_J_200 hX (q := 17 * u) (v := v) hj (fun e => by omega)
  have F1 : ab_Fr [(200, 0)] h (am_up h 200 (17 * u) (.int v)) := ab_Fr_up rfl ab_Fr_refl
  generalize am_up h 200 (17 * u) (.int v) = h1 at I1 J1 F1 ⊢
  clear ev
  refine am_e_aload_n (am_nxt_of (i := (9, 1, .aload_n 1, (0, 0, 0), 0)) (by decide +kernel)) (v := 200) rfl ?_
  refine am_e_iload_n (am_nxt_of (i := (10, 1, .iload_n 2, (0, 0, 0), 0)) (by decide +kernel)) (v := i) rfl ?_
  refine am_e_iconst (w := 1) (am_nxt_of (i := (11, 1, .iconst 1, (0, 0, 0), 0)) (by decide +kernel)) rfl ?_
  refine am_e_iadd (w := i + 1) (am_nxt_of (i := (12, 1, .iadd, (0, 0, 0), 0)) (by decide +kernel)) rfl ?_
  refine am_e_aload_n (am_nxt_of (i := (13, 1, .aload_n 0, (0, 0, 0), 0)) (by decide +kernel)) (v := 164) rfl ?_
  refine am_e_getf (am_nxt_of (i := (14, 3, .getfield 88, (12, 51, 1435), 0)) (by decide +kernel)) ac_o (ac_f51 I1) ?_
  refine am_e_iconst (w := 0) (am_nxt_of (i := (17, 1, .iconst 0, (0, 0, 0), 0)) (by decide +kernel)) rfl ?_
  obtain ⟨v, ev, vl, vu⟩ := ac_r189 I1 (q := 0) (by decide)
  refine am_e_iaload (v := v) (q := 0) (am_nxt_of (i := (18, 1, .iaload, (0, 0, 0), 0)) (by decide +kernel)) ac_k189 (by decide) (by decide) ev ?_
  refine am_e_iastore (am_nxt_of (i := (19, 1, .iastore, (0, 0, 0), 0)) (by decide +kernel)) ac_k200 (ac_i1 hi (c := 1) (n := 1) (L := 340) (by decide) (by omega) (by decide)).1 (ac_i1 hi (c := 1) (n := 1) (L := 340) (by decide) (by omega) (by decide)).2 ?_
  have I2 := ac_w200 (q := 17 * u + 1) (v := v) I1 (ab_32 v).1 (ab_32 v).2
  have J2 := ac_J_200 hX (q := 17 * u + 1) (v := v) J1 (fun e => by omega)
  have F2 : ab_Fr [(200, 0)] h (am_up h1 200 (17 * u + 1) (.int v)) := ab_Fr_up rfl F1
  generalize am_up h1 200 (17 * u + 1) (.int v) = h2 at I2 J2 F2 ⊢
  clear ev
  refine am_e_aload_n (am_nxt_of (i := (20, 1, .aload_n 1, (0, 0, 0), 0)) (by decide +kernel)) (v := 200) rfl ?_
  refine am_e_iload_n (am_nxt_of (i := (21, 1, .iload_n 2, (0, 0, 0), 0)) (by decide +kernel)) (v := i) rfl ?_
  refine am_e_iconst (w := 2) (am_nxt_of (i := (22, 1, .iconst 2, (0, 0, 0), 0)) (by decide +kernel)) rfl ?_
  refine am_e_iadd (w := i + 2) (am_nxt_of (i := (23, 1, .iadd, (0, 0, 0), 0)) (by decide +kernel)) rfl ?_
  refine am_e_aload_n (am_nxt_of (i := (24, 1, .aload_n 0, (0, 0, 0), 0)) (by decide +kernel)) (v := 164) rfl ?_
  refine am_e_getf (am_nxt_of (i := (25, 3, .getfield 91, (12, 52, 1436), 0)) (by decide +kernel)) ac_o (ac_f52 I2) ?_
  refine am_e_iconst (w := 0) (am_nxt_of (i := (28, 1, .iconst 0, (0, 0, 0), 0)) (by decide +kernel)) rfl ?_
  obtain ⟨v, ev, vl, vu⟩ := ac_r190 I2 (q := 0) (by decide)
  refine am_e_iaload (v := v) (q := 0) (am_nxt_of (i := (29, 1, .iaload, (0, 0, 0), 0)) (by decide +kernel)) ac_k190 (by decide) (by decide) ev ?_
  refine am_e_iastore (am_nxt_of (i := (30, 1, .iastore, (0, 0, 0), 0)) (by decide +kernel)) ac_k200 (ac_i1 hi (c := 2) (n := 2) (L := 340) (by decide) (by omega) (by decide)).1 (ac_i1 hi (c := 2) (n := 2) (L := 340) (by decide) (by omega) (by decide)).2 ?_
  have I3 := ac_w200 (q := 17 * u + 2) (v := v) I2 (ab_32 v).1 (ab_32 v).2
  have J3 := ac_J_200 hX (q := 17 * u + 2) (v := v) J2 (fun e => by omega)
  have F3 : ab_Fr [(200, 0)] h (am_up h2 200 (17 * u + 2) (.int v)) := ab_Fr_up rfl F2
  generalize am_up h2 200 (17 * u + 2) (.int v) = h3 at I3 J3 F3 ⊢
  clear ev
  refine am_e_aload_n (am_nxt_of (i := (31, 1, .aload_n 1, (0, 0, 0), 0)) (by decide +kernel)) (v := 200) rfl ?_
  refine am_e_iload_n (am_nxt_of (i := (32, 1, .iload_n 2, (0, 0, 0), 0)) (by decide +kernel)) (v := i) rfl ?_
  refine am_e_iconst (w := 3) (am_nxt_of (i := (33, 1, .iconst 3, (0, 0, 0), 0)) (by decide +kernel)) rfl ?_
  refine am_e_iadd (w := i + 3) (am_nxt_of (i := (34, 1, .iadd, (0, 0, 0), 0)) (by decide +kernel)) rfl ?_
  refine am_e_aload_n (am_nxt_of (i := (35, 1, .aload_n 0, (0, 0, 0), 0)) (by decide +kernel)) (v := 164) rfl ?_
  refine am_e_getf (am_nxt_of (i := (36, 3, .getfield 103, (12, 56, 1440), 0)) (by decide +kernel)) ac_o (ac_f56 I3) ?_
  refine am_e_iconst (w := 0) (am_nxt_of (i := (39, 1, .iconst 0, (0, 0, 0), 0)) (by decide +kernel)) rfl ?_
  obtain ⟨v, ev, vl, vu⟩ := ac_r194 I3 (q := 0) (by decide)
  refine am_e_iaload (v := v) (q := 0) (am_nxt_of (i := (40, 1, .iaload, (0, 0, 0), 0)) (by decide +kernel)) ac_k194 (by decide) (by decide) ev ?_
  refine am_e_iastore (am_nxt_of (i := (41, 1, .iastore, (0, 0, 0), 0)) (by decide +kernel)) ac_k200 (ac_i1 hi (c := 3) (n := 3) (L := 340) (by decide) (by omega) (by decide)).1 (ac_i1 hi (c := 3) (n := 3) (L := 340) (by decide) (by omega) (by decide)).2 ?_
  have I4 := ac_w200 (q := 17 * u + 3) (v := v) I3 (ab_32 v).1 (ab_32 v).2
  have J4 := ac_J_200 hX (q := 17 * u + 3) (v := v) J3 (fun _ => ⟨vl, vu⟩)
  have F4 : ab_Fr [(200, 0)] h (am_up h3 200 (17 * u + 3) (.int v)) := ab_Fr_up rfl F3
  generalize am_up h3 200 (17 * u + 3) (.int v) = h4 at I4 J4 F4 ⊢
  clear ev
  obtain ⟨v, ev, -⟩ := ac_g57 I4
  refine am_e_aload_n (am_nxt_of (i := (42, 1, .aload_n 1, (0, 0, 0), 0)) (by decide +kernel)) (v := 200) rfl ?_
  refine am_e_iload_n (am_nxt_of (i := (43, 1, .iload_n 2, (0, 0, 0), 0)) (by decide +kernel)) (v := i) rfl ?_
  refine am_e_iconst (w := 4) (am_nxt_of (i := (44, 1, .iconst 4, (0, 0, 0), 0)) (by decide +kernel)) rfl ?_
  refine am_e_iadd (w := i + 4) (am_nxt_of (i := (45, 1, .iadd, (0, 0, 0), 0)) (by decide +kernel)) rfl ?_
  refine am_e_aload_n (am_nxt_of (i := (46, 1, .aload_n 0, (0, 0, 0), 0)) (by decide +kernel)) (v := 164) rfl ?_
  refine am_e_getf (v := .int v) (am_nxt_of (i := (47, 3, .getfield 349, (12, 57, 1441), 0)) (by decide +kernel)) ac_o ev ?_
  refine am_e_iastore (am_nxt_of (i := (50, 1, .iastore, (0, 0, 0), 0)) (by decide +kernel)) ac_k200 (ac_i1 hi (c := 4) (n := 4) (L := 340) (by decide) (by omega) (by decide)).1 (ac_i1 hi (c := 4) (n := 4) (L := 340) (by decide) (by omega) (by decide)).2 ?_
  have I5 := ac_w200 (q := 17 * u + 4) (v := v) I4 (ab_32 v).1 (ab_32 v).2
  have J5 := ac_J_200 hX (q := 17 * u + 4) (v := v) J4 (fun e => by omega)
  have F5 : ab_Fr [(200, 0)] h (am_up h4 200 (17 * u + 4) (.int v)) := ab_Fr_up rfl F4
  generalize am_up h4 200 (17 * u + 4) (.int v) = h5 at I5 J5 F5 ⊢
  clear ev
  refine am_e_iconst (w := 0) (am_nxt_of (i := (51, 1, .iconst 0, (0, 0, 0), 0)) (by decide +kernel)) rfl ?_
  refine am_e_istore_n (ls' := [(3, .int 0), (0, .ref 164), (1, .ref 200), (2, .int i)]) (am_nxt_of (i := (52, 1, .istore_n 3, (0, 0, 0), 0)) (by decide +kernel)) (by decide +kernel) rfl ?_
  refine am_e_iload_n (am_nxt_of (i := (53, 1, .iload_n 3, (0, 0, 0), 0)) (by decide +kernel)) (v := 0) rfl ?_
  refine am_e_iconst (w := 4) (am_nxt_of (i := (54, 1, .iconst 4, (0, 0, 0), 0)) (by decide +kernel)) rfl ?_
  refine am_e_cmpF (am_nxt_of (i := (55, 3, .if_icmp .ge 50, (81, 0, 0), 0)) (by decide +kernel)) (am_c_geF (by decide)) ?_
  refine am_e_aload_n (am_nxt_of (i := (58, 1, .aload_n 1, (0, 0, 0), 0)) (by decide +kernel)) (v := 200) rfl ?_
  refine am_e_iload_n (am_nxt_of (i := (59, 1, .iload_n 2, (0, 0, 0), 0)) (by decide +kernel)) (v := i) rfl ?_
  refine am_e_iconst (w := 5) (am_nxt_of (i := (60, 1, .iconst 5, (0, 0, 0), 0)) (by decide +kernel)) rfl ?_
  refine am_e_iadd (w := i + 5) (am_nxt_of (i := (61, 1, .iadd, (0, 0, 0), 0)) (by decide +kernel)) rfl ?_
  refine am_e_iload_n (am_nxt_of (i := (62, 1, .iload_n 3, (0, 0, 0), 0)) (by decide +kernel)) (v := 0) rfl ?_
  refine am_e_iadd (w := (i + 5) + 0) (am_nxt_of (i := (63, 1, .iadd, (0, 0, 0), 0)) (by decide +kernel)) rfl ?_
  refine am_e_aload_n (am_nxt_of (i := (64, 1, .aload_n 0, (0, 0, 0), 0)) (by decide +kernel)) (v := 164) rfl ?_
  refine am_e_getf (am_nxt_of (i := (65, 3, .getfield 94, (12, 53, 1437), 0)) (by decide +kernel)) ac_o (ac_f53 I5) ?_
  refine am_e_iload_n (am_nxt_of (i := (68, 1, .iload_n 3, (0, 0, 0), 0)) (by decide +kernel)) (v := 0) rfl ?_
  obtain ⟨v, ev, vl, vu⟩ := ac_r191 I5 (q := 0) (by decide)
  refine am_e_iaload (v := v) (q := 0) (am_nxt_of (i := (69, 1, .iaload, (0, 0, 0), 0)) (by decide +kernel)) ac_k191 (by decide) (by decide) ev ?_
  refine am_e_iastore (am_nxt_of (i := (70, 1, .iastore, (0, 0, 0), 0)) (by decide +kernel)) ac_k200 (ac_i2 hi (c := 5) (n := 5) (d := 0) (m := 0) (L := 340) (by decide) (by decide) (by omega) (by decide)).1 (ac_i2 hi (c := 5) (n := 5) (d := 0) (m := 0) (L := 340) (by decide) (by decide) (by omega) (by decide)).2 ?_
  have I6 := ac_w200 (q := 17 * u + 5 + 0) (v := v) I5 (ab_32 v).1 (ab_32 v).2
  have J6 := ac_J_200 hX (q := 17 * u + 5 + 0) (v := v) J5 (fun e => by omega)
  have F6 : ab_Fr [(200, 0)] h (am_up h5 200 (17 * u + 5 + 0) (.int v)) := ab_Fr_up rfl F5
  generalize am_up h5 200 (17 * u + 5 + 0) (.int v) = h6 at I6 J6 F6 ⊢
  clear ev
  refine am_e_aload_n (am_nxt_of (i := (71, 1, .aload_n 1, (0, 0, 0), 0)) (by decide +kernel)) (v := 200) rfl ?_
  refine am_e_iload_n (am_nxt_of (i := (72, 1, .iload_n 2, (0, 0, 0), 0)) (by decide +kernel)) (v := i) rfl ?_
  refine am_e_bipush (w := 9) (am_nxt_of (i := (73, 2, .bipush 9, (0, 0, 0), 0)) (by decide +kernel)) (by decide) ?_
  refine am_e_iadd (w := i + 9) (am_nxt_of (i := (75, 1, .iadd, (0, 0, 0), 0)) (by decide +kernel)) rfl ?_
  refine am_e_iload_n (am_nxt_of (i := (76, 1, .iload_n 3, (0, 0, 0), 0)) (by decide +kernel)) (v := 0) rfl ?_
  refine am_e_iadd (w := (i + 9) + 0) (am_nxt_of (i := (77, 1, .iadd, (0, 0, 0), 0)) (by decide +kernel)) rfl ?_
  refine am_e_aload_n (am_nxt_of (i := (78, 1, .aload_n 0, (0, 0, 0), 0)) (by decide +kernel)) (v := 164) rfl ?_
  refine am_e_getf (am_nxt_of (i := (79, 3, .getfield 97, (12, 54, 1438), 0)) (by decide +kernel)) ac_o (ac_f54 I6) ?_
  refine am_e_iload_n (am_nxt_of (i := (82, 1, .iload_n 3, (0, 0, 0), 0)) (by decide +kernel)) (v := 0) rfl ?_
  obtain ⟨v, ev, vl, vu⟩ := ac_r192 I6 (q := 0) (by decide)
  refine am_e_iaload (v := v) (q := 0) (am_nxt_of (i := (83, 1, .iaload, (0, 0, 0), 0)) (by decide +kernel)) ac_k192 (by decide) (by decide) ev ?_
  refine am_e_iastore (am_nxt_of (i := (84, 1, .iastore, (0, 0, 0), 0)) (by decide +kernel)) ac_k200 (ac_i2 hi (c := 9) (n := 9) (d := 0) (m := 0) (L := 340) (by decide) (by decide) (by omega) (by decide)).1 (ac_i2 hi (c := 9) (n := 9) (d := 0) (m := 0) (L := 340) (by decide) (by decide) (by omega) (by decide)).2 ?_
  have I7 := ac_w200 (q := 17 * u + 9 + 0) (v := v) I6 (ab_32 v).1 (ab_32 v).2
  have J7 := ac_J_200 hX (q := 17 * u + 9 + 0) (v := v) J6 (fun e => by omega)
  have F7 : ab_Fr [(200, 0)] h (am_up h6 200 (17 * u + 9 + 0) (.int v)) := ab_Fr_up rfl F6
  generalize am_up h6 200 (17 * u + 9 + 0) (.int v) = h7 at I7 J7 F7 ⊢
  clear ev
  refine am_e_aload_n (am_nxt_of (i := (85, 1, .aload_n 1, (0, 0, 0), 0)) (by decide +kernel)) (v := 200) rfl ?_
  refine am_e_iload_n (am_nxt_of (i := (86, 1, .iload_n 2, (0, 0, 0), 0)) (by decide +kernel)) (v := i) rfl ?_
  refine am_e_bipush (w := 13) (am_nxt_of (i := (87, 2, .bipush 13, (0, 0, 0), 0)) (by decide +kernel)) (by decide) ?_
  refine am_e_iadd (w := i + 13) (am_nxt_of (i := (89, 1, .iadd, (0, 0, 0), 0)) (by decide +kernel)) rfl ?_
  refine am_e_iload_n (am_nxt_of (i := (90, 1, .iload_n 3, (0, 0, 0), 0)) (by decide +kernel)) (v := 0) rfl ?_
  refine am_e_iadd (w := (i + 13) + 0) (am_nxt_of (i := (91, 1, .iadd, (0, 0, 0), 0)) (by decide +kernel)) rfl ?_
  refine am_e_aload_n (am_nxt_of (i := (92, 1, .aload_n 0, (0, 0, 0), 0)) (by decide +kernel)) (v := 164) rfl ?_
  refine am_e_getf (am_nxt_of (i := (93, 3, .getfield 100, (12, 55, 1439), 0)) (by decide +kernel)) ac_o (ac_f55 I7) ?_
  refine am_e_iload_n (am_nxt_of (i := (96, 1, .iload_n 3, (0, 0, 0), 0)) (by decide +kernel)) (v := 0) rfl ?_
  obtain ⟨v, ev, vl, vu⟩ := ac_r193 I7 (q := 0) (by decide)
  refine am_e_iaload (v := v) (q := 0) (am_nxt_of (i := (97, 1, .iaload, (0, 0, 0), 0)) (by decide +kernel)) ac_k193 (by decide) (by decide) ev ?_
  refine am_e_iastore (am_nxt_of (i := (98, 1, .iastore, (0, 0, 0), 0)) (by decide +kernel)) ac_k200 (ac_i2 hi (c := 13) (n := 13) (d := 0) (m := 0) (L := 340) (by decide) (by decide) (by omega) (by decide)).1 (ac_i2 hi (c := 13) (n := 13) (d := 0) (m := 0) (L := 340) (by decide) (by decide) (by omega) (by decide)).2 ?_
  have I8 := ac_w200 (q := 17 * u + 13 + 0) (v := v) I7 (ab_32 v).1 (ab_32 v).2
  have J8 := ac_J_200 hX (q := 17 * u + 13 + 0) (v := v) J7 (fun e => by omega)
  have F8 : ab_Fr [(200, 0)] h (am_up h7 200 (17 * u + 13 + 0) (.int v)) := ab_Fr_up rfl F7
  generalize am_up h7 200 (17 * u + 13 + 0) (.int v) = h8 at I8 J8 F8 ⊢
  clear ev
  refine am_e_iinc (w := 1) (ls' := [(3, .int 1), (0, .ref 164), (1, .ref 200), (2, .int i)]) (am_nxt_of (i := (99, 3, .iinc 3 1, (0, 0, 0), 0)) (by decide +kernel)) (v := 0) rfl (by decide +kernel) (by decide) rfl ?_
  refine am_e_goto (am_cur_of (i := (102, 3, .goto (-49), (43, 0, 0), 0)) (by decide +kernel)) (am_tgt_of (by decide +kernel)) ?_
  refine am_e_iload_n (am_nxt_of (i := (53, 1, .iload_n 3, (0, 0, 0), 0)) (by decide +kernel)) (v := 1) rfl ?_
  refine am_e_iconst (w := 4) (am_nxt_of (i := (54, 1, .iconst 4, (0, 0, 0), 0)) (by decide +kernel)) rfl ?_
  refine am_e_cmpF (am_nxt_of (i := (55, 3, .if_icmp .ge 50, (81, 0, 0), 0)) (by decide +kernel)) (am_c_geF (by decide)) ?_
  refine am_e_aload_n (am_nxt_of (i := (58, 1, .aload_n 1, (0, 0, 0), 0)) (by decide +kernel)) (v := 200) rfl ?_
  refine am_e_iload_n (am_nxt_of (i := (59, 1, .iload_n 2, (0, 0, 0), 0)) (by decide +kernel)) (v := i) rfl ?_
  refine am_e_iconst (w := 5) (am_nxt_of (i := (60, 1, .iconst 5, (0, 0, 0), 0)) (by decide +kernel)) rfl ?_
  refine am_e_iadd (w := i + 5) (am_nxt_of (i := (61, 1, .iadd, (0, 0, 0), 0)) (by decide +kernel)) rfl ?_
  refine am_e_iload_n (am_nxt_of (i := (62, 1, .iload_n 3, (0, 0, 0), 0)) (by decide +kernel)) (v := 1) rfl ?_
  refine am_e_iadd (w := (i + 5) + 1) (am_nxt_of (i := (63, 1, .iadd, (0, 0, 0), 0)) (by decide +kernel)) rfl ?_
  refine am_e_aload_n (am_nxt_of (i := (64, 1, .aload_n 0, (0, 0, 0), 0)) (by decide +kernel)) (v := 164) rfl ?_
  refine am_e_getf (am_nxt_of (i := (65, 3, .getfield 94, (12, 53, 1437), 0)) (by decide +kernel)) ac_o (ac_f53 I8) ?_
  refine am_e_iload_n (am_nxt_of (i := (68, 1, .iload_n 3, (0, 0, 0), 0)) (by decide +kernel)) (v := 1) rfl ?_
  obtain ⟨v, ev, vl, vu⟩ := ac_r191 I8 (q := 1) (by decide)
  refine am_e_iaload (v := v) (q := 1) (am_nxt_of (i := (69, 1, .iaload, (0, 0, 0), 0)) (by decide +kernel)) ac_k191 (by decide) (by decide) ev ?_
  refine am_e_iastore (am_nxt_of (i := (70, 1, .iastore, (0, 0, 0), 0)) (by decide +kernel)) ac_k200 (ac_i2 hi (c := 5) (n := 5) (d := 1) (m := 1) (L := 340) (by decide) (by decide) (by omega) (by decide)).1 (ac_i2 hi (c := 5) (n := 5) (d := 1) (m := 1) (L := 340) (by decide) (by decide) (by omega) (by decide)).2 ?_
  have I9 := ac_w200 (q := 17 * u + 5 + 1) (v := v) I8 (ab_32 v).1 (ab_32 v).2
  have J9 := ac_J_200 hX (q := 17 * u + 5 + 1) (v := v) J8 (fun e => by omega)
  have F9 : ab_Fr [(200, 0)] h (am_up h8 200 (17 * u + 5 + 1) (.int v)) := ab_Fr_up rfl F8
  generalize am_up h8 200 (17 * u + 5 + 1) (.int v) = h9 at I9 J9 F9 ⊢
  clear ev
  refine am_e_aload_n (am_nxt_of (i := (71, 1, .aload_n 1, (0, 0, 0), 0)) (by decide +kernel)) (v := 200) rfl ?_
  refine am_e_iload_n (am_nxt_of (i := (72, 1, .iload_n 2, (0, 0, 0), 0)) (by decide +kernel)) (v := i) rfl ?_
  refine am_e_bipush (w := 9) (am_nxt_of (i := (73, 2, .bipush 9, (0, 0, 0), 0)) (by decide +kernel)) (by decide) ?_
  refine am_e_iadd (w := i + 9) (am_nxt_of (i := (75, 1, .iadd, (0, 0, 0), 0)) (by decide +kernel)) rfl ?_
  refine am_e_iload_n (am_nxt_of (i := (76, 1, .iload_n 3, (0, 0, 0), 0)) (by decide +kernel)) (v := 1) rfl ?_
  refine am_e_iadd (w := (i + 9) + 1) (am_nxt_of (i := (77, 1, .iadd, (0, 0, 0), 0)) (by decide +kernel)) rfl ?_
  refine am_e_aload_n (am_nxt_of (i := (78, 1, .aload_n 0, (0, 0, 0), 0)) (by decide +kernel)) (v := 164) rfl ?_
  refine am_e_getf (am_nxt_of (i := (79, 3, .getfield 97, (12, 54, 1438), 0)) (by decide +kernel)) ac_o (ac_f54 I9) ?_
  refine am_e_iload_n (am_nxt_of (i := (82, 1, .iload_n 3, (0, 0, 0), 0)) (by decide +kernel)) (v := 1) rfl ?_
  obtain ⟨v, ev, vl, vu⟩ := ac_r192 I9 (q := 1) (by decide)
  refine am_e_iaload (v := v) (q := 1) (am_nxt_of (i := (83, 1, .iaload, (0, 0, 0), 0)) (by decide +kernel)) ac_k192 (by decide) (by decide) ev ?_
  refine am_e_iastore (am_nxt_of (i := (84, 1, .iastore, (0, 0, 0), 0)) (by decide +kernel)) ac_k200 (ac_i2 hi (c := 9) (n := 9) (d := 1) (m := 1) (L := 340) (by decide) (by decide) (by omega) (by decide)).1 (ac_i2 hi (c := 9) (n := 9) (d := 1) (m := 1) (L := 340) (by decide) (by decide) (by omega) (by decide)).2 ?_
  have I10 := ac_w200 (q := 17 * u + 9 + 1) (v := v) I9 (ab_32 v).1 (ab_32 v).2
  have J10 := ac_J_200 hX (q := 17 * u + 9 + 1) (v := v) J9 (fun e => by omega)
  have F10 : ab_Fr [(200, 0)] h (am_up h9 200 (17 * u + 9 + 1) (.int v)) := ab_Fr_up rfl F9
  generalize am_up h9 200 (17 * u + 9 + 1) (.int v) = h10 at I10 J10 F10 ⊢
  clear ev
  refine am_e_aload_n (am_nxt_of (i := (85, 1, .aload_n 1, (0, 0, 0), 0)) (by decide +kernel)) (v := 200) rfl ?_
  refine am_e_iload_n (am_nxt_of (i := (86, 1, .iload_n 2, (0, 0, 0), 0)) (by decide +kernel)) (v := i) rfl ?_
  refine am_e_bipush (w := 13) (am_nxt_of (i := (87, 2, .bipush 13, (0, 0, 0), 0)) (by decide +kernel)) (by decide) ?_
  refine am_e_iadd (w := i + 13) (am_nxt_of (i := (89, 1, .iadd, (0, 0, 0), 0)) (by decide +kernel)) rfl ?_
  refine am_e_iload_n (am_nxt_of (i := (90, 1, .iload_n 3, (0, 0, 0), 0)) (by decide +kernel)) (v := 1) rfl ?_
  refine am_e_iadd (w := (i + 13) + 1) (am_nxt_of (i := (91, 1, .iadd, (0, 0, 0), 0)) (by decide +kernel)) rfl ?_
  refine am_e_aload_n (am_nxt_of (i := (92, 1, .aload_n 0, (0, 0, 0), 0)) (by decide +kernel)) (v := 164) rfl ?_
  refine am_e_getf (am_nxt_of (i := (93, 3, .getfield 100, (12, 55, 1439), 0)) (by decide +kernel)) ac_o (ac_f55 I10) ?_
  refine am_e_iload_n (am_nxt_of (i := (96, 1, .iload_n 3, (0, 0, 0), 0)) (by decide +kernel)) (v := 1) rfl ?_
  obtain ⟨v, ev, vl, vu⟩ := ac_r193 I10 (q := 1) (by decide)
  refine am_e_iaload (v := v) (q := 1) (am_nxt_of (i := (97, 1, .iaload, (0, 0, 0), 0)) (by decide +kernel)) ac_k193 (by decide) (by decide) ev ?_
  refine am_e_iastore (am_nxt_of (i := (98, 1, .iastore, (0, 0, 0), 0)) (by decide +kernel)) ac_k200 (ac_i2 hi (c := 13) (n := 13) (d := 1) (m := 1) (L := 340) (by decide) (by decide) (by omega) (by decide)).1 (ac_i2 hi (c := 13) (n := 13) (d := 1) (m := 1) (L := 340) (by decide) (by decide) (by omega) (by decide)).2 ?_
  have I11 := ac_w200 (q := 17 * u + 13 + 1) (v := v) I10 (ab_32 v).1 (ab_32 v).2
  have J11 := ac_J_200 hX (q := 17 * u + 13 + 1) (v := v) J10 (fun e => by omega)
  have F11 : ab_Fr [(200, 0)] h (am_up h10 200 (17 * u + 13 + 1) (.int v)) := ab_Fr_up rfl F10
  generalize am_up h10 200 (17 * u + 13 + 1) (.int v) = h11 at I11 J11 F11 ⊢
  clear ev
  refine am_e_iinc (w := 2) (ls' := [(3, .int 2), (0, .ref 164), (1, .ref 200), (2, .int i)]) (am_nxt_of (i := (99, 3, .iinc 3 1, (0, 0, 0), 0)) (by decide +kernel)) (v := 1) rfl (by decide +kernel) (by decide) rfl ?_
  refine am_e_goto (am_cur_of (i := (102, 3, .goto (-49), (43, 0, 0), 0)) (by decide +kernel)) (am_tgt_of (by decide +kernel)) ?_
  refine am_e_iload_n (am_nxt_of (i := (53, 1, .iload_n 3, (0, 0, 0), 0)) (by decide +kernel)) (v := 2) rfl ?_
  refine am_e_iconst (w := 4) (am_nxt_of (i := (54, 1, .iconst 4, (0, 0, 0), 0)) (by decide +kernel)) rfl ?_
  refine am_e_cmpF (am_nxt_of (i := (55, 3, .if_icmp .ge 50, (81, 0, 0), 0)) (by decide +kernel)) (am_c_geF (by decide)) ?_
  refine am_e_aload_n (am_nxt_of (i := (58, 1, .aload_n 1, (0, 0, 0), 0)) (by decide +kernel)) (v := 200) rfl ?_
  refine am_e_iload_n (am_nxt_of (i := (59, 1, .iload_n 2, (0, 0, 0), 0)) (by decide +kernel)) (v := i) rfl ?_
  refine am_e_iconst (w := 5) (am_nxt_of (i := (60, 1, .iconst 5, (0, 0, 0), 0)) (by decide +kernel)) rfl ?_
  refine am_e_iadd (w := i + 5) (am_nxt_of (i := (61, 1, .iadd, (0, 0, 0), 0)) (by decide +kernel)) rfl ?_
  refine am_e_iload_n (am_nxt_of (i := (62, 1, .iload_n 3, (0, 0, 0), 0)) (by decide +kernel)) (v := 2) rfl ?_
  refine am_e_iadd (w := (i + 5) + 2) (am_nxt_of (i := (63, 1, .iadd, (0, 0, 0), 0)) (by decide +kernel)) rfl ?_
  refine am_e_aload_n (am_nxt_of (i := (64, 1, .aload_n 0, (0, 0, 0), 0)) (by decide +kernel)) (v := 164) rfl ?_
  refine am_e_getf (am_nxt_of (i := (65, 3, .getfield 94, (12, 53, 1437), 0)) (by decide +kernel)) ac_o (ac_f53 I11) ?_
  refine am_e_iload_n (am_nxt_of (i := (68, 1, .iload_n 3, (0, 0, 0), 0)) (by decide +kernel)) (v := 2) rfl ?_
  obtain ⟨v, ev, vl, vu⟩ := ac_r191 I11 (q := 2) (by decide)
  refine am_e_iaload (v := v) (q := 2) (am_nxt_of (i := (69, 1, .iaload, (0, 0, 0), 0)) (by decide +kernel)) ac_k191 (by decide) (by decide) ev ?_
  refine am_e_iastore (am_nxt_of (i := (70, 1, .iastore, (0, 0, 0), 0)) (by decide +kernel)) ac_k200 (ac_i2 hi (c := 5) (n := 5) (d := 2) (m := 2) (L := 340) (by decide) (by decide) (by omega) (by decide)).1 (ac_i2 hi (c := 5) (n := 5) (d := 2) (m := 2) (L := 340) (by decide) (by decide) (by omega) (by decide)).2 ?_
  have I12 := ac_w200 (q := 17 * u + 5 + 2) (v := v) I11 (ab_32 v).1 (ab_32 v).2
  have J12 := ac_J_200 hX (q := 17 * u + 5 + 2) (v := v) J11 (fun e => by omega)
  have F12 : ab_Fr [(200, 0)] h (am_up h11 200 (17 * u + 5 + 2) (.int v)) := ab_Fr_up rfl F11
  generalize am_up h11 200 (17 * u + 5 + 2) (.int v) = h12 at I12 J12 F12 ⊢
  clear ev
  refine am_e_aload_n (am_nxt_of (i := (71, 1, .aload_n 1, (0, 0, 0), 0)) (by decide +kernel)) (v := 200) rfl ?_
  refine am_e_iload_n (am_nxt_of (i := (72, 1, .iload_n 2, (0, 0, 0), 0)) (by decide +kernel)) (v := i) rfl ?_
  refine am_e_bipush (w := 9) (am_nxt_of (i := (73, 2, .bipush 9, (0, 0, 0), 0)) (by decide +kernel)) (by decide) ?_
  refine am_e_iadd (w := i + 9) (am_nxt_of (i := (75, 1, .iadd, (0, 0, 0), 0)) (by decide +kernel)) rfl ?_
  refine am_e_iload_n (am_nxt_of (i := (76, 1, .iload_n 3, (0, 0, 0), 0)) (by decide +kernel)) (v := 2) rfl ?_
  refine am_e_iadd (w := (i + 9) + 2) (am_nxt_of (i := (77, 1, .iadd, (0, 0, 0), 0)) (by decide +kernel)) rfl ?_
  refine am_e_aload_n (am_nxt_of (i := (78, 1, .aload_n 0, (0, 0, 0), 0)) (by decide +kernel)) (v := 164) rfl ?_
  refine am_e_getf (am_nxt_of (i := (79, 3, .getfield 97, (12, 54, 1438), 0)) (by decide +kernel)) ac_o (ac_f54 I12) ?_
  refine am_e_iload_n (am_nxt_of (i := (82, 1, .iload_n 3, (0, 0, 0), 0)) (by decide +kernel)) (v := 2) rfl ?_
  obtain ⟨v, ev, vl, vu⟩ := ac_r192 I12 (q := 2) (by decide)
  refine am_e_iaload (v := v) (q := 2) (am_nxt_of (i := (83, 1, .iaload, (0, 0, 0), 0)) (by decide +kernel)) ac_k192 (by decide) (by decide) ev ?_
  refine am_e_iastore (am_nxt_of (i := (84, 1, .iastore, (0, 0, 0), 0)) (by decide +kernel)) ac_k200 (ac_i2 hi (c := 9) (n := 9) (d := 2) (m := 2) (L := 340) (by decide) (by decide) (by omega) (by decide)).1 (ac_i2 hi (c := 9) (n := 9) (d := 2) (m := 2) (L := 340) (by decide) (by decide) (by omega) (by decide)).2 ?_
  have I13 := ac_w200 (q := 17 * u + 9 + 2) (v := v) I12 (ab_32 v).1 (ab_32 v).2
  have J13 := ac_J_200 hX (q := 17 * u + 9 + 2) (v := v) J12 (fun e => by omega)
  have F13 : ab_Fr [(200, 0)] h (am_up h12 200 (17 * u + 9 + 2) (.int v)) := ab_Fr_up rfl F12
  generalize am_up h12 200 (17 * u + 9 + 2) (.int v) = h13 at I13 J13 F13 ⊢
  clear ev
  refine am_e_aload_n (am_nxt_of (i := (85, 1, .aload_n 1, (0, 0, 0), 0)) (by decide +kernel)) (v := 200) rfl ?_
  refine am_e_iload_n (am_nxt_of (i := (86, 1, .iload_n 2, (0, 0, 0), 0)) (by decide +kernel)) (v := i) rfl ?_
  refine am_e_bipush (w := 13) (am_nxt_of (i := (87, 2, .bipush 13, (0, 0, 0), 0)) (by decide +kernel)) (by decide) ?_
  refine am_e_iadd (w := i + 13) (am_nxt_of (i := (89, 1, .iadd, (0, 0, 0), 0)) (by decide +kernel)) rfl ?_
  refine am_e_iload_n (am_nxt_of (i := (90, 1, .iload_n 3, (0, 0, 0), 0)) (by decide +kernel)) (v := 2) rfl ?_
  refine am_e_iadd (w := (i + 13) + 2) (am_nxt_of (i := (91, 1, .iadd, (0, 0, 0), 0)) (by decide +kernel)) rfl ?_
  refine am_e_aload_n (am_nxt_of (i := (92, 1, .aload_n 0, (0, 0, 0), 0)) (by decide +kernel)) (v := 164) rfl ?_
  refine am_e_getf (am_nxt_of (i := (93, 3, .getfield 100, (12, 55, 1439), 0)) (by decide +kernel)) ac_o (ac_f55 I13) ?_
  refine am_e_iload_n (am_nxt_of (i := (96, 1, .iload_n 3, (0, 0, 0), 0)) (by decide +kernel)) (v := 2) rfl ?_
  obtain ⟨v, ev, vl, vu⟩ := ac_r193 I13 (q := 2) (by decide)
  refine am_e_iaload (v := v) (q := 2) (am_nxt_of (i := (97, 1, .iaload, (0, 0, 0), 0)) (by decide +kernel)) ac_k193 (by decide) (by decide) ev ?_
  refine am_e_iastore (am_nxt_of (i := (98, 1, .iastore, (0, 0, 0), 0)) (by decide +kernel)) ac_k200 (ac_i2 hi (c := 13) (n := 13) (d := 2) (m := 2) (L := 340) (by decide) (by decide) (by omega) (by decide)).1 (ac_i2 hi (c := 13) (n := 13) (d := 2) (m := 2) (L := 340) (by decide) (by decide) (by omega) (by decide)).2 ?_
  have I14 := ac_w200 (q := 17 * u + 13 + 2) (v := v) I13 (ab_32 v).1 (ab_32 v).2
  have J14 := ac_J_200 hX (q := 17 * u + 13 + 2) (v := v) J13 (fun e => by omega)
  have F14 : ab_Fr [(200, 0)] h (am_up h13 200 (17 * u + 13 + 2) (.int v)) := ab_Fr_up rfl F13
  generalize am_up h13 200 (17 * u + 13 + 2) (.int v) = h14 at I14 J14 F14 ⊢
  clear ev
  refine am_e_iinc (w := 3) (ls' := [(3, .int 3), (0, .ref 164), (1, .ref 200), (2, .int i)]) (am_nxt_of (i := (99, 3, .iinc 3 1, (0, 0, 0), 0)) (by decide +kernel)) (v := 2) rfl (by decide +kernel) (by decide) rfl ?_
  refine am_e_goto (am_cur_of (i := (102, 3, .goto (-49), (43, 0, 0), 0)) (by decide +kernel)) (am_tgt_of (by decide +kernel)) ?_
  refine am_e_iload_n (am_nxt_of (i := (53, 1, .iload_n 3, (0, 0, 0), 0)) (by decide +kernel)) (v := 3) rfl ?_
  refine am_e_iconst (w := 4) (am_nxt_of (i := (54, 1, .iconst 4, (0, 0, 0), 0)) (by decide +kernel)) rfl ?_
  refine am_e_cmpF (am_nxt_of (i := (55, 3, .if_icmp .ge 50, (81, 0, 0), 0)) (by decide +kernel)) (am_c_geF (by decide)) ?_
  refine am_e_aload_n (am_nxt_of (i := (58, 1, .aload_n 1, (0, 0, 0), 0)) (by decide +kernel)) (v := 200) rfl ?_
  refine am_e_iload_n (am_nxt_of (i := (59, 1, .iload_n 2, (0, 0, 0), 0)) (by decide +kernel)) (v := i) rfl ?_
  refine am_e_iconst (w := 5) (am_nxt_of (i := (60, 1, .iconst 5, (0, 0, 0), 0)) (by decide +kernel)) rfl ?_
  refine am_e_iadd (w := i + 5) (am_nxt_of (i := (61, 1, .iadd, (0, 0, 0), 0)) (by decide +kernel)) rfl ?_
  refine am_e_iload_n (am_nxt_of (i := (62, 1, .iload_n 3, (0, 0, 0), 0)) (by decide +kernel)) (v := 3) rfl ?_
  refine am_e_iadd (w := (i + 5) + 3) (am_nxt_of (i := (63, 1, .iadd, (0, 0, 0), 0)) (by decide +kernel)) rfl ?_
  refine am_e_aload_n (am_nxt_of (i := (64, 1, .aload_n 0, (0, 0, 0), 0)) (by decide +kernel)) (v := 164) rfl ?_
  refine am_e_getf (am_nxt_of (i := (65, 3, .getfield 94, (12, 53, 1437), 0)) (by decide +kernel)) ac_o (ac_f53 I14) ?_
  refine am_e_iload_n (am_nxt_of (i := (68, 1, .iload_n 3, (0, 0, 0), 0)) (by decide +kernel)) (v := 3) rfl ?_
  obtain ⟨v, ev, vl, vu⟩ := ac_r191 I14 (q := 3) (by decide)
  refine am_e_iaload (v := v) (q := 3) (am_nxt_of (i := (69, 1, .iaload, (0, 0, 0), 0)) (by decide +kernel)) ac_k191 (by decide) (by decide) ev ?_
  refine am_e_iastore (am_nxt_of (i := (70, 1, .iastore, (0, 0, 0), 0)) (by decide +kernel)) ac_k200 (ac_i2 hi (c := 5) (n := 5) (d := 3) (m := 3) (L := 340) (by decide) (by decide) (by omega) (by decide)).1 (ac_i2 hi (c := 5) (n := 5) (d := 3) (m := 3) (L := 340) (by decide) (by decide) (by omega) (by decide)).2 ?_
  have I15 := ac_w200 (q := 17 * u + 5 + 3) (v := v) I14 (ab_32 v).1 (ab_32 v).2
  have J15 := ac_J_200 hX (q := 17 * u + 5 + 3) (v := v) J14 (fun e => by omega)
  have F15 : ab_Fr [(200, 0)] h (am_up h14 200 (17 * u + 5 + 3) (.int v)) := ab_Fr_up rfl F14
  generalize am_up h14 200 (17 * u + 5 + 3) (.int v) = h15 at I15 J15 F15 ⊢
  clear ev
  refine am_e_aload_n (am_nxt_of (i := (71, 1, .aload_n 1, (0, 0, 0), 0)) (by decide +kernel)) (v := 200) rfl ?_
  refine am_e_iload_n (am_nxt_of (i := (72, 1, .iload_n 2, (0, 0, 0), 0)) (by decide +kernel)) (v := i) rfl ?_
  refine am_e_bipush (w := 9) (am_nxt_of (i := (73, 2, .bipush 9, (0, 0, 0), 0)) (by decide +kernel)) (by decide) ?_
  refine am_e_iadd (w := i + 9) (am_nxt_of (i := (75, 1, .iadd, (0, 0, 0), 0)) (by decide +kernel)) rfl ?_
  refine am_e_iload_n (am_nxt_of (i := (76, 1, .iload_n 3, (0, 0, 0), 0)) (by decide +kernel)) (v := 3) rfl ?_
  refine am_e_iadd (w := (i + 9) + 3) (am_nxt_of (i := (77, 1, .iadd, (0, 0, 0), 0)) (by decide +kernel)) rfl ?_
  refine am_e_aload_n (am_nxt_of (i := (78, 1, .aload_n 0, (0, 0, 0), 0)) (by decide +kernel)) (v := 164) rfl ?_
  refine am_e_getf (am_nxt_of (i := (79, 3, .getfield 97, (12, 54, 1438), 0)) (by decide +kernel)) ac_o (ac_f54 I15) ?_
  refine am_e_iload_n (am_nxt_of (i := (82, 1, .iload_n 3, (0, 0, 0), 0)) (by decide +kernel)) (v := 3) rfl ?_
  obtain ⟨v, ev, vl, vu⟩ := ac_r192 I15 (q := 3) (by decide)
  refine am_e_iaload (v := v) (q := 3) (am_nxt_of (i := (83, 1, .iaload, (0, 0, 0), 0)) (by decide +kernel)) ac_k192 (by decide) (by decide) ev ?_
  refine am_e_iastore (am_nxt_of (i := (84, 1, .iastore, (0, 0, 0), 0)) (by decide +kernel)) ac_k200 (ac_i2 hi (c := 9) (n := 9) (d := 3) (m := 3) (L := 340) (by decide) (by decide) (by omega) (by decide)).1 (ac_i2 hi (c := 9) (n := 9) (d := 3) (m := 3) (L := 340) (by decide) (by decide) (by omega) (by decide)).2 ?_
  have I16 := ac_w200 (q := 17 * u + 9 + 3) (v := v) I15 (ab_32 v).1 (ab_32 v).2
  have J16 := ac_J_200 hX (q := 17 * u + 9 + 3) (v := v) J15 (fun e => by omega)
  have F16 : ab_Fr [(200, 0)] h (am_up h15 200 (17 * u + 9 + 3) (.int v)) := ab_Fr_up rfl F15
  generalize am_up h15 200 (17 * u + 9 + 3) (.int v) = h16 at I16 J16 F16 ⊢
  clear ev
  refine am_e_aload_n (am_nxt_of (i := (85, 1, .aload_n 1, (0, 0, 0), 0)) (by decide +kernel)) (v := 200) rfl ?_
  refine am_e_iload_n (am_nxt_of (i := (86, 1, .iload_n 2, (0, 0, 0), 0)) (by decide +kernel)) (v := i) rfl ?_
  refine am_e_bipush (w := 13) (am_nxt_of (i := (87, 2, .bipush 13, (0, 0, 0), 0)) (by decide +kernel)) (by decide) ?_
  refine am_e_iadd (w := i + 13) (am_nxt_of (i := (89, 1, .iadd, (0, 0, 0), 0)) (by decide +kernel)) rfl ?_
  refine am_e_iload_n (am_nxt_of (i := (90, 1, .iload_n 3, (0, 0, 0), 0)) (by decide +kernel)) (v := 3) rfl ?_
  refine am_e_iadd (w := (i + 13) + 3) (am_nxt_of (i := (91, 1, .iadd, (0, 0, 0), 0)) (by decide +kernel)) rfl ?_
  refine am_e_aload_n (am_nxt_of (i := (92, 1, .aload_n 0, (0, 0, 0), 0)) (by decide +kernel)) (v := 164) rfl ?_
  refine am_e_getf (am_nxt_of (i := (93, 3, .getfield 100, (12, 55, 1439), 0)) (by decide +kernel)) ac_o (ac_f55 I16) ?_
  refine am_e_iload_n (am_nxt_of (i := (96, 1, .iload_n 3, (0, 0, 0), 0)) (by decide +kernel)) (v := 3) rfl ?_
  obtain ⟨v, ev, vl, vu⟩ := ac_r193 I16 (q := 3) (by decide)
  refine am_e_iaload (v := v) (q := 3) (am_nxt_of (i := (97, 1, .iaload, (0, 0, 0), 0)) (by decide +kernel)) ac_k193 (by decide) (by decide) ev ?_
  refine am_e_iastore (am_nxt_of (i := (98, 1, .iastore, (0, 0, 0), 0)) (by decide +kernel)) ac_k200 (ac_i2 hi (c := 13) (n := 13) (d := 3) (m := 3) (L := 340) (by decide) (by decide) (by omega) (by decide)).1 (ac_i2 hi (c := 13) (n := 13) (d := 3) (m := 3) (L := 340) (by decide) (by decide) (by omega) (by decide)).2 ?_
  have I17 := ac_w200 (q := 17 * u + 13 + 3) (v := v) I16 (ab_32 v).1 (ab_32 v).2
  have J17 := ac_J_200 hX (q := 17 * u + 13 + 3) (v := v) J16 (fun e => by omega)
  have F17 : ab_Fr [(200, 0)] h (am_up h16 200 (17 * u + 13 + 3) (.int v)) := ab_Fr_up rfl F16
  generalize am_up h16 200 (17 * u + 13 + 3) (.int v) = h17 at I17 J17 F17 ⊢
  clear ev
  refine am_e_iinc (w := 4) (ls' := [(3, .int 4), (0, .ref 164), (1, .ref 200), (2, .int i)]) (am_nxt_of (i := (99, 3, .iinc 3 1, (0, 0, 0), 0)) (by decide +kernel)) (v := 3) rfl (by decide +kernel) (by decide) rfl ?_
  refine am_e_goto (am_cur_of (i := (102, 3, .goto (-49), (43, 0, 0), 0)) (by decide +kernel)) (am_tgt_of (by decide +kernel)) ?_
  refine am_e_iload_n (am_nxt_of (i := (53, 1, .iload_n 3, (0, 0, 0), 0)) (by decide +kernel)) (v := 4) rfl ?_
  refine am_e_iconst (w := 4) (am_nxt_of (i := (54, 1, .iconst 4, (0, 0, 0), 0)) (by decide +kernel)) rfl ?_
  refine am_e_cmpT (am_nxt_of (i := (55, 3, .if_icmp .ge 50, (81, 0, 0), 0)) (by decide +kernel)) (am_c_geT (by decide)) (am_tgt_of (by decide +kernel)) ?_
  exact am_e_vret (am_cur_of (i := (105, 1, .return_, (0, 0, 0), 0)) (by decide +kernel)) rfl rfl ⟨rfl, rfl, I17, J17, F17⟩
theorem ac_put201 (hX : ac_XF X) {h : am_H} (hI : ab_Inv (ab_hi ab_tab) h) (hj : ac_JX X h) {i : Int32} {u : Nat} (hi : i.toInt = (17 * u : Nat)) (hu : u ≤ 0) : am_Ek false am_G0 am_m208 0 (lv_args 0 [.ref 164, .ref 201, .int i]) [] am_ks0 h 0 0 (fun r ks h' => ks = am_ks0 ∧ r = none ∧ ab_Inv (ab_hi ab_tab) h' ∧ ac_JX X h' ∧ ab_Fr [(201, 0)] h h') := by
  refine am_e_aload_n (am_nxt_of (i := (0, 1, .aload_n 1, (0, 0, 0), 0)) (by decide +kernel)) (v := 201) rfl ?_
  refine am_e_iload_n (am_nxt_of (i := (1, 1, .iload_n 2, (0, 0, 0), 0)) (by decide +kernel)) (v := i) rfl ?_
  refine am_e_aload_n (am_nxt_of (i := (2, 1, .aload_n 0, (0, 0, 0), 0)) (by decide +kernel)) (v := 164) rfl ?_
  refine am_e_getf (am_nxt_of (i := (3, 3, .getfield 85, (12, 50, 1434), 0)) (by decide +kernel)) ac_o (ac_f50 hI) ?_
  refine am_e_iconst (w := 0) (am_nxt_of (i := (6, 1, .iconst 0, (0, 0, 0), 0)) (by decide +kernel)) rfl ?_
  obtain ⟨v, ev, vl, vu⟩ := ac_r188 hI (q := 0) (by decide)
  refine am_e_iaload (v := v) (q := 0) (am_nxt_of (i := (7, 1, .iaload, (0, 0, 0), 0)) (by decide +kernel)) ac_k188 (by decide) (by decide) ev ?_
  refine am_e_iastore (am_nxt_of (i := (8, 1, .iastore, (0, 0, 0), 0)) (by decide +kernel)) ac_k201 (ac_i0 hi (L := 17) (by omega)).1 (ac_i0 hi (L := 17) (by omega)).2 ?_
  have I1 := ac_w201 (q := 17 * u) (v := v) hI (ab_32 v).1 (ab_32 v).2
  have J1 := ac_J_201 hX (q := 17 * u) (v := v) hj (fun e => by omega)
  have F1 : ab_Fr [(201, 0)] h (am_up h 201 (17 * u) (.int v)) := ab_Fr_up rfl ab_Fr_refl
  generalize am_up h 201 (17 * u) (.int v) = h1 at I1 J1 F1 ⊢
  clear ev
  refine am_e_aload_n (am_nxt_of (i := (9, 1, .aload_n 1, (0, 0, 0), 0)) (by decide +kernel)) (v := 201) rfl ?_
  refine am_e_iload_n (am_nxt_of (i := (10, 1, .iload_n 2, (0, 0, 0), 0)) (by decide +kernel)) (v := i) rfl ?_
  refine am_e_iconst (w := 1) (am_nxt_of (i := (11, 1, .iconst 1, (0, 0, 0), 0)) (by decide +kernel)) rfl ?_
  refine am_e_iadd (w := i + 1) (am_nxt_of (i := (12, 1, .iadd, (0, 0, 0), 0)) (by decide +kernel)) rfl ?_
  refine am_e_aload_n (am_nxt_of (i := (13, 1, .aload_n 0, (0, 0, 0), 0)) (by decide +kernel)) (v := 164) rfl ?_
  refine am_e_getf (am_nxt_of (i := (14, 3, .getfield 88, (12, 51, 1435), 0)) (by decide +kernel)) ac_o (ac_f51 I1) ?_
  refine am_e_iconst (w := 0) (am_nxt_of (i := (17, 1, .iconst 0, (0, 0, 0), 0)) (by decide +kernel)) rfl ?_
  obtain ⟨v, ev, vl, vu⟩ := ac_r189 I1 (q := 0) (by decide)
  refine am_e_iaload (v := v) (q := 0) (am_nxt_of (i := (18, 1, .iaload, (0, 0, 0), 0)) (by decide +kernel)) ac_k189 (by decide) (by decide) ev ?_
  refine am_e_iastore (am_nxt_of (i := (19, 1, .iastore, (0, 0, 0), 0)) (by decide +kernel)) ac_k201 (ac_i1 hi (c := 1) (n := 1) (L := 17) (by decide) (by omega) (by decide)).1 (ac_i1 hi (c := 1) (n := 1) (L := 17) (by decide) (by omega) (by decide)).2 ?_
  have I2 := ac_w201 (q := 17 * u + 1) (v := v) I1 (ab_32 v).1 (ab_32 v).2
  have J2 := ac_J_201 hX (q := 17 * u + 1) (v := v) J1 (fun e => by omega)
  have F2 : ab_Fr [(201, 0)] h (am_up h1 201 (17 * u + 1) (.int v)) := ab_Fr_up rfl F1
  generalize am_up h1 201 (17 * u + 1) (.int v) = h2 at I2 J2 F2 ⊢
  clear ev
  refine am_e_aload_n (am_nxt_of (i := (20, 1, .aload_n 1, (0, 0, 0), 0)) (by decide +kernel)) (v := 201) rfl ?_
  refine am_e_iload_n (am_nxt_of (i := (21, 1, .iload_n 2, (0, 0, 0), 0)) (by decide +kernel)) (v := i) rfl ?_
  refine am_e_iconst (w := 2) (am_nxt_of (i := (22, 1, .iconst 2, (0, 0, 0), 0)) (by decide +kernel)) rfl ?_
  refine am_e_iadd (w := i + 2) (am_nxt_of (i := (23, 1, .iadd, (0, 0, 0), 0)) (by decide +kernel)) rfl ?_
  refine am_e_aload_n (am_nxt_of (i := (24, 1, .aload_n 0, (0, 0, 0), 0)) (by decide +kernel)) (v := 164) rfl ?_
  refine am_e_getf (am_nxt_of (i := (25, 3, .getfield 91, (12, 52, 1436), 0)) (by decide +kernel)) ac_o (ac_f52 I2) ?_
  refine am_e_iconst (w := 0) (am_nxt_of (i := (28, 1, .iconst 0, (0, 0, 0), 0)) (by decide +kernel)) rfl ?_
  obtain ⟨v, ev, vl, vu⟩ := ac_r190 I2 (q := 0) (by decide)
  refine am_e_iaload (v := v) (q := 0) (am_nxt_of (i := (29, 1, .iaload, (0, 0, 0), 0)) (by decide +kernel)) ac_k190 (by decide) (by decide) ev ?_
  refine am_e_iastore (am_nxt_of (i := (30, 1, .iastore, (0, 0, 0), 0)) (by decide +kernel)) ac_k201 (ac_i1 hi (c := 2) (n := 2) (L := 17) (by decide) (by omega) (by decide)).1 (ac_i1 hi (c := 2) (n := 2) (L := 17) (by decide) (by omega) (by decide)).2 ?_
  have I3 := ac_w201 (q := 17 * u + 2) (v := v) I2 (ab_32 v).1 (ab_32 v).2
  have J3 := ac_J_201 hX (q := 17 * u + 2) (v := v) J2 (fun e => by omega)
  have F3 : ab_Fr [(201, 0)] h (am_up h2 201 (17 * u + 2) (.int v)) := ab_Fr_up rfl F2
  generalize am_up h2 201 (17 * u + 2) (.int v) = h3 at I3 J3 F3 ⊢
  clear ev
  refine am_e_aload_n (am_nxt_of (i := (31, 1, .aload_n 1, (0, 0, 0), 0)) (by decide +kernel)) (v := 201) rfl ?_
  refine am_e_iload_n (am_nxt_of (i := (32, 1, .iload_n 2, (0, 0, 0), 0)) (by decide +kernel)) (v := i) rfl ?_
  refine am_e_iconst (w := 3) (am_nxt_of (i := (33, 1, .iconst 3, (0, 0, 0), 0)) (by decide +kernel)) rfl ?_
  refine am_e_iadd (w := i + 3) (am_nxt_of (i := (34, 1, .iadd, (0, 0, 0), 0)) (by decide +kernel)) rfl ?_
  refine am_e_aload_n (am_nxt_of (i := (35, 1, .aload_n 0, (0, 0, 0), 0)) (by decide +kernel)) (v := 164) rfl ?_
  refine am_e_getf (am_nxt_of (i := (36, 3, .getfield 103, (12, 56, 1440), 0)) (by decide +kernel)) ac_o (ac_f56 I3) ?_
  refine am_e_iconst (w := 0) (am_nxt_of (i := (39, 1, .iconst 0, (0, 0, 0), 0)) (by decide +kernel)) rfl ?_
  obtain ⟨v, ev, vl, vu⟩ := ac_r194 I3 (q := 0) (by decide)
  refine am_e_iaload (v := v) (q := 0) (am_nxt_of (i := (40, 1, .iaload, (0, 0, 0), 0)) (by decide +kernel)) ac_k194 (by decide) (by decide) ev ?_
  refine am_e_iastore (am_nxt_of (i := (41, 1, .iastore, (0, 0, 0), 0)) (by decide +kernel)) ac_k201 (ac_i1 hi (c := 3) (n := 3) (L := 17) (by decide) (by omega) (by decide)).1 (ac_i1 hi (c := 3) (n := 3) (L := 17) (by decide) (by omega) (by decide)).2 ?_
  have I4 := ac_w201 (q := 17 * u + 3) (v := v) I3 (ab_32 v).1 (ab_32 v).2
  have J4 := ac_J_201 hX (q := 17 * u + 3) (v := v) J3 (fun _ => ⟨vl, vu⟩)
  have F4 : ab_Fr [(201, 0)] h (am_up h3 201 (17 * u + 3) (.int v)) := ab_Fr_up rfl F3
  generalize am_up h3 201 (17 * u + 3) (.int v) = h4 at I4 J4 F4 ⊢
  clear ev
  obtain ⟨v, ev, -⟩ := ac_g57 I4
  refine am_e_aload_n (am_nxt_of (i := (42, 1, .aload_n 1, (0, 0, 0), 0)) (by decide +kernel)) (v := 201) rfl ?_
  refine am_e_iload_n (am_nxt_of (i := (43, 1, .iload_n 2, (0, 0, 0), 0)) (by decide +kernel)) (v := i) rfl ?_
  refine am_e_iconst (w := 4) (am_nxt_of (i := (44, 1, .iconst 4, (0, 0, 0), 0)) (by decide +kernel)) rfl ?_
  refine am_e_iadd (w := i + 4) (am_nxt_of (i := (45, 1, .iadd, (0, 0, 0), 0)) (by decide +kernel)) rfl ?_
  refine am_e_aload_n (am_nxt_of (i := (46, 1, .aload_n 0, (0, 0, 0), 0)) (by decide +kernel)) (v := 164) rfl ?_
  refine am_e_getf (v := .int v) (am_nxt_of (i := (47, 3, .getfield 349, (12, 57, 1441), 0)) (by decide +kernel)) ac_o ev ?_
  refine am_e_iastore (am_nxt_of (i := (50, 1, .iastore, (0, 0, 0), 0)) (by decide +kernel)) ac_k201 (ac_i1 hi (c := 4) (n := 4) (L := 17) (by decide) (by omega) (by decide)).1 (ac_i1 hi (c := 4) (n := 4) (L := 17) (by decide) (by omega) (by decide)).2 ?_
  have I5 := ac_w201 (q := 17 * u + 4) (v := v) I4 (ab_32 v).1 (ab_32 v).2
  have J5 := ac_J_201 hX (q := 17 * u + 4) (v := v) J4 (fun e => by omega)
  have F5 : ab_Fr [(201, 0)] h (am_up h4 201 (17 * u + 4) (.int v)) := ab_Fr_up rfl F4
  generalize am_up h4 201 (17 * u + 4) (.int v) = h5 at I5 J5 F5 ⊢
  clear ev
  refine am_e_iconst (w := 0) (am_nxt_of (i := (51, 1, .iconst 0, (0, 0, 0), 0)) (by decide +kernel)) rfl ?_
  refine am_e_istore_n (ls' := [(3, .int 0), (0, .ref 164), (1, .ref 201), (2, .int i)]) (am_nxt_of (i := (52, 1, .istore_n 3, (0, 0, 0), 0)) (by decide +kernel)) (by decide +kernel) rfl ?_
  refine am_e_iload_n (am_nxt_of (i := (53, 1, .iload_n 3, (0, 0, 0), 0)) (by decide +kernel)) (v := 0) rfl ?_
  refine am_e_iconst (w := 4) (am_nxt_of (i := (54, 1, .iconst 4, (0, 0, 0), 0)) (by decide +kernel)) rfl ?_
  refine am_e_cmpF (am_nxt_of (i := (55, 3, .if_icmp .ge 50, (81, 0, 0), 0)) (by decide +kernel)) (am_c_geF (by decide)) ?_
  refine am_e_aload_n (am_nxt_of (i := (58, 1, .aload_n 1, (0, 0, 0), 0)) (by decide +kernel)) (v := 201) rfl ?_
  refine am_e_iload_n (am_nxt_of (i := (59, 1, .iload_n 2, (0, 0, 0), 0)) (by decide +kernel)) (v := i) rfl ?_
  refine am_e_iconst (w := 5) (am_nxt_of (i := (60, 1, .iconst 5, (0, 0, 0), 0)) (by decide +kernel)) rfl ?_
  refine am_e_iadd (w := i + 5) (am_nxt_of (i := (61, 1, .iadd, (0, 0, 0), 0)) (by decide +kernel)) rfl ?_
  refine am_e_iload_n (am_nxt_of (i := (62, 1, .iload_n 3, (0, 0, 0), 0)) (by decide +kernel)) (v := 0) rfl ?_
  refine am_e_iadd (w := (i + 5) + 0) (am_nxt_of (i := (63, 1, .iadd, (0, 0, 0), 0)) (by decide +kernel)) rfl ?_
  refine am_e_aload_n (am_nxt_of (i := (64, 1, .aload_n 0, (0, 0, 0), 0)) (by decide +kernel)) (v := 164) rfl ?_
  refine am_e_getf (am_nxt_of (i := (65, 3, .getfield 94, (12, 53, 1437), 0)) (by decide +kernel)) ac_o (ac_f53 I5) ?_
  refine am_e_iload_n (am_nxt_of (i := (68, 1, .iload_n 3, (0, 0, 0), 0)) (by decide +kernel)) (v := 0) rfl ?_
  obtain ⟨v, ev, vl, vu⟩ := ac_r191 I5 (q := 0) (by decide)
  refine am_e_iaload (v := v) (q := 0) (am_nxt_of (i := (69, 1, .iaload, (0, 0, 0), 0)) (by decide +kernel)) ac_k191 (by decide) (by decide) ev ?_
  refine am_e_iastore (am_nxt_of (i := (70, 1, .iastore, (0, 0, 0), 0)) (by decide +kernel)) ac_k201 (ac_i2 hi (c := 5) (n := 5) (d := 0) (m := 0) (L := 17) (by decide) (by decide) (by omega) (by decide)).1 (ac_i2 hi (c := 5) (n := 5) (d := 0) (m := 0) (L := 17) (by decide) (by decide) (by omega) (by decide)).2 ?_
  have I6 := ac_w201 (q := 17 * u + 5 + 0) (v := v) I5 (ab_32 v).1 (ab_32 v).2
  have J6 := ac_J_201 hX (q := 17 * u + 5 + 0) (v := v) J5 (fun e => by omega)
  have F6 : ab_Fr [(201, 0)] h (am_up h5 201 (17 * u + 5 + 0) (.int v)) := ab_Fr_up rfl F5
  generalize am_up h5 201 (17 * u + 5 + 0) (.int v) = h6 at I6 J6 F6 ⊢
  clear ev
  refine am_e_aload_n (am_nxt_of (i := (71, 1, .aload_n 1, (0, 0, 0), 0)) (by decide +kernel)) (v := 201) rfl ?_
  refine am_e_iload_n (am_nxt_of (i := (72, 1, .iload_n 2, (0, 0, 0), 0)) (by decide +kernel)) (v := i) rfl ?_
  refine am_e_bipush (w := 9) (am_nxt_of (i := (73, 2, .bipush 9, (0, 0, 0), 0)) (by decide +kernel)) (by decide) ?_
  refine am_e_iadd (w := i + 9) (am_nxt_of (i := (75, 1, .iadd, (0, 0, 0), 0)) (by decide +kernel)) rfl ?_
  refine am_e_iload_n (am_nxt_of (i := (76, 1, .iload_n 3, (0, 0, 0), 0)) (by decide +kernel)) (v := 0) rfl ?_
  refine am_e_iadd (w := (i + 9) + 0) (am_nxt_of (i := (77, 1, .iadd, (0, 0, 0), 0)) (by decide +kernel)) rfl ?_
  refine am_e_aload_n (am_nxt_of (i := (78, 1, .aload_n 0, (0, 0, 0), 0)) (by decide +kernel)) (v := 164) rfl ?_
  refine am_e_getf (am_nxt_of (i := (79, 3, .getfield 97, (12, 54, 1438), 0)) (by decide +kernel)) ac_o (ac_f54 I6) ?_
  refine am_e_iload_n (am_nxt_of (i := (82, 1, .iload_n 3, (0, 0, 0), 0)) (by decide +kernel)) (v := 0) rfl ?_
  obtain ⟨v, ev, vl, vu⟩ := ac_r192 I6 (q := 0) (by decide)
  refine am_e_iaload (v := v) (q := 0) (am_nxt_of (i := (83, 1, .iaload, (0, 0, 0), 0)) (by decide +kernel)) ac_k192 (by decide) (by decide) ev ?_
  refine am_e_iastore (am_nxt_of (i := (84, 1, .iastore, (0, 0, 0), 0)) (by decide +kernel)) ac_k201 (ac_i2 hi (c := 9) (n := 9) (d := 0) (m := 0) (L := 17) (by decide) (by decide) (by omega) (by decide)).1 (ac_i2 hi (c := 9) (n := 9) (d := 0) (m := 0) (L := 17) (by decide) (by decide) (by omega) (by decide)).2 ?_
  have I7 := ac_w201 (q := 17 * u + 9 + 0) (v := v) I6 (ab_32 v).1 (ab_32 v).2
  have J7 := ac_J_201 hX (q := 17 * u + 9 + 0) (v := v) J6 (fun e => by omega)
  have F7 : ab_Fr [(201, 0)] h (am_up h6 201 (17 * u + 9 + 0) (.int v)) := ab_Fr_up rfl F6
  generalize am_up h6 201 (17 * u + 9 + 0) (.int v) = h7 at I7 J7 F7 ⊢
  clear ev
  refine am_e_aload_n (am_nxt_of (i := (85, 1, .aload_n 1, (0, 0, 0), 0)) (by decide +kernel)) (v := 201) rfl ?_
  refine am_e_iload_n (am_nxt_of (i := (86, 1, .iload_n 2, (0, 0, 0), 0)) (by decide +kernel)) (v := i) rfl ?_
  refine am_e_bipush (w := 13) (am_nxt_of (i := (87, 2, .bipush 13, (0, 0, 0), 0)) (by decide +kernel)) (by decide) ?_
  refine am_e_iadd (w := i + 13) (am_nxt_of (i := (89, 1, .iadd, (0, 0, 0), 0)) (by decide +kernel)) rfl ?_
  refine am_e_iload_n (am_nxt_of (i := (90, 1, .iload_n 3, (0, 0, 0), 0)) (by decide +kernel)) (v := 0) rfl ?_
  refine am_e_iadd (w := (i + 13) + 0) (am_nxt_of (i := (91, 1, .iadd, (0, 0, 0), 0)) (by decide +kernel)) rfl ?_
  refine am_e_aload_n (am_nxt_of (i := (92, 1, .aload_n 0, (0, 0, 0), 0)) (by decide +kernel)) (v := 164) rfl ?_
  refine am_e_getf (am_nxt_of (i := (93, 3, .getfield 100, (12, 55, 1439), 0)) (by decide +kernel)) ac_o (ac_f55 I7) ?_
  refine am_e_iload_n (am_nxt_of (i := (96, 1, .iload_n 3, (0, 0, 0), 0)) (by decide +kernel)) (v := 0) rfl ?_
  obtain ⟨v, ev, vl, vu⟩ := ac_r193 I7 (q := 0) (by decide)
  refine am_e_iaload (v := v) (q := 0) (am_nxt_of (i := (97, 1, .iaload, (0, 0, 0), 0)) (by decide +kernel)) ac_k193 (by decide) (by decide) ev ?_
  refine am_e_iastore (am_nxt_of (i := (98, 1, .iastore, (0, 0, 0), 0)) (by decide +kernel)) ac_k201 (ac_i2 hi (c := 13) (n := 13) (d := 0) (m := 0) (L := 17) (by decide) (by decide) (by omega) (by decide)).1 (ac_i2 hi (c := 13) (n := 13) (d := 0) (m := 0) (L := 17) (by decide) (by decide) (by omega) (by decide)).2 ?_
  have I8 := ac_w201 (q := 17 * u + 13 + 0) (v := v) I7 (ab_32 v).1 (ab_32 v).2
  have J8 := ac_J_201 hX (q := 17 * u + 13 + 0) (v := v) J7 (fun e => by omega)
  have F8 : ab_Fr [(201, 0)] h (am_up h7 201 (17 * u + 13 + 0) (.int v)) := ab_Fr_up rfl F7
  generalize am_up h7 201 (17 * u + 13 + 0) (.int v) = h8 at I8 J8 F8 ⊢
  clear ev
  refine am_e_iinc (w := 1) (ls' := [(3, .int 1), (0, .ref 164), (1, .ref 201), (2, .int i)]) (am_nxt_of (i := (99, 3, .iinc 3 1, (0, 0, 0), 0)) (by decide +kernel)) (v := 0) rfl (by decide +kernel) (by decide) rfl ?_
  refine am_e_goto (am_cur_of (i := (102, 3, .goto (-49), (43, 0, 0), 0)) (by decide +kernel)) (am_tgt_of (by decide +kernel)) ?_
  refine am_e_iload_n (am_nxt_of (i := (53, 1, .iload_n 3, (0, 0, 0), 0)) (by decide +kernel)) (v := 1) rfl ?_
  refine am_e_iconst (w := 4) (am_nxt_of (i := (54, 1, .iconst 4, (0, 0, 0), 0)) (by decide +kernel)) rfl ?_
  refine am_e_cmpF (am_nxt_of (i := (55, 3, .if_icmp .ge 50, (81, 0, 0), 0)) (by decide +kernel)) (am_c_geF (by decide)) ?_
  refine am_e_aload_n (am_nxt_of (i := (58, 1, .aload_n 1, (0, 0, 0), 0)) (by decide +kernel)) (v := 201) rfl ?_
  refine am_e_iload_n (am_nxt_of (i := (59, 1, .iload_n 2, (0, 0, 0), 0)) (by decide +kernel)) (v := i) rfl ?_
  refine am_e_iconst (w := 5) (am_nxt_of (i := (60, 1, .iconst 5, (0, 0, 0), 0)) (by decide +kernel)) rfl ?_
  refine am_e_iadd (w := i + 5) (am_nxt_of (i := (61, 1, .iadd, (0, 0, 0), 0)) (by decide +kernel)) rfl ?_
  refine am_e_iload_n (am_nxt_of (i := (62, 1, .iload_n 3, (0, 0, 0), 0)) (by decide +kernel)) (v := 1) rfl ?_
  refine am_e_iadd (w := (i + 5) + 1) (am_nxt_of (i := (63, 1, .iadd, (0, 0, 0), 0)) (by decide +kernel)) rfl ?_
  refine am_e_aload_n (am_nxt_of (i := (64, 1, .aload_n 0, (0, 0, 0), 0)) (by decide +kernel)) (v := 164) rfl ?_
  refine am_e_getf (am_nxt_of (i := (65, 3, .getfield 94, (12, 53, 1437), 0)) (by decide +kernel)) ac_o (ac_f53 I8) ?_
  refine am_e_iload_n (am_nxt_of (i := (68, 1, .iload_n 3, (0, 0, 0), 0)) (by decide +kernel)) (v := 1) rfl ?_
  obtain ⟨v, ev, vl, vu⟩ := ac_r191 I8 (q := 1) (by decide)
  refine am_e_iaload (v := v) (q := 1) (am_nxt_of (i := (69, 1, .iaload, (0, 0, 0), 0)) (by decide +kernel)) ac_k191 (by decide) (by decide) ev ?_
  refine am_e_iastore (am_nxt_of (i := (70, 1, .iastore, (0, 0, 0), 0)) (by decide +kernel)) ac_k201 (ac_i2 hi (c := 5) (n := 5) (d := 1) (m := 1) (L := 17) (by decide) (by decide) (by omega) (by decide)).1 (ac_i2 hi (c := 5) (n := 5) (d := 1) (m := 1) (L := 17) (by decide) (by decide) (by omega) (by decide)).2 ?_
  have I9 := ac_w201 (q := 17 * u + 5 + 1) (v := v) I8 (ab_32 v).1 (ab_32 v).2
  have J9 := ac_J_201 hX (q := 17 * u + 5 + 1) (v := v) J8 (fun e => by omega)
  have F9 : ab_Fr [(201, 0)] h (am_up h8 201 (17 * u + 5 + 1) (.int v)) := ab_Fr_up rfl F8
  generalize am_up h8 201 (17 * u + 5 + 1) (.int v) = h9 at I9 J9 F9 ⊢
  clear ev
  refine am_e_aload_n (am_nxt_of (i := (71, 1, .aload_n 1, (0, 0, 0), 0)) (by decide +kernel)) (v := 201) rfl ?_
  refine am_e_iload_n (am_nxt_of (i := (72, 1, .iload_n 2, (0, 0, 0), 0)) (by decide +kernel)) (v := i) rfl ?_
  refine am_e_bipush (w := 9) (am_nxt_of (i := (73, 2, .bipush 9, (0, 0, 0), 0)) (by decide +kernel)) (by decide) ?_
  refine am_e_iadd (w := i + 9) (am_nxt_of (i := (75, 1, .iadd, (0, 0, 0), 0)) (by decide +kernel)) rfl ?_
  refine am_e_iload_n (am_nxt_of (i := (76, 1, .iload_n 3, (0, 0, 0), 0)) (by decide +kernel)) (v := 1) rfl ?_
  refine am_e_iadd (w := (i + 9) + 1) (am_nxt_of (i := (77, 1, .iadd, (0, 0, 0), 0)) (by decide +kernel)) rfl ?_
  refine am_e_aload_n (am_nxt_of (i := (78, 1, .aload_n 0, (0, 0, 0), 0)) (by decide +kernel)) (v := 164) rfl ?_
  refine am_e_getf (am_nxt_of (i := (79, 3, .getfield 97, (12, 54, 1438), 0)) (by decide +kernel)) ac_o (ac_f54 I9) ?_
  refine am_e_iload_n (am_nxt_of (i := (82, 1, .iload_n 3, (0, 0, 0), 0)) (by decide +kernel)) (v := 1) rfl ?_
  obtain ⟨v, ev, vl, vu⟩ := ac_r192 I9 (q := 1) (by decide)
  refine am_e_iaload (v := v) (q := 1) (am_nxt_of (i := (83, 1, .iaload, (0, 0, 0), 0)) (by decide +kernel)) ac_k192 (by decide) (by decide) ev ?_
  refine am_e_iastore (am_nxt_of (i := (84, 1, .iastore, (0, 0, 0), 0)) (by decide +kernel)) ac_k201 (ac_i2 hi (c := 9) (n := 9) (d := 1) (m := 1) (L := 17) (by decide) (by decide) (by omega) (by decide)).1 (ac_i2 hi (c := 9) (n := 9) (d := 1) (m := 1) (L := 17) (by decide) (by decide) (by omega) (by decide)).2 ?_
  have I10 := ac_w201 (q := 17 * u + 9 + 1) (v := v) I9 (ab_32 v).1 (ab_32 v).2
  have J10 := ac_J_201 hX (q := 17 * u + 9 + 1) (v := v) J9 (fun e => by omega)
  have F10 : ab_Fr [(201, 0)] h (am_up h9 201 (17 * u + 9 + 1) (.int v)) := ab_Fr_up rfl F9
  generalize am_up h9 201 (17 * u + 9 + 1) (.int v) = h10 at I10 J10 F10 ⊢
  clear ev
  refine am_e_aload_n (am_nxt_of (i := (85, 1, .aload_n 1, (0, 0, 0), 0)) (by decide +kernel)) (v := 201) rfl ?_
  refine am_e_iload_n (am_nxt_of (i := (86, 1, .iload_n 2, (0, 0, 0), 0)) (by decide +kernel)) (v := i) rfl ?_
  refine am_e_bipush (w := 13) (am_nxt_of (i := (87, 2, .bipush 13, (0, 0, 0), 0)) (by decide +kernel)) (by decide) ?_
  refine am_e_iadd (w := i + 13) (am_nxt_of (i := (89, 1, .iadd, (0, 0, 0), 0)) (by decide +kernel)) rfl ?_
  refine am_e_iload_n (am_nxt_of (i := (90, 1, .iload_n 3, (0, 0, 0), 0)) (by decide +kernel)) (v := 1) rfl ?_
  refine am_e_iadd (w := (i + 13) + 1) (am_nxt_of (i := (91, 1, .iadd, (0, 0, 0), 0)) (by decide +kernel)) rfl ?_
  refine am_e_aload_n (am_nxt_of (i := (92, 1, .aload_n 0, (0, 0, 0), 0)) (by decide +kernel)) (v := 164) rfl ?_
  refine am_e_getf (am_nxt_of (i := (93, 3, .getfield 100, (12, 55, 1439), 0)) (by decide +kernel)) ac_o (ac_f55 I10) ?_
  refine am_e_iload_n (am_nxt_of (i := (96, 1, .iload_n 3, (0, 0, 0), 0)) (by decide +kernel)) (v := 1) rfl ?_
  obtain ⟨v, ev, vl, vu⟩ := ac_r193 I10 (q := 1) (by decide)
  refine am_e_iaload (v := v) (q := 1) (am_nxt_of (i := (97, 1, .iaload, (0, 0, 0), 0)) (by decide +kernel)) ac_k193 (by decide) (by decide) ev ?_
  refine am_e_iastore (am_nxt_of (i := (98, 1, .iastore, (0, 0, 0), 0)) (by decide +kernel)) ac_k201 (ac_i2 hi (c := 13) (n := 13) (d := 1) (m := 1) (L := 17) (by decide) (by decide) (by omega) (by decide)).1 (ac_i2 hi (c := 13) (n := 13) (d := 1) (m := 1) (L := 17) (by decide) (by decide) (by omega) (by decide)).2 ?_
  have I11 := ac_w201 (q := 17 * u + 13 + 1) (v := v) I10 (ab_32 v).1 (ab_32 v).2
  have J11 := ac_J_201 hX (q := 17 * u + 13 + 1) (v := v) J10 (fun e => by omega)
  have F11 : ab_Fr [(201, 0)] h (am_up h10 201 (17 * u + 13 + 1) (.int v)) := ab_Fr_up rfl F10
  generalize am_up h10 201 (17 * u + 13 + 1) (.int v) = h11 at I11 J11 F11 ⊢
  clear ev
  refine am_e_iinc (w := 2) (ls' := [(3, .int 2), (0, .ref 164), (1, .ref 201), (2, .int i)]) (am_nxt_of (i := (99, 3, .iinc 3 1, (0, 0, 0), 0)) (by decide +kernel)) (v := 1) rfl (by decide +kernel) (by decide) rfl ?_
  refine am_e_goto (am_cur_of (i := (102, 3, .goto (-49), (43, 0, 0), 0)) (by decide +kernel)) (am_tgt_of (by decide +kernel)) ?_
  refine am_e_iload_n (am_nxt_of (i := (53, 1, .iload_n 3, (0, 0, 0), 0)) (by decide +kernel)) (v := 2) rfl ?_
  refine am_e_iconst (w := 4) (am_nxt_of (i := (54, 1, .iconst 4, (0, 0, 0), 0)) (by decide +kernel)) rfl ?_
  refine am_e_cmpF (am_nxt_of (i := (55, 3, .if_icmp .ge 50, (81, 0, 0), 0)) (by decide +kernel)) (am_c_geF (by decide)) ?_
  refine am_e_aload_n (am_nxt_of (i := (58, 1, .aload_n 1, (0, 0, 0), 0)) (by decide +kernel)) (v := 201) rfl ?_
  refine am_e_iload_n (am_nxt_of (i := (59, 1, .iload_n 2, (0, 0, 0), 0)) (by decide +kernel)) (v := i) rfl ?_
  refine am_e_iconst (w := 5) (am_nxt_of (i := (60, 1, .iconst 5, (0, 0, 0), 0)) (by decide +kernel)) rfl ?_
  refine am_e_iadd (w := i + 5) (am_nxt_of (i := (61, 1, .iadd, (0, 0, 0), 0)) (by decide +kernel)) rfl ?_
  refine am_e_iload_n (am_nxt_of (i := (62, 1, .iload_n 3, (0, 0, 0), 0)) (by decide +kernel)) (v := 2) rfl ?_
  refine am_e_iadd (w := (i + 5) + 2) (am_nxt_of (i := (63, 1, .iadd, (0, 0, 0), 0)) (by decide +kernel)) rfl ?_
  refine am_e_aload_n (am_nxt_of (i := (64, 1, .aload_n 0, (0, 0, 0), 0)) (by decide +kernel)) (v := 164) rfl ?_
  refine am_e_getf (am_nxt_of (i := (65, 3, .getfield 94, (12, 53, 1437), 0)) (by decide +kernel)) ac_o (ac_f53 I11) ?_
  refine am_e_iload_n (am_nxt_of (i := (68, 1, .iload_n 3, (0, 0, 0), 0)) (by decide +kernel)) (v := 2) rfl ?_
  obtain ⟨v, ev, vl, vu⟩ := ac_r191 I11 (q := 2) (by decide)
  refine am_e_iaload (v := v) (q := 2) (am_nxt_of (i := (69, 1, .iaload, (0, 0, 0), 0)) (by decide +kernel)) ac_k191 (by decide) (by decide) ev ?_
  refine am_e_iastore (am_nxt_of (i := (70, 1, .iastore, (0, 0, 0), 0)) (by decide +kernel)) ac_k201 (ac_i2 hi (c := 5) (n := 5) (d := 2) (m := 2) (L := 17) (by decide) (by decide) (by omega) (by decide)).1 (ac_i2 hi (c := 5) (n := 5) (d := 2) (m := 2) (L := 17) (by decide) (by decide) (by omega) (by decide)).2 ?_
  have I12 := ac_w201 (q := 17 * u + 5 + 2) (v := v) I11 (ab_32 v).1 (ab_32 v).2
  have J12 := ac_J_201 hX (q := 17 * u + 5 + 2) (v := v) J11 (fun e => by omega)
  have F12 : ab_Fr [(201, 0)] h (am_up h11 201 (17 * u + 5 + 2) (.int v)) := ab_Fr_up rfl F11
  generalize am_up h11 201 (17 * u + 5 + 2) (.int v) = h12 at I12 J12 F12 ⊢
  clear ev
  refine am_e_aload_n (am_nxt_of (i := (71, 1, .aload_n 1, (0, 0, 0), 0)) (by decide +kernel)) (v := 201) rfl ?_
  refine am_e_iload_n (am_nxt_of (i := (72, 1, .iload_n 2, (0, 0, 0), 0)) (by decide +kernel)) (v := i) rfl ?_
  refine am_e_bipush (w := 9) (am_nxt_of (i := (73, 2, .bipush 9, (0, 0, 0), 0)) (by decide +kernel)) (by decide) ?_
  refine am_e_iadd (w := i + 9) (am_nxt_of (i := (75, 1, .iadd, (0, 0, 0), 0)) (by decide +kernel)) rfl ?_
  refine am_e_iload_n (am_nxt_of (i := (76, 1, .iload_n 3, (0, 0, 0), 0)) (by decide +kernel)) (v := 2) rfl ?_
  refine am_e_iadd (w := (i + 9) + 2) (am_nxt_of (i := (77, 1, .iadd, (0, 0, 0), 0)) (by decide +kernel)) rfl ?_
  refine am_e_aload_n (am_nxt_of (i := (78, 1, .aload_n 0, (0, 0, 0), 0)) (by decide +kernel)) (v := 164) rfl ?_
  refine am_e_getf (am_nxt_of (i := (79, 3, .getfield 97, (12, 54, 1438), 0)) (by decide +kernel)) ac_o (ac_f54 I12) ?_
  refine am_e_iload_n (am_nxt_of (i := (82, 1, .iload_n 3, (0, 0, 0), 0)) (by decide +kernel)) (v := 2) rfl ?_
  obtain ⟨v, ev, vl, vu⟩ := ac_r192 I12 (q := 2) (by decide)
  refine am_e_iaload (v := v) (q := 2) (am_nxt_of (i := (83, 1, .iaload, (0, 0, 0), 0)) (by decide +kernel)) ac_k192 (by decide) (by decide) ev ?_
  refine am_e_iastore (am_nxt_of (i := (84, 1, .iastore, (0, 0, 0), 0)) (by decide +kernel)) ac_k201 (ac_i2 hi (c := 9) (n := 9) (d := 2) (m := 2) (L := 17) (by decide) (by decide) (by omega) (by decide)).1 (ac_i2 hi (c := 9) (n := 9) (d := 2) (m := 2) (L := 17) (by decide) (by decide) (by omega) (by decide)).2 ?_
  have I13 := ac_w201 (q := 17 * u + 9 + 2) (v := v) I12 (ab_32 v).1 (ab_32 v).2
  have J13 := ac_J_201 hX (q := 17 * u + 9 + 2) (v := v) J12 (fun e => by omega)
  have F13 : ab_Fr [(201, 0)] h (am_up h12 201 (17 * u + 9 + 2) (.int v)) := ab_Fr_up rfl F12
  generalize am_up h12 201 (17 * u + 9 + 2) (.int v) = h13 at I13 J13 F13 ⊢
  clear ev
  refine am_e_aload_n (am_nxt_of (i := (85, 1, .aload_n 1, (0, 0, 0), 0)) (by decide +kernel)) (v := 201) rfl ?_
  refine am_e_iload_n (am_nxt_of (i := (86, 1, .iload_n 2, (0, 0, 0), 0)) (by decide +kernel)) (v := i) rfl ?_
  refine am_e_bipush (w := 13) (am_nxt_of (i := (87, 2, .bipush 13, (0, 0, 0), 0)) (by decide +kernel)) (by decide) ?_
  refine am_e_iadd (w := i + 13) (am_nxt_of (i := (89, 1, .iadd, (0, 0, 0), 0)) (by decide +kernel)) rfl ?_
  refine am_e_iload_n (am_nxt_of (i := (90, 1, .iload_n 3, (0, 0, 0), 0)) (by decide +kernel)) (v := 2) rfl ?_
  refine am_e_iadd (w := (i + 13) + 2) (am_nxt_of (i := (91, 1, .iadd, (0, 0, 0), 0)) (by decide +kernel)) rfl ?_
  refine am_e_aload_n (am_nxt_of (i := (92, 1, .aload_n 0, (0, 0, 0), 0)) (by decide +kernel)) (v := 164) rfl ?_
  refine am_e_getf (am_nxt_of (i := (93, 3, .getfield 100, (12, 55, 1439), 0)) (by decide +kernel)) ac_o (ac_f55 I13) ?_
  refine am_e_iload_n (am_nxt_of (i := (96, 1, .iload_n 3, (0, 0, 0), 0)) (by decide +kernel)) (v := 2) rfl ?_
  obtain ⟨v, ev, vl, vu⟩ := ac_r193 I13 (q := 2) (by decide)
  refine am_e_iaload (v := v) (q := 2) (am_nxt_of (i := (97, 1, .iaload, (0, 0, 0), 0)) (by decide +kernel)) ac_k193 (by decide) (by decide) ev ?_
  refine am_e_iastore (am_nxt_of (i := (98, 1, .iastore, (0, 0, 0), 0)) (by decide +kernel)) ac_k201 (ac_i2 hi (c := 13) (n := 13) (d := 2) (m := 2) (L := 17) (by decide) (by decide) (by omega) (by decide)).1 (ac_i2 hi (c := 13) (n := 13) (d := 2) (m := 2) (L := 17) (by decide) (by decide) (by omega) (by decide)).2 ?_
  have I14 := ac_w201 (q := 17 * u + 13 + 2) (v := v) I13 (ab_32 v).1 (ab_32 v).2
  have J14 := ac_J_201 hX (q := 17 * u + 13 + 2) (v := v) J13 (fun e => by omega)
  have F14 : ab_Fr [(201, 0)] h (am_up h13 201 (17 * u + 13 + 2) (.int v)) := ab_Fr_up rfl F13
  generalize am_up h13 201 (17 * u + 13 + 2) (.int v) = h14 at I14 J14 F14 ⊢
  clear ev
  refine am_e_iinc (w := 3) (ls' := [(3, .int 3), (0, .ref 164), (1, .ref 201), (2, .int i)]) (am_nxt_of (i := (99, 3, .iinc 3 1, (0, 0, 0), 0)) (by decide +kernel)) (v := 2) rfl (by decide +kernel) (by decide) rfl ?_
  refine am_e_goto (am_cur_of (i := (102, 3, .goto (-49), (43, 0, 0), 0)) (by decide +kernel)) (am_tgt_of (by decide +kernel)) ?_
  refine am_e_iload_n (am_nxt_of (i := (53, 1, .iload_n 3, (0, 0, 0), 0)) (by decide +kernel)) (v := 3) rfl ?_
  refine am_e_iconst (w := 4) (am_nxt_of (i := (54, 1, .iconst 4, (0, 0, 0), 0)) (by decide +kernel)) rfl ?_
  refine am_e_cmpF (am_nxt_of (i := (55, 3, .if_icmp .ge 50, (81, 0, 0), 0)) (by decide +kernel)) (am_c_geF (by decide)) ?_
  refine am_e_aload_n (am_nxt_of (i := (58, 1, .aload_n 1, (0, 0, 0), 0)) (by decide +kernel)) (v := 201) rfl ?_
  refine am_e_iload_n (am_nxt_of (i := (59, 1, .iload_n 2, (0, 0, 0), 0)) (by decide +kernel)) (v := i) rfl ?_
  refine am_e_iconst (w := 5) (am_nxt_of (i := (60, 1, .iconst 5, (0, 0, 0), 0)) (by decide +kernel)) rfl ?_
  refine am_e_iadd (w := i + 5) (am_nxt_of (i := (61, 1, .iadd, (0, 0, 0), 0)) (by decide +kernel)) rfl ?_
  refine am_e_iload_n (am_nxt_of (i := (62, 1, .iload_n 3, (0, 0, 0), 0)) (by decide +kernel)) (v := 3) rfl ?_
  refine am_e_iadd (w := (i + 5) + 3) (am_nxt_of (i := (63, 1, .iadd, (0, 0, 0), 0)) (by decide +kernel)) rfl ?_
  refine am_e_aload_n (am_nxt_of (i := (64, 1, .aload_n 0, (0, 0, 0), 0)) (by decide +kernel)) (v := 164) rfl ?_
  refine am_e_getf (am_nxt_of (i := (65, 3, .getfield 94, (12, 53, 1437), 0)) (by decide +kernel)) ac_o (ac_f53 I14) ?_
  refine am_e_iload_n (am_nxt_of (i := (68, 1, .iload_n 3, (0, 0, 0), 0)) (by decide +kernel)) (v := 3) rfl ?_
  obtain ⟨v, ev, vl, vu⟩ := ac_r191 I14 (q := 3) (by decide)
  refine am_e_iaload (v := v) (q := 3) (am_nxt_of (i := (69, 1, .iaload, (0, 0, 0), 0)) (by decide +kernel)) ac_k191 (by decide) (by decide) ev ?_
  refine am_e_iastore (am_nxt_of (i := (70, 1, .iastore, (0, 0, 0), 0)) (by decide +kernel)) ac_k201 (ac_i2 hi (c := 5) (n := 5) (d := 3) (m := 3) (L := 17) (by decide) (by decide) (by omega) (by decide)).1 (ac_i2 hi (c := 5) (n := 5) (d := 3) (m := 3) (L := 17) (by decide) (by decide) (by omega) (by decide)).2 ?_
  have I15 := ac_w201 (q := 17 * u + 5 + 3) (v := v) I14 (ab_32 v).1 (ab_32 v).2
  have J15 := ac_J_201 hX (q := 17 * u + 5 + 3) (v := v) J14 (fun e => by omega)
  have F15 : ab_Fr [(201, 0)] h (am_up h14 201 (17 * u + 5 + 3) (.int v)) := ab_Fr_up rfl F14
  generalize am_up h14 201 (17 * u + 5 + 3) (.int v) = h15 at I15 J15 F15 ⊢
  clear ev
  refine am_e_aload_n (am_nxt_of (i := (71, 1, .aload_n 1, (0, 0, 0), 0)) (by decide +kernel)) (v := 201) rfl ?_
  refine am_e_iload_n (am_nxt_of (i := (72, 1, .iload_n 2, (0, 0, 0), 0)) (by decide +kernel)) (v := i) rfl ?_
  refine am_e_bipush (w := 9) (am_nxt_of (i := (73, 2, .bipush 9, (0, 0, 0), 0)) (by decide +kernel)) (by decide) ?_
  refine am_e_iadd (w := i + 9) (am_nxt_of (i := (75, 1, .iadd, (0, 0, 0), 0)) (by decide +kernel)) rfl ?_
  refine am_e_iload_n (am_nxt_of (i := (76, 1, .iload_n 3, (0, 0, 0), 0)) (by decide +kernel)) (v := 3) rfl ?_
  refine am_e_iadd (w := (i + 9) + 3) (am_nxt_of (i := (77, 1, .iadd, (0, 0, 0), 0)) (by decide +kernel)) rfl ?_
  refine am_e_aload_n (am_nxt_of (i := (78, 1, .aload_n 0, (0, 0, 0), 0)) (by decide +kernel)) (v := 164) rfl ?_
  refine am_e_getf (am_nxt_of (i := (79, 3, .getfield 97, (12, 54, 1438), 0)) (by decide +kernel)) ac_o (ac_f54 I15) ?_
  refine am_e_iload_n (am_nxt_of (i := (82, 1, .iload_n 3, (0, 0, 0), 0)) (by decide +kernel)) (v := 3) rfl ?_
  obtain ⟨v, ev, vl, vu⟩ := ac_r192 I15 (q := 3) (by decide)
  refine am_e_iaload (v := v) (q := 3) (am_nxt_of (i := (83, 1, .iaload, (0, 0, 0), 0)) (by decide +kernel)) ac_k192 (by decide) (by decide) ev ?_
  refine am_e_iastore (am_nxt_of (i := (84, 1, .iastore, (0, 0, 0), 0)) (by decide +kernel)) ac_k201 (ac_i2 hi (c := 9) (n := 9) (d := 3) (m := 3) (L := 17) (by decide) (by decide) (by omega) (by decide)).1 (ac_i2 hi (c := 9) (n := 9) (d := 3) (m := 3) (L := 17) (by decide) (by decide) (by omega) (by decide)).2 ?_
  have I16 := ac_w201 (q := 17 * u + 9 + 3) (v := v) I15 (ab_32 v).1 (ab_32 v).2
  have J16 := ac_J_201 hX (q := 17 * u + 9 + 3) (v := v) J15 (fun e => by omega)
  have F16 : ab_Fr [(201, 0)] h (am_up h15 201 (17 * u + 9 + 3) (.int v)) := ab_Fr_up rfl F15
  generalize am_up h15 201 (17 * u + 9 + 3) (.int v) = h16 at I16 J16 F16 ⊢
  clear ev
  refine am_e_aload_n (am_nxt_of (i := (85, 1, .aload_n 1, (0, 0, 0), 0)) (by decide +kernel)) (v := 201) rfl ?_
  refine am_e_iload_n (am_nxt_of (i := (86, 1, .iload_n 2, (0, 0, 0), 0)) (by decide +kernel)) (v := i) rfl ?_
  refine am_e_bipush (w := 13) (am_nxt_of (i := (87, 2, .bipush 13, (0, 0, 0), 0)) (by decide +kernel)) (by decide) ?_
  refine am_e_iadd (w := i + 13) (am_nxt_of (i := (89, 1, .iadd, (0, 0, 0), 0)) (by decide +kernel)) rfl ?_
  refine am_e_iload_n (am_nxt_of (i := (90, 1, .iload_n 3, (0, 0, 0), 0)) (by decide +kernel)) (v := 3) rfl ?_
  refine am_e_iadd (w := (i + 13) + 3) (am_nxt_of (i := (91, 1, .iadd, (0, 0, 0), 0)) (by decide +kernel)) rfl ?_
  refine am_e_aload_n (am_nxt_of (i := (92, 1, .aload_n 0, (0, 0, 0), 0)) (by decide +kernel)) (v := 164) rfl ?_
  refine am_e_getf (am_nxt_of (i := (93, 3, .getfield 100, (12, 55, 1439), 0)) (by decide +kernel)) ac_o (ac_f55 I16) ?_
  refine am_e_iload_n (am_nxt_of (i := (96, 1, .iload_n 3, (0, 0, 0), 0)) (by decide +kernel)) (v := 3) rfl ?_
  obtain ⟨v, ev, vl, vu⟩ := ac_r193 I16 (q := 3) (by decide)
  refine am_e_iaload (v := v) (q := 3) (am_nxt_of (i := (97, 1, .iaload, (0, 0, 0), 0)) (by decide +kernel)) ac_k193 (by decide) (by decide) ev ?_
  refine am_e_iastore (am_nxt_of (i := (98, 1, .iastore, (0, 0, 0), 0)) (by decide +kernel)) ac_k201 (ac_i2 hi (c := 13) (n := 13) (d := 3) (m := 3) (L := 17) (by decide) (by decide) (by omega) (by decide)).1 (ac_i2 hi (c := 13) (n := 13) (d := 3) (m := 3) (L := 17) (by decide) (by decide) (by omega) (by decide)).2 ?_
  have I17 := ac_w201 (q := 17 * u + 13 + 3) (v := v) I16 (ab_32 v).1 (ab_32 v).2
  have J17 := ac_J_201 hX (q := 17 * u + 13 + 3) (v := v) J16 (fun e => by omega)
  have F17 : ab_Fr [(201, 0)] h (am_up h16 201 (17 * u + 13 + 3) (.int v)) := ab_Fr_up rfl F16
  generalize am_up h16 201 (17 * u + 13 + 3) (.int v) = h17 at I17 J17 F17 ⊢
  clear ev
  refine am_e_iinc (w := 4) (ls' := [(3, .int 4), (0, .ref 164), (1, .ref 201), (2, .int i)]) (am_nxt_of (i := (99, 3, .iinc 3 1, (0, 0, 0), 0)) (by decide +kernel)) (v := 3) rfl (by decide +kernel) (by decide) rfl ?_
  refine am_e_goto (am_cur_of (i := (102, 3, .goto (-49), (43, 0, 0), 0)) (by decide +kernel)) (am_tgt_of (by decide +kernel)) ?_
  refine am_e_iload_n (am_nxt_of (i := (53, 1, .iload_n 3, (0, 0, 0), 0)) (by decide +kernel)) (v := 4) rfl ?_
  refine am_e_iconst (w := 4) (am_nxt_of (i := (54, 1, .iconst 4, (0, 0, 0), 0)) (by decide +kernel)) rfl ?_
  refine am_e_cmpT (am_nxt_of (i := (55, 3, .if_icmp .ge 50, (81, 0, 0), 0)) (by decide +kernel)) (am_c_geT (by decide)) (am_tgt_of (by decide +kernel)) ?_
  exact am_e_vret (am_cur_of (i := (105, 1, .return_, (0, 0, 0), 0)) (by decide +kernel)) rfl rfl ⟨rfl, rfl, I17, J17, F17⟩
theorem ac_take200 (hX : ac_XF X) {h : am_H} (hI : ab_Inv (ab_hi ab_tab) h) (hj : ac_JX X h) {i : Int32} {u : Nat} (hi : i.toInt = (17 * u : Nat)) (hu : u ≤ 19) : am_Ek false am_G0 am_m250 0 (lv_args 0 [.ref 164, .ref 200, .int i]) [] am_ks0 h 0 0 (fun r ks h' => ks = am_ks0 ∧ r = none ∧ ab_Inv (ab_hi ab_tab) h' ∧ ac_JX X h' ∧ ab_Fr [(164, 58), (188, 1), (189, 1), (190, 1), (191, 0), (192, 0), (193, 0), (194, 1)] h h') := by
  obtain ⟨v, ev, vl, vu⟩ := ac_r200 hI (q := 17 * u) (by omega)
  refine am_e_aload_n (am_nxt_of (i := (0, 1, .aload_n 0, (0, 0, 0), 0)) (by decide +kernel)) (v := 164) rfl ?_
  refine am_e_getf (am_nxt_of (i := (1, 3, .getfield 85, (12, 50, 1434), 0)) (by decide +kernel)) ac_o (ac_f50 hI) ?_
  refine am_e_iconst (w := 0) (am_nxt_of (i := (4, 1, .iconst 0, (0, 0, 0), 0)) (by decide +kernel)) rfl ?_
  refine am_e_aload_n (am_nxt_of (i := (5, 1, .aload_n 1, (0, 0, 0), 0)) (by decide +kernel)) (v := 200) rfl ?_
  refine am_e_iload_n (am_nxt_of (i := (6, 1, .iload_n 2, (0, 0, 0), 0)) (by decide +kernel)) (v := i) rfl ?_
  refine am_e_iaload (v := v) (am_nxt_of (i := (7, 1, .iaload, (0, 0, 0), 0)) (by decide +kernel)) ac_k200 (ac_i0 hi (L := 340) (by omega)).1 (ac_i0 hi (L := 340) (by omega)).2 ev ?_
  refine am_e_iastore (q := 0) (am_nxt_of (i := (8, 1, .iastore, (0, 0, 0), 0)) (by decide +kernel)) ac_k188 (by decide) (by decide) ?_
  have I1 := ac_w188 (q := 0) (v := v) hI (ab_32 v).1 (ab_32 v).2
  have J1 := ac_JX_fr hX (md := [(188, 0)]) rfl _ (am_up h 188 0 (.int v)) (ab_Fr_up rfl ab_Fr_refl) hj
  have F1 : ab_Fr [(164, 58), (188, 1), (189, 1), (190, 1), (191, 0), (192, 0), (193, 0), (194, 1)] h (am_up h 188 (0) (.int v)) := ab_Fr_up rfl ab_Fr_refl
  generalize am_up h 188 (0) (.int v) = h1 at I1 J1 F1 ⊢
  clear ev
  obtain ⟨v, ev, vl, vu⟩ := ac_r200 I1 (q := 17 * u + 1) (by omega)
  refine am_e_aload_n (am_nxt_of (i := (9, 1, .aload_n 0, (0, 0, 0), 0)) (by decide +kernel)) (v := 164) rfl ?_
  refine am_e_getf (am_nxt_of (i := (10, 3, .getfield 88, (12, 51, 1435), 0)) (by decide +kernel)) ac_o (ac_f51 I1) ?_
  refine am_e_iconst (w := 0) (am_nxt_of (i := (13, 1, .iconst 0, (0, 0, 0), 0)) (by decide +kernel)) rfl ?_
  refine am_e_aload_n (am_nxt_of (i := (14, 1, .aload_n 1, (0, 0, 0), 0)) (by decide +kernel)) (v := 200) rfl ?_
  refine am_e_iload_n (am_nxt_of (i := (15, 1, .iload_n 2, (0, 0, 0), 0)) (by decide +kernel)) (v := i) rfl ?_
  refine am_e_iconst (w := 1) (am_nxt_of (i := (16, 1, .iconst 1, (0, 0, 0), 0)) (by decide +kernel)) rfl ?_
  refine am_e_iadd (w := i + 1) (am_nxt_of (i := (17, 1, .iadd, (0, 0, 0), 0)) (by decide +kernel)) rfl ?_
  refine am_e_iaload (v := v) (am_nxt_of (i := (18, 1, .iaload, (0, 0, 0), 0)) (by decide +kernel)) ac_k200 (ac_i1 hi (c := 1) (n := 1) (L := 340) (by decide) (by omega) (by decide)).1 (ac_i1 hi (c := 1) (n := 1) (L := 340) (by decide) (by omega) (by decide)).2 ev ?_
  refine am_e_iastore (q := 0) (am_nxt_of (i := (19, 1, .iastore, (0, 0, 0), 0)) (by decide +kernel)) ac_k189 (by decide) (by decide) ?_
  have I2 := ac_w189 (q := 0) (v := v) I1 (ab_32 v).1 (ab_32 v).2
  have J2 := ac_JX_fr hX (md := [(189, 0)]) rfl _ (am_up h1 189 0 (.int v)) (ab_Fr_up rfl ab_Fr_refl) J1
  have F2 : ab_Fr [(164, 58), (188, 1), (189, 1), (190, 1), (191, 0), (192, 0), (193, 0), (194, 1)] h (am_up h1 189 (0) (.int v)) := ab_Fr_up rfl F1
  generalize am_up h1 189 (0) (.int v) = h2 at I2 J2 F2 ⊢
  clear ev
  obtain ⟨v, ev, vl, vu⟩ := ac_r200 I2 (q := 17 * u + 2) (by omega)
  refine am_e_aload_n (am_nxt_of (i := (20, 1, .aload_n 0, (0, 0, 0), 0)) (by decide +kernel)) (v := 164) rfl ?_
  refine am_e_getf (am_nxt_of (i := (21, 3, .getfield 91, (12, 52, 1436), 0)) (by decide +kernel)) ac_o (ac_f52 I2) ?_
  refine am_e_iconst (w := 0) (am_nxt_of (i := (24, 1, .iconst 0, (0, 0, 0), 0)) (by decide +kernel)) rfl ?_
  refine am_e_aload_n (am_nxt_of (i := (25, 1, .aload_n 1, (0, 0, 0), 0)) (by decide +kernel)) (v := 200) rfl ?_
  refine am_e_iload_n (am_nxt_of (i := (26, 1, .iload_n 2, (0, 0, 0), 0)) (by decide +kernel)) (v := i) rfl ?_
  refine am_e_iconst (w := 2) (am_nxt_of (i := (27, 1, .iconst 2, (0, 0, 0), 0)) (by decide +kernel)) rfl ?_
  refine am_e_iadd (w := i + 2) (am_nxt_of (i := (28, 1, .iadd, (0, 0, 0), 0)) (by decide +kernel)) rfl ?_
  refine am_e_iaload (v := v) (am_nxt_of (i := (29, 1, .iaload, (0, 0, 0), 0)) (by decide +kernel)) ac_k200 (ac_i1 hi (c := 2) (n := 2) (L := 340) (by decide) (by omega) (by decide)).1 (ac_i1 hi (c := 2) (n := 2) (L := 340) (by decide) (by omega) (by decide)).2 ev ?_
  refine am_e_iastore (q := 0) (am_nxt_of (i := (30, 1, .iastore, (0, 0, 0), 0)) (by decide +kernel)) ac_k190 (by decide) (by decide) ?_
  have I3 := ac_w190 (q := 0) (v := v) I2 (ab_32 v).1 (ab_32 v).2
  have J3 := ac_JX_fr hX (md := [(190, 0)]) rfl _ (am_up h2 190 0 (.int v)) (ab_Fr_up rfl ab_Fr_refl) J2
  have F3 : ab_Fr [(164, 58), (188, 1), (189, 1), (190, 1), (191, 0), (192, 0), (193, 0), (194, 1)] h (am_up h2 190 (0) (.int v)) := ab_Fr_up rfl F2
  generalize am_up h2 190 (0) (.int v) = h3 at I3 J3 F3 ⊢
  clear ev
  obtain ⟨v, ev, vl, vu⟩ := J3.1.2.2.2.2.2.2.2.1.1 u (by omega)
  refine am_e_aload_n (am_nxt_of (i := (31, 1, .aload_n 0, (0, 0, 0), 0)) (by decide +kernel)) (v := 164) rfl ?_
  refine am_e_getf (am_nxt_of (i := (32, 3, .getfield 103, (12, 56, 1440), 0)) (by decide +kernel)) ac_o (ac_f56 I3) ?_
  refine am_e_iconst (w := 0) (am_nxt_of (i := (35, 1, .iconst 0, (0, 0, 0), 0)) (by decide +kernel)) rfl ?_
  refine am_e_aload_n (am_nxt_of (i := (36, 1, .aload_n 1, (0, 0, 0), 0)) (by decide +kernel)) (v := 200) rfl ?_
  refine am_e_iload_n (am_nxt_of (i := (37, 1, .iload_n 2, (0, 0, 0), 0)) (by decide +kernel)) (v := i) rfl ?_
  refine am_e_iconst (w := 3) (am_nxt_of (i := (38, 1, .iconst 3, (0, 0, 0), 0)) (by decide +kernel)) rfl ?_
  refine am_e_iadd (w := i + 3) (am_nxt_of (i := (39, 1, .iadd, (0, 0, 0), 0)) (by decide +kernel)) rfl ?_
  refine am_e_iaload (v := v) (am_nxt_of (i := (40, 1, .iaload, (0, 0, 0), 0)) (by decide +kernel)) ac_k200 (ac_i1 hi (c := 3) (n := 3) (L := 340) (by decide) (by omega) (by decide)).1 (ac_i1 hi (c := 3) (n := 3) (L := 340) (by decide) (by omega) (by decide)).2 ev ?_
  refine am_e_iastore (q := 0) (am_nxt_of (i := (41, 1, .iastore, (0, 0, 0), 0)) (by decide +kernel)) ac_k194 (by decide) (by decide) ?_
  have I4 := ac_w194 (q := 0) (v := v) I3 vl vu
  have J4 := ac_JX_fr hX (md := [(194, 0)]) rfl _ (am_up h3 194 0 (.int v)) (ab_Fr_up rfl ab_Fr_refl) J3
  have F4 : ab_Fr [(164, 58), (188, 1), (189, 1), (190, 1), (191, 0), (192, 0), (193, 0), (194, 1)] h (am_up h3 194 (0) (.int v)) := ab_Fr_up rfl F3
  generalize am_up h3 194 (0) (.int v) = h4 at I4 J4 F4 ⊢
  clear ev
  obtain ⟨v, ev, vl, vu⟩ := ac_r200 I4 (q := 17 * u + 4) (by omega)
  refine am_e_aload_n (am_nxt_of (i := (42, 1, .aload_n 0, (0, 0, 0), 0)) (by decide +kernel)) (v := 164) rfl ?_
  refine am_e_aload_n (am_nxt_of (i := (43, 1, .aload_n 1, (0, 0, 0), 0)) (by decide +kernel)) (v := 200) rfl ?_
  refine am_e_iload_n (am_nxt_of (i := (44, 1, .iload_n 2, (0, 0, 0), 0)) (by decide +kernel)) (v := i) rfl ?_
  refine am_e_iconst (w := 4) (am_nxt_of (i := (45, 1, .iconst 4, (0, 0, 0), 0)) (by decide +kernel)) rfl ?_
  refine am_e_iadd (w := i + 4) (am_nxt_of (i := (46, 1, .iadd, (0, 0, 0), 0)) (by decide +kernel)) rfl ?_
  refine am_e_iaload (v := v) (am_nxt_of (i := (47, 1, .iaload, (0, 0, 0), 0)) (by decide +kernel)) ac_k200 (ac_i1 hi (c := 4) (n := 4) (L := 340) (by decide) (by omega) (by decide)).1 (ac_i1 hi (c := 4) (n := 4) (L := 340) (by decide) (by omega) (by decide)).2 ev ?_
  refine am_e_putf (am_nxt_of (i := (48, 3, .putfield 349, (12, 57, 1441), 0)) (by decide +kernel)) ac_o rfl ?_
  have I5 := ac_p57 (v := v) I4 (ab_32 v).1 (ab_32 v).2
  have J5 := ac_JX_fr hX (md := [(164, 58)]) rfl _ (am_up h4 164 57 (.int v)) (ab_Fr_up rfl ab_Fr_refl) J4
  have F5 : ab_Fr [(164, 58), (188, 1), (189, 1), (190, 1), (191, 0), (192, 0), (193, 0), (194, 1)] h (am_up h4 164 (57) (.int v)) := ab_Fr_up rfl F4
  generalize am_up h4 164 (57) (.int v) = h5 at I5 J5 F5 ⊢
  clear ev
  refine am_e_iconst (w := 0) (am_nxt_of (i := (51, 1, .iconst 0, (0, 0, 0), 0)) (by decide +kernel)) rfl ?_
  refine am_e_istore_n (ls' := [(3, .int 0), (0, .ref 164), (1, .ref 200), (2, .int i)]) (am_nxt_of (i := (52, 1, .istore_n 3, (0, 0, 0), 0)) (by decide +kernel)) (by decide +kernel) rfl ?_
  refine am_e_iload_n (am_nxt_of (i := (53, 1, .iload_n 3, (0, 0, 0), 0)) (by decide +kernel)) (v := 0) rfl ?_
  refine am_e_iconst (w := 4) (am_nxt_of (i := (54, 1, .iconst 4, (0, 0, 0), 0)) (by decide +kernel)) rfl ?_
  refine am_e_cmpF (am_nxt_of (i := (55, 3, .if_icmp .ge 50, (81, 0, 0), 0)) (by decide +kernel)) (am_c_geF (by decide)) ?_
  obtain ⟨v, ev, vl, vu⟩ := ac_r200 I5 (q := 17 * u + 5 + 0) (by omega)
  refine am_e_aload_n (am_nxt_of (i := (58, 1, .aload_n 0, (0, 0, 0), 0)) (by decide +kernel)) (v := 164) rfl ?_
  refine am_e_getf (am_nxt_of (i := (59, 3, .getfield 94, (12, 53, 1437), 0)) (by decide +kernel)) ac_o (ac_f53 I5) ?_
  refine am_e_iload_n (am_nxt_of (i := (62, 1, .iload_n 3, (0, 0, 0), 0)) (by decide +kernel)) (v := 0) rfl ?_
  refine am_e_aload_n (am_nxt_of (i := (63, 1, .aload_n 1, (0, 0, 0), 0)) (by decide +kernel)) (v := 200) rfl ?_
  refine am_e_iload_n (am_nxt_of (i := (64, 1, .iload_n 2, (0, 0, 0), 0)) (by decide +kernel)) (v := i) rfl ?_
  refine am_e_iconst (w := 5) (am_nxt_of (i := (65, 1, .iconst 5, (0, 0, 0), 0)) (by decide +kernel)) rfl ?_
  refine am_e_iadd (w := i + 5) (am_nxt_of (i := (66, 1, .iadd, (0, 0, 0), 0)) (by decide +kernel)) rfl ?_
  refine am_e_iload_n (am_nxt_of (i := (67, 1, .iload_n 3, (0, 0, 0), 0)) (by decide +kernel)) (v := 0) rfl ?_
  refine am_e_iadd (w := (i + 5) + 0) (am_nxt_of (i := (68, 1, .iadd, (0, 0, 0), 0)) (by decide +kernel)) rfl ?_
  refine am_e_iaload (v := v) (am_nxt_of (i := (69, 1, .iaload, (0, 0, 0), 0)) (by decide +kernel)) ac_k200 (ac_i2 hi (c := 5) (n := 5) (d := 0) (m := 0) (L := 340) (by decide) (by decide) (by omega) (by decide)).1 (ac_i2 hi (c := 5) (n := 5) (d := 0) (m := 0) (L := 340) (by decide) (by decide) (by omega) (by decide)).2 ev ?_
  refine am_e_iastore (q := 0) (am_nxt_of (i := (70, 1, .iastore, (0, 0, 0), 0)) (by decide +kernel)) ac_k191 (by decide) (by decide) ?_
  have I6 := ac_w191 (q := 0) (v := v) I5 (ab_32 v).1 (ab_32 v).2
  have J6 := ac_JX_fr hX (md := [(191, 0)]) rfl _ (am_up h5 191 0 (.int v)) (ab_Fr_up rfl ab_Fr_refl) J5
  have F6 : ab_Fr [(164, 58), (188, 1), (189, 1), (190, 1), (191, 0), (192, 0), (193, 0), (194, 1)] h (am_up h5 191 (0) (.int v)) := ab_Fr_up rfl F5
  generalize am_up h5 191 (0) (.int v) = h6 at I6 J6 F6 ⊢
  clear ev
  obtain ⟨v, ev, vl, vu⟩ := ac_r200 I6 (q := 17 * u + 9 + 0) (by omega)
  refine am_e_aload_n (am_nxt_of (i := (71, 1, .aload_n 0, (0, 0, 0), 0)) (by decide +kernel)) (v := 164) rfl ?_
  refine am_e_getf (am_nxt_of (i := (72, 3, .getfield 97, (12, 54, 1438), 0)) (by decide +kernel)) ac_o (ac_f54 I6) ?_
  refine am_e_iload_n (am_nxt_of (i := (75, 1, .iload_n 3, (0, 0, 0), 0)) (by decide +kernel)) (v := 0) rfl ?_
  refine am_e_aload_n (am_nxt_of (i := (76, 1, .aload_n 1, (0, 0, 0), 0)) (by decide +kernel)) (v := 200) rfl ?_
  refine am_e_iload_n (am_nxt_of (i := (77, 1, .iload_n 2, (0, 0, 0), 0)) (by decide +kernel)) (v := i) rfl ?_
  refine am_e_bipush (w := 9) (am_nxt_of (i := (78, 2, .bipush 9, (0, 0, 0), 0)) (by decide +kernel)) (by decide) ?_
  refine am_e_iadd (w := i + 9) (am_nxt_of (i := (80, 1, .iadd, (0, 0, 0), 0)) (by decide +kernel)) rfl ?_
  refine am_e_iload_n (am_nxt_of (i := (81, 1, .iload_n 3, (0, 0, 0), 0)) (by decide +kernel)) (v := 0) rfl ?_
  refine am_e_iadd (w := (i + 9) + 0) (am_nxt_of (i := (82, 1, .iadd, (0, 0, 0), 0)) (by decide +kernel)) rfl ?_
  refine am_e_iaload (v := v) (am_nxt_of (i := (83, 1, .iaload, (0, 0, 0), 0)) (by decide +kernel)) ac_k200 (ac_i2 hi (c := 9) (n := 9) (d := 0) (m := 0) (L := 340) (by decide) (by decide) (by omega) (by decide)).1 (ac_i2 hi (c := 9) (n := 9) (d := 0) (m := 0) (L := 340) (by decide) (by decide) (by omega) (by decide)).2 ev ?_
  refine am_e_iastore (q := 0) (am_nxt_of (i := (84, 1, .iastore, (0, 0, 0), 0)) (by decide +kernel)) ac_k192 (by decide) (by decide) ?_
  have I7 := ac_w192 (q := 0) (v := v) I6 (ab_32 v).1 (ab_32 v).2
  have J7 := ac_JX_fr hX (md := [(192, 0)]) rfl _ (am_up h6 192 0 (.int v)) (ab_Fr_up rfl ab_Fr_refl) J6
  have F7 : ab_Fr [(164, 58), (188, 1), (189, 1), (190, 1), (191, 0), (192, 0), (193, 0), (194, 1)] h (am_up h6 192 (0) (.int v)) := ab_Fr_up rfl F6
  generalize am_up h6 192 (0) (.int v) = h7 at I7 J7 F7 ⊢
  clear ev
  obtain ⟨v, ev, vl, vu⟩ := ac_r200 I7 (q := 17 * u + 13 + 0) (by omega)
  refine am_e_aload_n (am_nxt_of (i := (85, 1, .aload_n 0, (0, 0, 0), 0)) (by decide +kernel)) (v := 164) rfl ?_
  refine am_e_getf (am_nxt_of (i := (86, 3, .getfield 100, (12, 55, 1439), 0)) (by decide +kernel)) ac_o (ac_f55 I7) ?_
  refine am_e_iload_n (am_nxt_of (i := (89, 1, .iload_n 3, (0, 0, 0), 0)) (by decide +kernel)) (v := 0) rfl ?_
  refine am_e_aload_n (am_nxt_of (i := (90, 1, .aload_n 1, (0, 0, 0), 0)) (by decide +kernel)) (v := 200) rfl ?_
  refine am_e_iload_n (am_nxt_of (i := (91, 1, .iload_n 2, (0, 0, 0), 0)) (by decide +kernel)) (v := i) rfl ?_
  refine am_e_bipush (w := 13) (am_nxt_of (i := (92, 2, .bipush 13, (0, 0, 0), 0)) (by decide +kernel)) (by decide) ?_
  refine am_e_iadd (w := i + 13) (am_nxt_of (i := (94, 1, .iadd, (0, 0, 0), 0)) (by decide +kernel)) rfl ?_
  refine am_e_iload_n (am_nxt_of (i := (95, 1, .iload_n 3, (0, 0, 0), 0)) (by decide +kernel)) (v := 0) rfl ?_
  refine am_e_iadd (w := (i + 13) + 0) (am_nxt_of (i := (96, 1, .iadd, (0, 0, 0), 0)) (by decide +kernel)) rfl ?_
  refine am_e_iaload (v := v) (am_nxt_of (i := (97, 1, .iaload, (0, 0, 0), 0)) (by decide +kernel)) ac_k200 (ac_i2 hi (c := 13) (n := 13) (d := 0) (m := 0) (L := 340) (by decide) (by decide) (by omega) (by decide)).1 (ac_i2 hi (c := 13) (n := 13) (d := 0) (m := 0) (L := 340) (by decide) (by decide) (by omega) (by decide)).2 ev ?_
  refine am_e_iastore (q := 0) (am_nxt_of (i := (98, 1, .iastore, (0, 0, 0), 0)) (by decide +kernel)) ac_k193 (by decide) (by decide) ?_
  have I8 := ac_w193 (q := 0) (v := v) I7 (ab_32 v).1 (ab_32 v).2
  have J8 := ac_JX_fr hX (md := [(193, 0)]) rfl _ (am_up h7 193 0 (.int v)) (ab_Fr_up rfl ab_Fr_refl) J7
  have F8 : ab_Fr [(164, 58), (188, 1), (189, 1), (190, 1), (191, 0), (192, 0), (193, 0), (194, 1)] h (am_up h7 193 (0) (.int v)) := ab_Fr_up rfl F7
  generalize am_up h7 193 (0) (.int v) = h8 at I8 J8 F8 ⊢
  clear ev
  refine am_e_iinc (w := 1) (ls' := [(3, .int 1), (0, .ref 164), (1, .ref 200), (2, .int i)]) (am_nxt_of (i := (99, 3, .iinc 3 1, (0, 0, 0), 0)) (by decide +kernel)) (v := 0) rfl (by decide +kernel) (by decide) rfl ?_
  refine am_e_goto (am_cur_of (i := (102, 3, .goto (-49), (43, 0, 0), 0)) (by decide +kernel)) (am_tgt_of (by decide +kernel)) ?_
  refine am_e_iload_n (am_nxt_of (i := (53, 1, .iload_n 3, (0, 0, 0), 0)) (by decide +kernel)) (v := 1) rfl ?_
  refine am_e_iconst (w := 4) (am_nxt_of (i := (54, 1, .iconst 4, (0, 0, 0), 0)) (by decide +kernel)) rfl ?_
  refine am_e_cmpF (am_nxt_of (i := (55, 3, .if_icmp .ge 50, (81, 0, 0), 0)) (by decide +kernel)) (am_c_geF (by decide)) ?_
  obtain ⟨v, ev, vl, vu⟩ := ac_r200 I8 (q := 17 * u + 5 + 1) (by omega)
  refine am_e_aload_n (am_nxt_of (i := (58, 1, .aload_n 0, (0, 0, 0), 0)) (by decide +kernel)) (v := 164) rfl ?_
  refine am_e_getf (am_nxt_of (i := (59, 3, .getfield 94, (12, 53, 1437), 0)) (by decide +kernel)) ac_o (ac_f53 I8) ?_
  refine am_e_iload_n (am_nxt_of (i := (62, 1, .iload_n 3, (0, 0, 0), 0)) (by decide +kernel)) (v := 1) rfl ?_
  refine am_e_aload_n (am_nxt_of (i := (63, 1, .aload_n 1, (0, 0, 0), 0)) (by decide +kernel)) (v := 200) rfl ?_
  refine am_e_iload_n (am_nxt_of (i := (64, 1, .iload_n 2, (0, 0, 0), 0)) (by decide +kernel)) (v := i) rfl ?_
  refine am_e_iconst (w := 5) (am_nxt_of (i := (65, 1, .iconst 5, (0, 0, 0), 0)) (by decide +kernel)) rfl ?_
  refine am_e_iadd (w := i + 5) (am_nxt_of (i := (66, 1, .iadd, (0, 0, 0), 0)) (by decide +kernel)) rfl ?_
  refine am_e_iload_n (am_nxt_of (i := (67, 1, .iload_n 3, (0, 0, 0), 0)) (by decide +kernel)) (v := 1) rfl ?_
  refine am_e_iadd (w := (i + 5) + 1) (am_nxt_of (i := (68, 1, .iadd, (0, 0, 0), 0)) (by decide +kernel)) rfl ?_
  refine am_e_iaload (v := v) (am_nxt_of (i := (69, 1, .iaload, (0, 0, 0), 0)) (by decide +kernel)) ac_k200 (ac_i2 hi (c := 5) (n := 5) (d := 1) (m := 1) (L := 340) (by decide) (by decide) (by omega) (by decide)).1 (ac_i2 hi (c := 5) (n := 5) (d := 1) (m := 1) (L := 340) (by decide) (by decide) (by omega) (by decide)).2 ev ?_
  refine am_e_iastore (q := 1) (am_nxt_of (i := (70, 1, .iastore, (0, 0, 0), 0)) (by decide +kernel)) ac_k191 (by decide) (by decide) ?_
  have I9 := ac_w191 (q := 1) (v := v) I8 (ab_32 v).1 (ab_32 v).2
  have J9 := ac_JX_fr hX (md := [(191, 0)]) rfl _ (am_up h8 191 1 (.int v)) (ab_Fr_up rfl ab_Fr_refl) J8
  have F9 : ab_Fr [(164, 58), (188, 1), (189, 1), (190, 1), (191, 0), (192, 0), (193, 0), (194, 1)] h (am_up h8 191 (1) (.int v)) := ab_Fr_up rfl F8
  generalize am_up h8 191 (1) (.int v) = h9 at I9 J9 F9 ⊢
  clear ev
  obtain ⟨v, ev, vl, vu⟩ := ac_r200 I9 (q := 17 * u + 9 + 1) (by omega)
  refine am_e_aload_n (am_nxt_of (i := (71, 1, .aload_n 0, (0, 0, 0), 0)) (by decide +kernel)) (v := 164) rfl ?_
  refine am_e_getf (am_nxt_of (i := (72, 3, .getfield 97, (12, 54, 1438), 0)) (by decide +kernel)) ac_o (ac_f54 I9) ?_
  refine am_e_iload_n (am_nxt_of (i := (75, 1, .iload_n 3, (0, 0, 0), 0)) (by decide +kernel)) (v := 1) rfl ?_
  refine am_e_aload_n (am_nxt_of (i := (76, 1, .aload_n 1, (0, 0, 0), 0)) (by decide +kernel)) (v := 200) rfl ?_
  refine am_e_iload_n (am_nxt_of (i := (77, 1, .iload_n 2, (0, 0, 0), 0)) (by decide +kernel)) (v := i) rfl ?_
  refine am_e_bipush (w := 9) (am_nxt_of (i := (78, 2, .bipush 9, (0, 0, 0), 0)) (by decide +kernel)) (by decide) ?_
  refine am_e_iadd (w := i + 9) (am_nxt_of (i := (80, 1, .iadd, (0, 0, 0), 0)) (by decide +kernel)) rfl ?_
  refine am_e_iload_n (am_nxt_of (i := (81, 1, .iload_n 3, (0, 0, 0), 0)) (by decide +kernel)) (v := 1) rfl ?_
  refine am_e_iadd (w := (i + 9) + 1) (am_nxt_of (i := (82, 1, .iadd, (0, 0, 0), 0)) (by decide +kernel)) rfl ?_
  refine am_e_iaload (v := v) (am_nxt_of (i := (83, 1, .iaload, (0, 0, 0), 0)) (by decide +kernel)) ac_k200 (ac_i2 hi (c := 9) (n := 9) (d := 1) (m := 1) (L := 340) (by decide) (by decide) (by omega) (by decide)).1 (ac_i2 hi (c := 9) (n := 9) (d := 1) (m := 1) (L := 340) (by decide) (by decide) (by omega) (by decide)).2 ev ?_
  refine am_e_iastore (q := 1) (am_nxt_of (i := (84, 1, .iastore, (0, 0, 0), 0)) (by decide +kernel)) ac_k192 (by decide) (by decide) ?_
  have I10 := ac_w192 (q := 1) (v := v) I9 (ab_32 v).1 (ab_32 v).2
  have J10 := ac_JX_fr hX (md := [(192, 0)]) rfl _ (am_up h9 192 1 (.int v)) (ab_Fr_up rfl ab_Fr_refl) J9
  have F10 : ab_Fr [(164, 58), (188, 1), (189, 1), (190, 1), (191, 0), (192, 0), (193, 0), (194, 1)] h (am_up h9 192 (1) (.int v)) := ab_Fr_up rfl F9
  generalize am_up h9 192 (1) (.int v) = h10 at I10 J10 F10 ⊢
  clear ev
  obtain ⟨v, ev, vl, vu⟩ := ac_r200 I10 (q := 17 * u + 13 + 1) (by omega)
  refine am_e_aload_n (am_nxt_of (i := (85, 1, .aload_n 0, (0, 0, 0), 0)) (by decide +kernel)) (v := 164) rfl ?_
  refine am_e_getf (am_nxt_of (i := (86, 3, .getfield 100, (12, 55, 1439), 0)) (by decide +kernel)) ac_o (ac_f55 I10) ?_
  refine am_e_iload_n (am_nxt_of (i := (89, 1, .iload_n 3, (0, 0, 0), 0)) (by decide +kernel)) (v := 1) rfl ?_
  refine am_e_aload_n (am_nxt_of (i := (90, 1, .aload_n 1, (0, 0, 0), 0)) (by decide +kernel)) (v := 200) rfl ?_
  refine am_e_iload_n (am_nxt_of (i := (91, 1, .iload_n 2, (0, 0, 0), 0)) (by decide +kernel)) (v := i) rfl ?_
  refine am_e_bipush (w := 13) (am_nxt_of (i := (92, 2, .bipush 13, (0, 0, 0), 0)) (by decide +kernel)) (by decide) ?_
  refine am_e_iadd (w := i + 13) (am_nxt_of (i := (94, 1, .iadd, (0, 0, 0), 0)) (by decide +kernel)) rfl ?_
  refine am_e_iload_n (am_nxt_of (i := (95, 1, .iload_n 3, (0, 0, 0), 0)) (by decide +kernel)) (v := 1) rfl ?_
  refine am_e_iadd (w := (i + 13) + 1) (am_nxt_of (i := (96, 1, .iadd, (0, 0, 0), 0)) (by decide +kernel)) rfl ?_
  refine am_e_iaload (v := v) (am_nxt_of (i := (97, 1, .iaload, (0, 0, 0), 0)) (by decide +kernel)) ac_k200 (ac_i2 hi (c := 13) (n := 13) (d := 1) (m := 1) (L := 340) (by decide) (by decide) (by omega) (by decide)).1 (ac_i2 hi (c := 13) (n := 13) (d := 1) (m := 1) (L := 340) (by decide) (by decide) (by omega) (by decide)).2 ev ?_
  refine am_e_iastore (q := 1) (am_nxt_of (i := (98, 1, .iastore, (0, 0, 0), 0)) (by decide +kernel)) ac_k193 (by decide) (by decide) ?_
  have I11 := ac_w193 (q := 1) (v := v) I10 (ab_32 v).1 (ab_32 v).2
  have J11 := ac_JX_fr hX (md := [(193, 0)]) rfl _ (am_up h10 193 1 (.int v)) (ab_Fr_up rfl ab_Fr_refl) J10
  have F11 : ab_Fr [(164, 58), (188, 1), (189, 1), (190, 1), (191, 0), (192, 0), (193, 0), (194, 1)] h (am_up h10 193 (1) (.int v)) := ab_Fr_up rfl F10
  generalize am_up h10 193 (1) (.int v) = h11 at I11 J11 F11 ⊢
  clear ev
  refine am_e_iinc (w := 2) (ls' := [(3, .int 2), (0, .ref 164), (1, .ref 200), (2, .int i)]) (am_nxt_of (i := (99, 3, .iinc 3 1, (0, 0, 0), 0)) (by decide +kernel)) (v := 1) rfl (by decide +kernel) (by decide) rfl ?_
  refine am_e_goto (am_cur_of (i := (102, 3, .goto (-49), (43, 0, 0), 0)) (by decide +kernel)) (am_tgt_of (by decide +kernel)) ?_
  refine am_e_iload_n (am_nxt_of (i := (53, 1, .iload_n 3, (0, 0, 0), 0)) (by decide +kernel)) (v := 2) rfl ?_
  refine am_e_iconst (w := 4) (am_nxt_of (i := (54, 1, .iconst 4, (0, 0, 0), 0)) (by decide +kernel)) rfl ?_
  refine am_e_cmpF (am_nxt_of (i := (55, 3, .if_icmp .ge 50, (81, 0, 0), 0)) (by decide +kernel)) (am_c_geF (by decide)) ?_
  obtain ⟨v, ev, vl, vu⟩ := ac_r200 I11 (q := 17 * u + 5 + 2) (by omega)
  refine am_e_aload_n (am_nxt_of (i := (58, 1, .aload_n 0, (0, 0, 0), 0)) (by decide +kernel)) (v := 164) rfl ?_
  refine am_e_getf (am_nxt_of (i := (59, 3, .getfield 94, (12, 53, 1437), 0)) (by decide +kernel)) ac_o (ac_f53 I11) ?_
  refine am_e_iload_n (am_nxt_of (i := (62, 1, .iload_n 3, (0, 0, 0), 0)) (by decide +kernel)) (v := 2) rfl ?_
  refine am_e_aload_n (am_nxt_of (i := (63, 1, .aload_n 1, (0, 0, 0), 0)) (by decide +kernel)) (v := 200) rfl ?_
  refine am_e_iload_n (am_nxt_of (i := (64, 1, .iload_n 2, (0, 0, 0), 0)) (by decide +kernel)) (v := i) rfl ?_
  refine am_e_iconst (w := 5) (am_nxt_of (i := (65, 1, .iconst 5, (0, 0, 0), 0)) (by decide +kernel)) rfl ?_
  refine am_e_iadd (w := i + 5) (am_nxt_of (i := (66, 1, .iadd, (0, 0, 0), 0)) (by decide +kernel)) rfl ?_
  refine am_e_iload_n (am_nxt_of (i := (67, 1, .iload_n 3, (0, 0, 0), 0)) (by decide +kernel)) (v := 2) rfl ?_
  refine am_e_iadd (w := (i + 5) + 2) (am_nxt_of (i := (68, 1, .iadd, (0, 0, 0), 0)) (by decide +kernel)) rfl ?_
  refine am_e_iaload (v := v) (am_nxt_of (i := (69, 1, .iaload, (0, 0, 0), 0)) (by decide +kernel)) ac_k200 (ac_i2 hi (c := 5) (n := 5) (d := 2) (m := 2) (L := 340) (by decide) (by decide) (by omega) (by decide)).1 (ac_i2 hi (c := 5) (n := 5) (d := 2) (m := 2) (L := 340) (by decide) (by decide) (by omega) (by decide)).2 ev ?_
  refine am_e_iastore (q := 2) (am_nxt_of (i := (70, 1, .iastore, (0, 0, 0), 0)) (by decide +kernel)) ac_k191 (by decide) (by decide) ?_
  have I12 := ac_w191 (q := 2) (v := v) I11 (ab_32 v).1 (ab_32 v).2
  have J12 := ac_JX_fr hX (md := [(191, 0)]) rfl _ (am_up h11 191 2 (.int v)) (ab_Fr_up rfl ab_Fr_refl) J11
  have F12 : ab_Fr [(164, 58), (188, 1), (189, 1), (190, 1), (191, 0), (192, 0), (193, 0), (194, 1)] h (am_up h11 191 (2) (.int v)) := ab_Fr_up rfl F11
  generalize am_up h11 191 (2) (.int v) = h12 at I12 J12 F12 ⊢
  clear ev
  obtain ⟨v, ev, vl, vu⟩ := ac_r200 I12 (q := 17 * u + 9 + 2) (by omega)
  refine am_e_aload_n (am_nxt_of (i := (71, 1, .aload_n 0, (0, 0, 0), 0)) (by decide +kernel)) (v := 164) rfl ?_
  refine am_e_getf (am_nxt_of (i := (72, 3, .getfield 97, (12, 54, 1438), 0)) (by decide +kernel)) ac_o (ac_f54 I12) ?_
  refine am_e_iload_n (am_nxt_of (i := (75, 1, .iload_n 3, (0, 0, 0), 0)) (by decide +kernel)) (v := 2) rfl ?_
  refine am_e_aload_n (am_nxt_of (i := (76, 1, .aload_n 1, (0, 0, 0), 0)) (by decide +kernel)) (v := 200) rfl ?_
  refine am_e_iload_n (am_nxt_of (i := (77, 1, .iload_n 2, (0, 0, 0), 0)) (by decide +kernel)) (v := i) rfl ?_
  refine am_e_bipush (w := 9) (am_nxt_of (i := (78, 2, .bipush 9, (0, 0, 0), 0)) (by decide +kernel)) (by decide) ?_
  refine am_e_iadd (w := i + 9) (am_nxt_of (i := (80, 1, .iadd, (0, 0, 0), 0)) (by decide +kernel)) rfl ?_
  refine am_e_iload_n (am_nxt_of (i := (81, 1, .iload_n 3, (0, 0, 0), 0)) (by decide +kernel)) (v := 2) rfl ?_
  refine am_e_iadd (w := (i + 9) + 2) (am_nxt_of (i := (82, 1, .iadd, (0, 0, 0), 0)) (by decide +kernel)) rfl ?_
  refine am_e_iaload (v := v) (am_nxt_of (i := (83, 1, .iaload, (0, 0, 0), 0)) (by decide +kernel)) ac_k200 (ac_i2 hi (c := 9) (n := 9) (d := 2) (m := 2) (L := 340) (by decide) (by decide) (by omega) (by decide)).1 (ac_i2 hi (c := 9) (n := 9) (d := 2) (m := 2) (L := 340) (by decide) (by decide) (by omega) (by decide)).2 ev ?_
  refine am_e_iastore (q := 2) (am_nxt_of (i := (84, 1, .iastore, (0, 0, 0), 0)) (by decide +kernel)) ac_k192 (by decide) (by decide) ?_
  have I13 := ac_w192 (q := 2) (v := v) I12 (ab_32 v).1 (ab_32 v).2
  have J13 := ac_JX_fr hX (md := [(192, 0)]) rfl _ (am_up h12 192 2 (.int v)) (ab_Fr_up rfl ab_Fr_refl) J12
  have F13 : ab_Fr [(164, 58), (188, 1), (189, 1), (190, 1), (191, 0), (192, 0), (193, 0), (194, 1)] h (am_up h12 192 (2) (.int v)) := ab_Fr_up rfl F12
  generalize am_up h12 192 (2) (.int v) = h13 at I13 J13 F13 ⊢
  clear ev
  obtain ⟨v, ev, vl, vu⟩ := ac_r200 I13 (q := 17 * u + 13 + 2) (by omega)
  refine am_e_aload_n (am_nxt_of (i := (85, 1, .aload_n 0, (0, 0, 0), 0)) (by decide +kernel)) (v := 164) rfl ?_
  refine am_e_getf (am_nxt_of (i := (86, 3, .getfield 100, (12, 55, 1439), 0)) (by decide +kernel)) ac_o (ac_f55 I13) ?_
  refine am_e_iload_n (am_nxt_of (i := (89, 1, .iload_n 3, (0, 0, 0), 0)) (by decide +kernel)) (v := 2) rfl ?_
  refine am_e_aload_n (am_nxt_of (i := (90, 1, .aload_n 1, (0, 0, 0), 0)) (by decide +kernel)) (v := 200) rfl ?_
  refine am_e_iload_n (am_nxt_of (i := (91, 1, .iload_n 2, (0, 0, 0), 0)) (by decide +kernel)) (v := i) rfl ?_
  refine am_e_bipush (w := 13) (am_nxt_of (i := (92, 2, .bipush 13, (0, 0, 0), 0)) (by decide +kernel)) (by decide) ?_
  refine am_e_iadd (w := i + 13) (am_nxt_of (i := (94, 1, .iadd, (0, 0, 0), 0)) (by decide +kernel)) rfl ?_
  refine am_e_iload_n (am_nxt_of (i := (95, 1, .iload_n 3, (0, 0, 0), 0)) (by decide +kernel)) (v := 2) rfl ?_
  refine am_e_iadd (w := (i + 13) + 2) (am_nxt_of (i := (96, 1, .iadd, (0, 0, 0), 0)) (by decide +kernel)) rfl ?_
  refine am_e_iaload (v := v) (am_nxt_of (i := (97, 1, .iaload, (0, 0, 0), 0)) (by decide +kernel)) ac_k200 (ac_i2 hi (c := 13) (n := 13) (d := 2) (m := 2) (L := 340) (by decide) (by decide) (by omega) (by decide)).1 (ac_i2 hi (c := 13) (n := 13) (d := 2) (m := 2) (L := 340) (by decide) (by decide) (by omega) (by decide)).2 ev ?_
  refine am_e_iastore (q := 2) (am_nxt_of (i := (98, 1, .iastore, (0, 0, 0), 0)) (by decide +kernel)) ac_k193 (by decide) (by decide) ?_
  have I14 := ac_w193 (q := 2) (v := v) I13 (ab_32 v).1 (ab_32 v).2
  have J14 := ac_JX_fr hX (md := [(193, 0)]) rfl _ (am_up h13 193 2 (.int v)) (ab_Fr_up rfl ab_Fr_refl) J13
  have F14 : ab_Fr [(164, 58), (188, 1), (189, 1), (190, 1), (191, 0), (192, 0), (193, 0), (194, 1)] h (am_up h13 193 (2) (.int v)) := ab_Fr_up rfl F13
  generalize am_up h13 193 (2) (.int v) = h14 at I14 J14 F14 ⊢
  clear ev
  refine am_e_iinc (w := 3) (ls' := [(3, .int 3), (0, .ref 164), (1, .ref 200), (2, .int i)]) (am_nxt_of (i := (99, 3, .iinc 3 1, (0, 0, 0), 0)) (by decide +kernel)) (v := 2) rfl (by decide +kernel) (by decide) rfl ?_
  refine am_e_goto (am_cur_of (i := (102, 3, .goto (-49), (43, 0, 0), 0)) (by decide +kernel)) (am_tgt_of (by decide +kernel)) ?_
  refine am_e_iload_n (am_nxt_of (i := (53, 1, .iload_n 3, (0, 0, 0), 0)) (by decide +kernel)) (v := 3) rfl ?_
  refine am_e_iconst (w := 4) (am_nxt_of (i := (54, 1, .iconst 4, (0, 0, 0), 0)) (by decide +kernel)) rfl ?_
  refine am_e_cmpF (am_nxt_of (i := (55, 3, .if_icmp .ge 50, (81, 0, 0), 0)) (by decide +kernel)) (am_c_geF (by decide)) ?_
  obtain ⟨v, ev, vl, vu⟩ := ac_r200 I14 (q := 17 * u + 5 + 3) (by omega)
  refine am_e_aload_n (am_nxt_of (i := (58, 1, .aload_n 0, (0, 0, 0), 0)) (by decide +kernel)) (v := 164) rfl ?_
  refine am_e_getf (am_nxt_of (i := (59, 3, .getfield 94, (12, 53, 1437), 0)) (by decide +kernel)) ac_o (ac_f53 I14) ?_
  refine am_e_iload_n (am_nxt_of (i := (62, 1, .iload_n 3, (0, 0, 0), 0)) (by decide +kernel)) (v := 3) rfl ?_
  refine am_e_aload_n (am_nxt_of (i := (63, 1, .aload_n 1, (0, 0, 0), 0)) (by decide +kernel)) (v := 200) rfl ?_
  refine am_e_iload_n (am_nxt_of (i := (64, 1, .iload_n 2, (0, 0, 0), 0)) (by decide +kernel)) (v := i) rfl ?_
  refine am_e_iconst (w := 5) (am_nxt_of (i := (65, 1, .iconst 5, (0, 0, 0), 0)) (by decide +kernel)) rfl ?_
  refine am_e_iadd (w := i + 5) (am_nxt_of (i := (66, 1, .iadd, (0, 0, 0), 0)) (by decide +kernel)) rfl ?_
  refine am_e_iload_n (am_nxt_of (i := (67, 1, .iload_n 3, (0, 0, 0), 0)) (by decide +kernel)) (v := 3) rfl ?_
  refine am_e_iadd (w := (i + 5) + 3) (am_nxt_of (i := (68, 1, .iadd, (0, 0, 0), 0)) (by decide +kernel)) rfl ?_
  refine am_e_iaload (v := v) (am_nxt_of (i := (69, 1, .iaload, (0, 0, 0), 0)) (by decide +kernel)) ac_k200 (ac_i2 hi (c := 5) (n := 5) (d := 3) (m := 3) (L := 340) (by decide) (by decide) (by omega) (by decide)).1 (ac_i2 hi (c := 5) (n := 5) (d := 3) (m := 3) (L := 340) (by decide) (by decide) (by omega) (by decide)).2 ev ?_
  refine am_e_iastore (q := 3) (am_nxt_of (i := (70, 1, .iastore, (0, 0, 0), 0)) (by decide +kernel)) ac_k191 (by decide) (by decide) ?_
  have I15 := ac_w191 (q := 3) (v := v) I14 (ab_32 v).1 (ab_32 v).2
  have J15 := ac_JX_fr hX (md := [(191, 0)]) rfl _ (am_up h14 191 3 (.int v)) (ab_Fr_up rfl ab_Fr_refl) J14
  have F15 : ab_Fr [(164, 58), (188, 1), (189, 1), (190, 1), (191, 0), (192, 0), (193, 0), (194, 1)] h (am_up h14 191 (3) (.int v)) := ab_Fr_up rfl F14
  generalize am_up h14 191 (3) (.int v) = h15 at I15 J15 F15 ⊢
  clear ev
  obtain ⟨v, ev, vl, vu⟩ := ac_r200 I15 (q := 17 * u + 9 + 3) (by omega)
  refine am_e_aload_n (am_nxt_of (i := (71, 1, .aload_n 0, (0, 0, 0), 0)) (by decide +kernel)) (v := 164) rfl ?_
  refine am_e_getf (am_nxt_of (i := (72, 3, .getfield 97, (12, 54, 1438), 0)) (by decide +kernel)) ac_o (ac_f54 I15) ?_
  refine am_e_iload_n (am_nxt_of (i := (75, 1, .iload_n 3, (0, 0, 0), 0)) (by decide +kernel)) (v := 3) rfl ?_
  refine am_e_aload_n (am_nxt_of (i := (76, 1, .aload_n 1, (0, 0, 0), 0)) (by decide +kernel)) (v := 200) rfl ?_
  refine am_e_iload_n (am_nxt_of (i := (77, 1, .iload_n 2, (0, 0, 0), 0)) (by decide +kernel)) (v := i) rfl ?_
  refine am_e_bipush (w := 9) (am_nxt_of (i := (78, 2, .bipush 9, (0, 0, 0), 0)) (by decide +kernel)) (by decide) ?_
  refine am_e_iadd (w := i + 9) (am_nxt_of (i := (80, 1, .iadd, (0, 0, 0), 0)) (by decide +kernel)) rfl ?_
  refine am_e_iload_n (am_nxt_of (i := (81, 1, .iload_n 3, (0, 0, 0), 0)) (by decide +kernel)) (v := 3) rfl ?_
  refine am_e_iadd (w := (i + 9) + 3) (am_nxt_of (i := (82, 1, .iadd, (0, 0, 0), 0)) (by decide +kernel)) rfl ?_
  refine am_e_iaload (v := v) (am_nxt_of (i := (83, 1, .iaload, (0, 0, 0), 0)) (by decide +kernel)) ac_k200 (ac_i2 hi (c := 9) (n := 9) (d := 3) (m := 3) (L := 340) (by decide) (by decide) (by omega) (by decide)).1 (ac_i2 hi (c := 9) (n := 9) (d := 3) (m := 3) (L := 340) (by decide) (by decide) (by omega) (by decide)).2 ev ?_
  refine am_e_iastore (q := 3) (am_nxt_of (i := (84, 1, .iastore, (0, 0, 0), 0)) (by decide +kernel)) ac_k192 (by decide) (by decide) ?_
  have I16 := ac_w192 (q := 3) (v := v) I15 (ab_32 v).1 (ab_32 v).2
  have J16 := ac_JX_fr hX (md := [(192, 0)]) rfl _ (am_up h15 192 3 (.int v)) (ab_Fr_up rfl ab_Fr_refl) J15
  have F16 : ab_Fr [(164, 58), (188, 1), (189, 1), (190, 1), (191, 0), (192, 0), (193, 0), (194, 1)] h (am_up h15 192 (3) (.int v)) := ab_Fr_up rfl F15
  generalize am_up h15 192 (3) (.int v) = h16 at I16 J16 F16 ⊢
  clear ev
  obtain ⟨v, ev, vl, vu⟩ := ac_r200 I16 (q := 17 * u + 13 + 3) (by omega)
  refine am_e_aload_n (am_nxt_of (i := (85, 1, .aload_n 0, (0, 0, 0), 0)) (by decide +kernel)) (v := 164) rfl ?_
  refine am_e_getf (am_nxt_of (i := (86, 3, .getfield 100, (12, 55, 1439), 0)) (by decide +kernel)) ac_o (ac_f55 I16) ?_
  refine am_e_iload_n (am_nxt_of (i := (89, 1, .iload_n 3, (0, 0, 0), 0)) (by decide +kernel)) (v := 3) rfl ?_
  refine am_e_aload_n (am_nxt_of (i := (90, 1, .aload_n 1, (0, 0, 0), 0)) (by decide +kernel)) (v := 200) rfl ?_
  refine am_e_iload_n (am_nxt_of (i := (91, 1, .iload_n 2, (0, 0, 0), 0)) (by decide +kernel)) (v := i) rfl ?_
  refine am_e_bipush (w := 13) (am_nxt_of (i := (92, 2, .bipush 13, (0, 0, 0), 0)) (by decide +kernel)) (by decide) ?_
  refine am_e_iadd (w := i + 13) (am_nxt_of (i := (94, 1, .iadd, (0, 0, 0), 0)) (by decide +kernel)) rfl ?_
  refine am_e_iload_n (am_nxt_of (i := (95, 1, .iload_n 3, (0, 0, 0), 0)) (by decide +kernel)) (v := 3) rfl ?_
  refine am_e_iadd (w := (i + 13) + 3) (am_nxt_of (i := (96, 1, .iadd, (0, 0, 0), 0)) (by decide +kernel)) rfl ?_
  refine am_e_iaload (v := v) (am_nxt_of (i := (97, 1, .iaload, (0, 0, 0), 0)) (by decide +kernel)) ac_k200 (ac_i2 hi (c := 13) (n := 13) (d := 3) (m := 3) (L := 340) (by decide) (by decide) (by omega) (by decide)).1 (ac_i2 hi (c := 13) (n := 13) (d := 3) (m := 3) (L := 340) (by decide) (by decide) (by omega) (by decide)).2 ev ?_
  refine am_e_iastore (q := 3) (am_nxt_of (i := (98, 1, .iastore, (0, 0, 0), 0)) (by decide +kernel)) ac_k193 (by decide) (by decide) ?_
  have I17 := ac_w193 (q := 3) (v := v) I16 (ab_32 v).1 (ab_32 v).2
  have J17 := ac_JX_fr hX (md := [(193, 0)]) rfl _ (am_up h16 193 3 (.int v)) (ab_Fr_up rfl ab_Fr_refl) J16
  have F17 : ab_Fr [(164, 58), (188, 1), (189, 1), (190, 1), (191, 0), (192, 0), (193, 0), (194, 1)] h (am_up h16 193 (3) (.int v)) := ab_Fr_up rfl F16
  generalize am_up h16 193 (3) (.int v) = h17 at I17 J17 F17 ⊢
  clear ev
  refine am_e_iinc (w := 4) (ls' := [(3, .int 4), (0, .ref 164), (1, .ref 200), (2, .int i)]) (am_nxt_of (i := (99, 3, .iinc 3 1, (0, 0, 0), 0)) (by decide +kernel)) (v := 3) rfl (by decide +kernel) (by decide) rfl ?_
  refine am_e_goto (am_cur_of (i := (102, 3, .goto (-49), (43, 0, 0), 0)) (by decide +kernel)) (am_tgt_of (by decide +kernel)) ?_
  refine am_e_iload_n (am_nxt_of (i := (53, 1, .iload_n 3, (0, 0, 0), 0)) (by decide +kernel)) (v := 4) rfl ?_
  refine am_e_iconst (w := 4) (am_nxt_of (i := (54, 1, .iconst 4, (0, 0, 0), 0)) (by decide +kernel)) rfl ?_
  refine am_e_cmpT (am_nxt_of (i := (55, 3, .if_icmp .ge 50, (81, 0, 0), 0)) (by decide +kernel)) (am_c_geT (by decide)) (am_tgt_of (by decide +kernel)) ?_
  exact am_e_vret (am_cur_of (i := (105, 1, .return_, (0, 0, 0), 0)) (by decide +kernel)) rfl rfl ⟨rfl, rfl, I17, J17, F17⟩
theorem ac_take201 (hX : ac_XF X) {h : am_H} (hI : ab_Inv (ab_hi ab_tab) h) (hj : ac_JX X h) {i : Int32} {u : Nat} (hi : i.toInt = (17 * u : Nat)) (hu : u ≤ 0) : am_Ek false am_G0 am_m250 0 (lv_args 0 [.ref 164, .ref 201, .int i]) [] am_ks0 h 0 0 (fun r ks h' => ks = am_ks0 ∧ r = none ∧ ab_Inv (ab_hi ab_tab) h' ∧ ac_JX X h' ∧ ab_Fr [(164, 58), (188, 1), (189, 1), (190, 1), (191, 0), (192, 0), (193, 0), (194, 1)] h h') := by
  obtain ⟨v, ev, vl, vu⟩ := ac_r201 hI (q := 17 * u) (by omega)
  refine am_e_aload_n (am_nxt_of (i := (0, 1, .aload_n 0, (0, 0, 0), 0)) (by decide +kernel)) (v := 164) rfl ?_
  refine am_e_getf (am_nxt_of (i := (1, 3, .getfield 85, (12, 50, 1434), 0)) (by decide +kernel)) ac_o (ac_f50 hI) ?_
  refine am_e_iconst (w := 0) (am_nxt_of (i := (4, 1, .iconst 0, (0, 0, 0), 0)) (by decide +kernel)) rfl ?_
  refine am_e_aload_n (am_nxt_of (i := (5, 1, .aload_n 1, (0, 0, 0), 0)) (by decide +kernel)) (v := 201) rfl ?_
  refine am_e_iload_n (am_nxt_of (i := (6, 1, .iload_n 2, (0, 0, 0), 0)) (by decide +kernel)) (v := i) rfl ?_
  refine am_e_iaload (v := v) (am_nxt_of (i := (7, 1, .iaload, (0, 0, 0), 0)) (by decide +kernel)) ac_k201 (ac_i0 hi (L := 17) (by omega)).1 (ac_i0 hi (L := 17) (by omega)).2 ev ?_
  refine am_e_iastore (q := 0) (am_nxt_of (i := (8, 1, .iastore, (0, 0, 0), 0)) (by decide +kernel)) ac_k188 (by decide) (by decide) ?_
  have I1 := ac_w188 (q := 0) (v := v) hI (ab_32 v).1 (ab_32 v).2
  have J1 := ac_JX_fr hX (md := [(188, 0)]) rfl _ (am_up h 188 0 (.int v)) (ab_Fr_up rfl ab_Fr_refl) hj
  have F1 : ab_Fr [(164, 58), (188, 1), (189, 1), (190, 1), (191, 0), (192, 0), (193, 0), (194, 1)] h (am_up h 188 (0) (.int v)) := ab_Fr_up rfl ab_Fr_refl
  generalize am_up h 188 (0) (.int v) = h1 at I1 J1 F1 ⊢
  clear ev
  obtain ⟨v, ev, vl, vu⟩ := ac_r201 I1 (q := 17 * u + 1) (by omega)
  refine am_e_aload_n (am_nxt_of (i := (9, 1, .aload_n 0, (0, 0, 0), 0)) (by decide +kernel)) (v := 164) rfl ?_
  refine am_e_getf (am_nxt_of (i := (10, 3, .getfield 88, (12, 51, 1435), 0)) (by decide +kernel)) ac_o (ac_f51 I1) ?_
  refine am_e_iconst (w := 0) (am_nxt_of (i := (13, 1, .iconst 0, (0, 0, 0), 0)) (by decide +kernel)) rfl ?_
  refine am_e_aload_n (am_nxt_of (i := (14, 1, .aload_n 1, (0, 0, 0), 0)) (by decide +kernel)) (v := 201) rfl ?_
  refine am_e_iload_n (am_nxt_of (i := (15, 1, .iload_n 2, (0, 0, 0), 0)) (by decide +kernel)) (v := i) rfl ?_
  refine am_e_iconst (w := 1) (am_nxt_of (i := (16, 1, .iconst 1, (0, 0, 0), 0)) (by decide +kernel)) rfl ?_
  refine am_e_iadd (w := i + 1) (am_nxt_of (i := (17, 1, .iadd, (0, 0, 0), 0)) (by decide +kernel)) rfl ?_
  refine am_e_iaload (v := v) (am_nxt_of (i := (18, 1, .iaload, (0, 0, 0), 0)) (by decide +kernel)) ac_k201 (ac_i1 hi (c := 1) (n := 1) (L := 17) (by decide) (by omega) (by decide)).1 (ac_i1 hi (c := 1) (n := 1) (L := 17) (by decide) (by omega) (by decide)).2 ev ?_
  refine am_e_iastore (q := 0) (am_nxt_of (i := (19, 1, .iastore, (0, 0, 0), 0)) (by decide +kernel)) ac_k189 (by decide) (by decide) ?_
  have I2 := ac_w189 (q := 0) (v := v) I1 (ab_32 v).1 (ab_32 v).2
  have J2 := ac_JX_fr hX (md := [(189, 0)]) rfl _ (am_up h1 189 0 (.int v)) (ab_Fr_up rfl ab_Fr_refl) J1
  have F2 : ab_Fr [(164, 58), (188, 1), (189, 1), (190, 1), (191, 0), (192, 0), (193, 0), (194, 1)] h (am_up h1 189 (0) (.int v)) := ab_Fr_up rfl F1
  generalize am_up h1 189 (0) (.int v) = h2 at I2 J2 F2 ⊢
  clear ev
  obtain ⟨v, ev, vl, vu⟩ := ac_r201 I2 (q := 17 * u + 2) (by omega)
  refine am_e_aload_n (am_nxt_of (i := (20, 1, .aload_n 0, (0, 0, 0), 0)) (by decide +kernel)) (v := 164) rfl ?_
  refine am_e_getf (am_nxt_of (i := (21, 3, .getfield 91, (12, 52, 1436), 0)) (by decide +kernel)) ac_o (ac_f52 I2) ?_
  refine am_e_iconst (w := 0) (am_nxt_of (i := (24, 1, .iconst 0, (0, 0, 0), 0)) (by decide +kernel)) rfl ?_
  refine am_e_aload_n (am_nxt_of (i := (25, 1, .aload_n 1, (0, 0, 0), 0)) (by decide +kernel)) (v := 201) rfl ?_
  refine am_e_iload_n (am_nxt_of (i := (26, 1, .iload_n 2, (0, 0, 0), 0)) (by decide +kernel)) (v := i) rfl ?_
  refine am_e_iconst (w := 2) (am_nxt_of (i := (27, 1, .iconst 2, (0, 0, 0), 0)) (by decide +kernel)) rfl ?_
  refine am_e_iadd (w := i + 2) (am_nxt_of (i := (28, 1, .iadd, (0, 0, 0), 0)) (by decide +kernel)) rfl ?_
  refine am_e_iaload (v := v) (am_nxt_of (i := (29, 1, .iaload, (0, 0, 0), 0)) (by decide +kernel)) ac_k201 (ac_i1 hi (c := 2) (n := 2) (L := 17) (by decide) (by omega) (by decide)).1 (ac_i1 hi (c := 2) (n := 2) (L := 17) (by decide) (by omega) (by decide)).2 ev ?_
  refine am_e_iastore (q := 0) (am_nxt_of (i := (30, 1, .iastore, (0, 0, 0), 0)) (by decide +kernel)) ac_k190 (by decide) (by decide) ?_
  have I3 := ac_w190 (q := 0) (v := v) I2 (ab_32 v).1 (ab_32 v).2
  have J3 := ac_JX_fr hX (md := [(190, 0)]) rfl _ (am_up h2 190 0 (.int v)) (ab_Fr_up rfl ab_Fr_refl) J2
  have F3 : ab_Fr [(164, 58), (188, 1), (189, 1), (190, 1), (191, 0), (192, 0), (193, 0), (194, 1)] h (am_up h2 190 (0) (.int v)) := ab_Fr_up rfl F2
  generalize am_up h2 190 (0) (.int v) = h3 at I3 J3 F3 ⊢
  clear ev
  obtain ⟨v, ev, vl, vu⟩ := J3.1.2.2.2.2.2.2.2.1.2
  have ev : h3 201 (17 * u + 3) = .int v := by rw [show u = 0 by omega]; exact ev
  refine am_e_aload_n (am_nxt_of (i := (31, 1, .aload_n 0, (0, 0, 0), 0)) (by decide +kernel)) (v := 164) rfl ?_
  refine am_e_getf (am_nxt_of (i := (32, 3, .getfield 103, (12, 56, 1440), 0)) (by decide +kernel)) ac_o (ac_f56 I3) ?_
  refine am_e_iconst (w := 0) (am_nxt_of (i := (35, 1, .iconst 0, (0, 0, 0), 0)) (by decide +kernel)) rfl ?_
  refine am_e_aload_n (am_nxt_of (i := (36, 1, .aload_n 1, (0, 0, 0), 0)) (by decide +kernel)) (v := 201) rfl ?_
  refine am_e_iload_n (am_nxt_of (i := (37, 1, .iload_n 2, (0, 0, 0), 0)) (by decide +kernel)) (v := i) rfl ?_
  refine am_e_iconst (w := 3) (am_nxt_of (i := (38, 1, .iconst 3, (0, 0, 0), 0)) (by decide +kernel)) rfl ?_
  refine am_e_iadd (w := i + 3) (am_nxt_of (i := (39, 1, .iadd, (0, 0, 0), 0)) (by decide +kernel)) rfl ?_
  refine am_e_iaload (v := v) (am_nxt_of (i := (40, 1, .iaload, (0, 0, 0), 0)) (by decide +kernel)) ac_k201 (ac_i1 hi (c := 3) (n := 3) (L := 17) (by decide) (by omega) (by decide)).1 (ac_i1 hi (c := 3) (n := 3) (L := 17) (by decide) (by omega) (by decide)).2 ev ?_
  refine am_e_iastore (q := 0) (am_nxt_of (i := (41, 1, .iastore, (0, 0, 0), 0)) (by decide +kernel)) ac_k194 (by decide) (by decide) ?_
  have I4 := ac_w194 (q := 0) (v := v) I3 vl vu
  have J4 := ac_JX_fr hX (md := [(194, 0)]) rfl _ (am_up h3 194 0 (.int v)) (ab_Fr_up rfl ab_Fr_refl) J3
  have F4 : ab_Fr [(164, 58), (188, 1), (189, 1), (190, 1), (191, 0), (192, 0), (193, 0), (194, 1)] h (am_up h3 194 (0) (.int v)) := ab_Fr_up rfl F3
  generalize am_up h3 194 (0) (.int v) = h4 at I4 J4 F4 ⊢
  clear ev
  obtain ⟨v, ev, vl, vu⟩ := ac_r201 I4 (q := 17 * u + 4) (by omega)
  refine am_e_aload_n (am_nxt_of (i := (42, 1, .aload_n 0, (0, 0, 0), 0)) (by decide +kernel)) (v := 164) rfl ?_
  refine am_e_aload_n (am_nxt_of (i := (43, 1, .aload_n 1, (0, 0, 0), 0)) (by decide +kernel)) (v := 201) rfl ?_
  refine am_e_iload_n (am_nxt_of (i := (44, 1, .iload_n 2, (0, 0, 0), 0)) (by decide +kernel)) (v := i) rfl ?_
  refine am_e_iconst (w := 4) (am_nxt_of (i := (45, 1, .iconst 4, (0, 0, 0), 0)) (by decide +kernel)) rfl ?_
  refine am_e_iadd (w := i + 4) (am_nxt_of (i := (46, 1, .iadd, (0, 0, 0), 0)) (by decide +kernel)) rfl ?_
  refine am_e_iaload (v := v) (am_nxt_of (i := (47, 1, .iaload, (0, 0, 0), 0)) (by decide +kernel)) ac_k201 (ac_i1 hi (c := 4) (n := 4) (L := 17) (by decide) (by omega) (by decide)).1 (ac_i1 hi (c := 4) (n := 4) (L := 17) (by decide) (by omega) (by decide)).2 ev ?_
  refine am_e_putf (am_nxt_of (i := (48, 3, .putfield 349, (12, 57, 1441), 0)) (by decide +kernel)) ac_o rfl ?_
  have I5 := ac_p57 (v := v) I4 (ab_32 v).1 (ab_32 v).2
  have J5 := ac_JX_fr hX (md := [(164, 58)]) rfl _ (am_up h4 164 57 (.int v)) (ab_Fr_up rfl ab_Fr_refl) J4
  have F5 : ab_Fr [(164, 58), (188, 1), (189, 1), (190, 1), (191, 0), (192, 0), (193, 0), (194, 1)] h (am_up h4 164 (57) (.int v)) := ab_Fr_up rfl F4
  generalize am_up h4 164 (57) (.int v) = h5 at I5 J5 F5 ⊢
  clear ev
  refine am_e_iconst (w := 0) (am_nxt_of (i := (51, 1, .iconst 0, (0, 0, 0), 0)) (by decide +kernel)) rfl ?_
  refine am_e_istore_n (ls' := [(3, .int 0), (0, .ref 164), (1, .ref 201), (2, .int i)]) (am_nxt_of (i := (52, 1, .istore_n 3, (0, 0, 0), 0)) (by decide +kernel)) (by decide +kernel) rfl ?_
  refine am_e_iload_n (am_nxt_of (i := (53, 1, .iload_n 3, (0, 0, 0), 0)) (by decide +kernel)) (v := 0) rfl ?_
  refine am_e_iconst (w := 4) (am_nxt_of (i := (54, 1, .iconst 4, (0, 0, 0), 0)) (by decide +kernel)) rfl ?_
  refine am_e_cmpF (am_nxt_of (i := (55, 3, .if_icmp .ge 50, (81, 0, 0), 0)) (by decide +kernel)) (am_c_geF (by decide)) ?_
  obtain ⟨v, ev, vl, vu⟩ := ac_r201 I5 (q := 17 * u + 5 + 0) (by omega)
  refine am_e_aload_n (am_nxt_of (i := (58, 1, .aload_n 0, (0, 0, 0), 0)) (by decide +kernel)) (v := 164) rfl ?_
  refine am_e_getf (am_nxt_of (i := (59, 3, .getfield 94, (12, 53, 1437), 0)) (by decide +kernel)) ac_o (ac_f53 I5) ?_
  refine am_e_iload_n (am_nxt_of (i := (62, 1, .iload_n 3, (0, 0, 0), 0)) (by decide +kernel)) (v := 0) rfl ?_
  refine am_e_aload_n (am_nxt_of (i := (63, 1, .aload_n 1, (0, 0, 0), 0)) (by decide +kernel)) (v := 201) rfl ?_
  refine am_e_iload_n (am_nxt_of (i := (64, 1, .iload_n 2, (0, 0, 0), 0)) (by decide +kernel)) (v := i) rfl ?_
  refine am_e_iconst (w := 5) (am_nxt_of (i := (65, 1, .iconst 5, (0, 0, 0), 0)) (by decide +kernel)) rfl ?_
  refine am_e_iadd (w := i + 5) (am_nxt_of (i := (66, 1, .iadd, (0, 0, 0), 0)) (by decide +kernel)) rfl ?_
  refine am_e_iload_n (am_nxt_of (i := (67, 1, .iload_n 3, (0, 0, 0), 0)) (by decide +kernel)) (v := 0) rfl ?_
  refine am_e_iadd (w := (i + 5) + 0) (am_nxt_of (i := (68, 1, .iadd, (0, 0, 0), 0)) (by decide +kernel)) rfl ?_
  refine am_e_iaload (v := v) (am_nxt_of (i := (69, 1, .iaload, (0, 0, 0), 0)) (by decide +kernel)) ac_k201 (ac_i2 hi (c := 5) (n := 5) (d := 0) (m := 0) (L := 17) (by decide) (by decide) (by omega) (by decide)).1 (ac_i2 hi (c := 5) (n := 5) (d := 0) (m := 0) (L := 17) (by decide) (by decide) (by omega) (by decide)).2 ev ?_
  refine am_e_iastore (q := 0) (am_nxt_of (i := (70, 1, .iastore, (0, 0, 0), 0)) (by decide +kernel)) ac_k191 (by decide) (by decide) ?_
  have I6 := ac_w191 (q := 0) (v := v) I5 (ab_32 v).1 (ab_32 v).2
  have J6 := ac_JX_fr hX (md := [(191, 0)]) rfl _ (am_up h5 191 0 (.int v)) (ab_Fr_up rfl ab_Fr_refl) J5
  have F6 : ab_Fr [(164, 58), (188, 1), (189, 1), (190, 1), (191, 0), (192, 0), (193, 0), (194, 1)] h (am_up h5 191 (0) (.int v)) := ab_Fr_up rfl F5
  generalize am_up h5 191 (0) (.int v) = h6 at I6 J6 F6 ⊢
  clear ev
  obtain ⟨v, ev, vl, vu⟩ := ac_r201 I6 (q := 17 * u + 9 + 0) (by omega)
  refine am_e_aload_n (am_nxt_of (i := (71, 1, .aload_n 0, (0, 0, 0), 0)) (by decide +kernel)) (v := 164) rfl ?_
  refine am_e_getf (am_nxt_of (i := (72, 3, .getfield 97, (12, 54, 1438), 0)) (by decide +kernel)) ac_o (ac_f54 I6) ?_
  refine am_e_iload_n (am_nxt_of (i := (75, 1, .iload_n 3, (0, 0, 0), 0)) (by decide +kernel)) (v := 0) rfl ?_
  refine am_e_aload_n (am_nxt_of (i := (76, 1, .aload_n 1, (0, 0, 0), 0)) (by decide +kernel)) (v := 201) rfl ?_
  refine am_e_iload_n (am_nxt_of (i := (77, 1, .iload_n 2, (0, 0, 0), 0)) (by decide +kernel)) (v := i) rfl ?_
  refine am_e_bipush (w := 9) (am_nxt_of (i := (78, 2, .bipush 9, (0, 0, 0), 0)) (by decide +kernel)) (by decide) ?_
  refine am_e_iadd (w := i + 9) (am_nxt_of (i := (80, 1, .iadd, (0, 0, 0), 0)) (by decide +kernel)) rfl ?_
  refine am_e_iload_n (am_nxt_of (i := (81, 1, .iload_n 3, (0, 0, 0), 0)) (by decide +kernel)) (v := 0) rfl ?_
  refine am_e_iadd (w := (i + 9) + 0) (am_nxt_of (i := (82, 1, .iadd, (0, 0, 0), 0)) (by decide +kernel)) rfl ?_
  refine am_e_iaload (v := v) (am_nxt_of (i := (83, 1, .iaload, (0, 0, 0), 0)) (by decide +kernel)) ac_k201 (ac_i2 hi (c := 9) (n := 9) (d := 0) (m := 0) (L := 17) (by decide) (by decide) (by omega) (by decide)).1 (ac_i2 hi (c := 9) (n := 9) (d := 0) (m := 0) (L := 17) (by decide) (by decide) (by omega) (by decide)).2 ev ?_
  refine am_e_iastore (q := 0) (am_nxt_of (i := (84, 1, .iastore, (0, 0, 0), 0)) (by decide +kernel)) ac_k192 (by decide) (by decide) ?_
  have I7 := ac_w192 (q := 0) (v := v) I6 (ab_32 v).1 (ab_32 v).2
  have J7 := ac_JX_fr hX (md := [(192, 0)]) rfl _ (am_up h6 192 0 (.int v)) (ab_Fr_up rfl ab_Fr_refl) J6
  have F7 : ab_Fr [(164, 58), (188, 1), (189, 1), (190, 1), (191, 0), (192, 0), (193, 0), (194, 1)] h (am_up h6 192 (0) (.int v)) := ab_Fr_up rfl F6
  generalize am_up h6 192 (0) (.int v) = h7 at I7 J7 F7 ⊢
  clear ev
  obtain ⟨v, ev, vl, vu⟩ := ac_r201 I7 (q := 17 * u + 13 + 0) (by omega)
  refine am_e_aload_n (am_nxt_of (i := (85, 1, .aload_n 0, (0, 0, 0), 0)) (by decide +kernel)) (v := 164) rfl ?_
  refine am_e_getf (am_nxt_of (i := (86, 3, .getfield 100, (12, 55, 1439), 0)) (by decide +kernel)) ac_o (ac_f55 I7) ?_
  refine am_e_iload_n (am_nxt_of (i := (89, 1, .iload_n 3, (0, 0, 0), 0)) (by decide +kernel)) (v := 0) rfl ?_
  refine am_e_aload_n (am_nxt_of (i := (90, 1, .aload_n 1, (0, 0, 0), 0)) (by decide +kernel)) (v := 201) rfl ?_
  refine am_e_iload_n (am_nxt_of (i := (91, 1, .iload_n 2, (0, 0, 0), 0)) (by decide +kernel)) (v := i) rfl ?_
  refine am_e_bipush (w := 13) (am_nxt_of (i := (92, 2, .bipush 13, (0, 0, 0), 0)) (by decide +kernel)) (by decide) ?_
  refine am_e_iadd (w := i + 13) (am_nxt_of (i := (94, 1, .iadd, (0, 0, 0), 0)) (by decide +kernel)) rfl ?_
  refine am_e_iload_n (am_nxt_of (i := (95, 1, .iload_n 3, (0, 0, 0), 0)) (by decide +kernel)) (v := 0) rfl ?_
  refine am_e_iadd (w := (i + 13) + 0) (am_nxt_of (i := (96, 1, .iadd, (0, 0, 0), 0)) (by decide +kernel)) rfl ?_
  refine am_e_iaload (v := v) (am_nxt_of (i := (97, 1, .iaload, (0, 0, 0), 0)) (by decide +kernel)) ac_k201 (ac_i2 hi (c := 13) (n := 13) (d := 0) (m := 0) (L := 17) (by decide) (by decide) (by omega) (by decide)).1 (ac_i2 hi (c := 13) (n := 13) (d := 0) (m := 0) (L := 17) (by decide) (by decide) (by omega) (by decide)).2 ev ?_
  refine am_e_iastore (q := 0) (am_nxt_of (i := (98, 1, .iastore, (0, 0, 0), 0)) (by decide +kernel)) ac_k193 (by decide) (by decide) ?_
  have I8 := ac_w193 (q := 0) (v := v) I7 (ab_32 v).1 (ab_32 v).2
  have J8 := ac_JX_fr hX (md := [(193, 0)]) rfl _ (am_up h7 193 0 (.int v)) (ab_Fr_up rfl ab_Fr_refl) J7
  have F8 : ab_Fr [(164, 58), (188, 1), (189, 1), (190, 1), (191, 0), (192, 0), (193, 0), (194, 1)] h (am_up h7 193 (0) (.int v)) := ab_Fr_up rfl F7
  generalize am_up h7 193 (0) (.int v) = h8 at I8 J8 F8 ⊢
  clear ev
  refine am_e_iinc (w := 1) (ls' := [(3, .int 1), (0, .ref 164), (1, .ref 201), (2, .int i)]) (am_nxt_of (i := (99, 3, .iinc 3 1, (0, 0, 0), 0)) (by decide +kernel)) (v := 0) rfl (by decide +kernel) (by decide) rfl ?_
  refine am_e_goto (am_cur_of (i := (102, 3, .goto (-49), (43, 0, 0), 0)) (by decide +kernel)) (am_tgt_of (by decide +kernel)) ?_
  refine am_e_iload_n (am_nxt_of (i := (53, 1, .iload_n 3, (0, 0, 0), 0)) (by decide +kernel)) (v := 1) rfl ?_
  refine am_e_iconst (w := 4) (am_nxt_of (i := (54, 1, .iconst 4, (0, 0, 0), 0)) (by decide +kernel)) rfl ?_
  refine am_e_cmpF (am_nxt_of (i := (55, 3, .if_icmp .ge 50, (81, 0, 0), 0)) (by decide +kernel)) (am_c_geF (by decide)) ?_
  obtain ⟨v, ev, vl, vu⟩ := ac_r201 I8 (q := 17 * u + 5 + 1) (by omega)
  refine am_e_aload_n (am_nxt_of (i := (58, 1, .aload_n 0, (0, 0, 0), 0)) (by decide +kernel)) (v := 164) rfl ?_
  refine am_e_getf (am_nxt_of (i := (59, 3, .getfield 94, (12, 53, 1437), 0)) (by decide +kernel)) ac_o (ac_f53 I8) ?_
  refine am_e_iload_n (am_nxt_of (i := (62, 1, .iload_n 3, (0, 0, 0), 0)) (by decide +kernel)) (v := 1) rfl ?_
  refine am_e_aload_n (am_nxt_of (i := (63, 1, .aload_n 1, (0, 0, 0), 0)) (by decide +kernel)) (v := 201) rfl ?_
  refine am_e_iload_n (am_nxt_of (i := (64, 1, .iload_n 2, (0, 0, 0), 0)) (by decide +kernel)) (v := i) rfl ?_
  refine am_e_iconst (w := 5) (am_nxt_of (i := (65, 1, .iconst 5, (0, 0, 0), 0)) (by decide +kernel)) rfl ?_
  refine am_e_iadd (w := i + 5) (am_nxt_of (i := (66, 1, .iadd, (0, 0, 0), 0)) (by decide +kernel)) rfl ?_
  refine am_e_iload_n (am_nxt_of (i := (67, 1, .iload_n 3, (0, 0, 0), 0)) (by decide +kernel)) (v := 1) rfl ?_
  refine am_e_iadd (w := (i + 5) + 1) (am_nxt_of (i := (68, 1, .iadd, (0, 0, 0), 0)) (by decide +kernel)) rfl ?_
  refine am_e_iaload (v := v) (am_nxt_of (i := (69, 1, .iaload, (0, 0, 0), 0)) (by decide +kernel)) ac_k201 (ac_i2 hi (c := 5) (n := 5) (d := 1) (m := 1) (L := 17) (by decide) (by decide) (by omega) (by decide)).1 (ac_i2 hi (c := 5) (n := 5) (d := 1) (m := 1) (L := 17) (by decide) (by decide) (by omega) (by decide)).2 ev ?_
  refine am_e_iastore (q := 1) (am_nxt_of (i := (70, 1, .iastore, (0, 0, 0), 0)) (by decide +kernel)) ac_k191 (by decide) (by decide) ?_
  have I9 := ac_w191 (q := 1) (v := v) I8 (ab_32 v).1 (ab_32 v).2
  have J9 := ac_JX_fr hX (md := [(191, 0)]) rfl _ (am_up h8 191 1 (.int v)) (ab_Fr_up rfl ab_Fr_refl) J8
  have F9 : ab_Fr [(164, 58), (188, 1), (189, 1), (190, 1), (191, 0), (192, 0), (193, 0), (194, 1)] h (am_up h8 191 (1) (.int v)) := ab_Fr_up rfl F8
  generalize am_up h8 191 (1) (.int v) = h9 at I9 J9 F9 ⊢
  clear ev
  obtain ⟨v, ev, vl, vu⟩ := ac_r201 I9 (q := 17 * u + 9 + 1) (by omega)
  refine am_e_aload_n (am_nxt_of (i := (71, 1, .aload_n 0, (0, 0, 0), 0)) (by decide +kernel)) (v := 164) rfl ?_
  refine am_e_getf (am_nxt_of (i := (72, 3, .getfield 97, (12, 54, 1438), 0)) (by decide +kernel)) ac_o (ac_f54 I9) ?_
  refine am_e_iload_n (am_nxt_of (i := (75, 1, .iload_n 3, (0, 0, 0), 0)) (by decide +kernel)) (v := 1) rfl ?_
  refine am_e_aload_n (am_nxt_of (i := (76, 1, .aload_n 1, (0, 0, 0), 0)) (by decide +kernel)) (v := 201) rfl ?_
  refine am_e_iload_n (am_nxt_of (i := (77, 1, .iload_n 2, (0, 0, 0), 0)) (by decide +kernel)) (v := i) rfl ?_
  refine am_e_bipush (w := 9) (am_nxt_of (i := (78, 2, .bipush 9, (0, 0, 0), 0)) (by decide +kernel)) (by decide) ?_
  refine am_e_iadd (w := i + 9) (am_nxt_of (i := (80, 1, .iadd, (0, 0, 0), 0)) (by decide +kernel)) rfl ?_
  refine am_e_iload_n (am_nxt_of (i := (81, 1, .iload_n 3, (0, 0, 0), 0)) (by decide +kernel)) (v := 1) rfl ?_
  refine am_e_iadd (w := (i + 9) + 1) (am_nxt_of (i := (82, 1, .iadd, (0, 0, 0), 0)) (by decide +kernel)) rfl ?_
  refine am_e_iaload (v := v) (am_nxt_of (i := (83, 1, .iaload, (0, 0, 0), 0)) (by decide +kernel)) ac_k201 (ac_i2 hi (c := 9) (n := 9) (d := 1) (m := 1) (L := 17) (by decide) (by decide) (by omega) (by decide)).1 (ac_i2 hi (c := 9) (n := 9) (d := 1) (m := 1) (L := 17) (by decide) (by decide) (by omega) (by decide)).2 ev ?_
  refine am_e_iastore (q := 1) (am_nxt_of (i := (84, 1, .iastore, (0, 0, 0), 0)) (by decide +kernel)) ac_k192 (by decide) (by decide) ?_
  have I10 := ac_w192 (q := 1) (v := v) I9 (ab_32 v).1 (ab_32 v).2
  have J10 := ac_JX_fr hX (md := [(192, 0)]) rfl _ (am_up h9 192 1 (.int v)) (ab_Fr_up rfl ab_Fr_refl) J9
  have F10 : ab_Fr [(164, 58), (188, 1), (189, 1), (190, 1), (191, 0), (192, 0), (193, 0), (194, 1)] h (am_up h9 192 (1) (.int v)) := ab_Fr_up rfl F9
  generalize am_up h9 192 (1) (.int v) = h10 at I10 J10 F10 ⊢
  clear ev
  obtain ⟨v, ev, vl, vu⟩ := ac_r201 I10 (q := 17 * u + 13 + 1) (by omega)
  refine am_e_aload_n (am_nxt_of (i := (85, 1, .aload_n 0, (0, 0, 0), 0)) (by decide +kernel)) (v := 164) rfl ?_
  refine am_e_getf (am_nxt_of (i := (86, 3, .getfield 100, (12, 55, 1439), 0)) (by decide +kernel)) ac_o (ac_f55 I10) ?_
  refine am_e_iload_n (am_nxt_of (i := (89, 1, .iload_n 3, (0, 0, 0), 0)) (by decide +kernel)) (v := 1) rfl ?_
  refine am_e_aload_n (am_nxt_of (i := (90, 1, .aload_n 1, (0, 0, 0), 0)) (by decide +kernel)) (v := 201) rfl ?_
  refine am_e_iload_n (am_nxt_of (i := (91, 1, .iload_n 2, (0, 0, 0), 0)) (by decide +kernel)) (v := i) rfl ?_
  refine am_e_bipush (w := 13) (am_nxt_of (i := (92, 2, .bipush 13, (0, 0, 0), 0)) (by decide +kernel)) (by decide) ?_
  refine am_e_iadd (w := i + 13) (am_nxt_of (i := (94, 1, .iadd, (0, 0, 0), 0)) (by decide +kernel)) rfl ?_
  refine am_e_iload_n (am_nxt_of (i := (95, 1, .iload_n 3, (0, 0, 0), 0)) (by decide +kernel)) (v := 1) rfl ?_
  refine am_e_iadd (w := (i + 13) + 1) (am_nxt_of (i := (96, 1, .iadd, (0, 0, 0), 0)) (by decide +kernel)) rfl ?_
  refine am_e_iaload (v := v) (am_nxt_of (i := (97, 1, .iaload, (0, 0, 0), 0)) (by decide +kernel)) ac_k201 (ac_i2 hi (c := 13) (n := 13) (d := 1) (m := 1) (L := 17) (by decide) (by decide) (by omega) (by decide)).1 (ac_i2 hi (c := 13) (n := 13) (d := 1) (m := 1) (L := 17) (by decide) (by decide) (by omega) (by decide)).2 ev ?_
  refine am_e_iastore (q := 1) (am_nxt_of (i := (98, 1, .iastore, (0, 0, 0), 0)) (by decide +kernel)) ac_k193 (by decide) (by decide) ?_
  have I11 := ac_w193 (q := 1) (v := v) I10 (ab_32 v).1 (ab_32 v).2
  have J11 := ac_JX_fr hX (md := [(193, 0)]) rfl _ (am_up h10 193 1 (.int v)) (ab_Fr_up rfl ab_Fr_refl) J10
  have F11 : ab_Fr [(164, 58), (188, 1), (189, 1), (190, 1), (191, 0), (192, 0), (193, 0), (194, 1)] h (am_up h10 193 (1) (.int v)) := ab_Fr_up rfl F10
  generalize am_up h10 193 (1) (.int v) = h11 at I11 J11 F11 ⊢
  clear ev
  refine am_e_iinc (w := 2) (ls' := [(3, .int 2), (0, .ref 164), (1, .ref 201), (2, .int i)]) (am_nxt_of (i := (99, 3, .iinc 3 1, (0, 0, 0), 0)) (by decide +kernel)) (v := 1) rfl (by decide +kernel) (by decide) rfl ?_
  refine am_e_goto (am_cur_of (i := (102, 3, .goto (-49), (43, 0, 0), 0)) (by decide +kernel)) (am_tgt_of (by decide +kernel)) ?_
  refine am_e_iload_n (am_nxt_of (i := (53, 1, .iload_n 3, (0, 0, 0), 0)) (by decide +kernel)) (v := 2) rfl ?_
  refine am_e_iconst (w := 4) (am_nxt_of (i := (54, 1, .iconst 4, (0, 0, 0), 0)) (by decide +kernel)) rfl ?_
  refine am_e_cmpF (am_nxt_of (i := (55, 3, .if_icmp .ge 50, (81, 0, 0), 0)) (by decide +kernel)) (am_c_geF (by decide)) ?_
  obtain ⟨v, ev, vl, vu⟩ := ac_r201 I11 (q := 17 * u + 5 + 2) (by omega)
  refine am_e_aload_n (am_nxt_of (i := (58, 1, .aload_n 0, (0, 0, 0), 0)) (by decide +kernel)) (v := 164) rfl ?_
  refine am_e_getf (am_nxt_of (i := (59, 3, .getfield 94, (12, 53, 1437), 0)) (by decide +kernel)) ac_o (ac_f53 I11) ?_
  refine am_e_iload_n (am_nxt_of (i := (62, 1, .iload_n 3, (0, 0, 0), 0)) (by decide +kernel)) (v := 2) rfl ?_
  refine am_e_aload_n (am_nxt_of (i := (63, 1, .aload_n 1, (0, 0, 0), 0)) (by decide +kernel)) (v := 201) rfl ?_
  refine am_e_iload_n (am_nxt_of (i := (64, 1, .iload_n 2, (0, 0, 0), 0)) (by decide +kernel)) (v := i) rfl ?_
  refine am_e_iconst (w := 5) (am_nxt_of (i := (65, 1, .iconst 5, (0, 0, 0), 0)) (by decide +kernel)) rfl ?_
  refine am_e_iadd (w := i + 5) (am_nxt_of (i := (66, 1, .iadd, (0, 0, 0), 0)) (by decide +kernel)) rfl ?_
  refine am_e_iload_n (am_nxt_of (i := (67, 1, .iload_n 3, (0, 0, 0), 0)) (by decide +kernel)) (v := 2) rfl ?_
  refine am_e_iadd (w := (i + 5) + 2) (am_nxt_of (i := (68, 1, .iadd, (0, 0, 0), 0)) (by decide +kernel)) rfl ?_
  refine am_e_iaload (v := v) (am_nxt_of (i := (69, 1, .iaload, (0, 0, 0), 0)) (by decide +kernel)) ac_k201 (ac_i2 hi (c := 5) (n := 5) (d := 2) (m := 2) (L := 17) (by decide) (by decide) (by omega) (by decide)).1 (ac_i2 hi (c := 5) (n := 5) (d := 2) (m := 2) (L := 17) (by decide) (by decide) (by omega) (by decide)).2 ev ?_
  refine am_e_iastore (q := 2) (am_nxt_of (i := (70, 1, .iastore, (0, 0, 0), 0)) (by decide +kernel)) ac_k191 (by decide) (by decide) ?_
  have I12 := ac_w191 (q := 2) (v := v) I11 (ab_32 v).1 (ab_32 v).2
  have J12 := ac_JX_fr hX (md := [(191, 0)]) rfl _ (am_up h11 191 2 (.int v)) (ab_Fr_up rfl ab_Fr_refl) J11
  have F12 : ab_Fr [(164, 58), (188, 1), (189, 1), (190, 1), (191, 0), (192, 0), (193, 0), (194, 1)] h (am_up h11 191 (2) (.int v)) := ab_Fr_up rfl F11
  generalize am_up h11 191 (2) (.int v) = h12 at I12 J12 F12 ⊢
  clear ev
  obtain ⟨v, ev, vl, vu⟩ := ac_r201 I12 (q := 17 * u + 9 + 2) (by omega)
  refine am_e_aload_n (am_nxt_of (i := (71, 1, .aload_n 0, (0, 0, 0), 0)) (by decide +kernel)) (v := 164) rfl ?_
  refine am_e_getf (am_nxt_of (i := (72, 3, .getfield 97, (12, 54, 1438), 0)) (by decide +kernel)) ac_o (ac_f54 I12) ?_
  refine am_e_iload_n (am_nxt_of (i := (75, 1, .iload_n 3, (0, 0, 0), 0)) (by decide +kernel)) (v := 2) rfl ?_
  refine am_e_aload_n (am_nxt_of (i := (76, 1, .aload_n 1, (0, 0, 0), 0)) (by decide +kernel)) (v := 201) rfl ?_
  refine am_e_iload_n (am_nxt_of (i := (77, 1, .iload_n 2, (0, 0, 0), 0)) (by decide +kernel)) (v := i) rfl ?_
  refine am_e_bipush (w := 9) (am_nxt_of (i := (78, 2, .bipush 9, (0, 0, 0), 0)) (by decide +kernel)) (by decide) ?_
  refine am_e_iadd (w := i + 9) (am_nxt_of (i := (80, 1, .iadd, (0, 0, 0), 0)) (by decide +kernel)) rfl ?_
  refine am_e_iload_n (am_nxt_of (i := (81, 1, .iload_n 3, (0, 0, 0), 0)) (by decide +kernel)) (v := 2) rfl ?_
  refine am_e_iadd (w := (i + 9) + 2) (am_nxt_of (i := (82, 1, .iadd, (0, 0, 0), 0)) (by decide +kernel)) rfl ?_
  refine am_e_iaload (v := v) (am_nxt_of (i := (83, 1, .iaload, (0, 0, 0), 0)) (by decide +kernel)) ac_k201 (ac_i2 hi (c := 9) (n := 9) (d := 2) (m := 2) (L := 17) (by decide) (by decide) (by omega) (by decide)).1 (ac_i2 hi (c := 9) (n := 9) (d := 2) (m := 2) (L := 17) (by decide) (by decide) (by omega) (by decide)).2 ev ?_
  refine am_e_iastore (q := 2) (am_nxt_of (i := (84, 1, .iastore, (0, 0, 0), 0)) (by decide +kernel)) ac_k192 (by decide) (by decide) ?_
  have I13 := ac_w192 (q := 2) (v := v) I12 (ab_32 v).1 (ab_32 v).2
  have J13 := ac_JX_fr hX (md := [(192, 0)]) rfl _ (am_up h12 192 2 (.int v)) (ab_Fr_up rfl ab_Fr_refl) J12
  have F13 : ab_Fr [(164, 58), (188, 1), (189, 1), (190, 1), (191, 0), (192, 0), (193, 0), (194, 1)] h (am_up h12 192 (2) (.int v)) := ab_Fr_up rfl F12
  generalize am_up h12 192 (2) (.int v) = h13 at I13 J13 F13 ⊢
  clear ev
  obtain ⟨v, ev, vl, vu⟩ := ac_r201 I13 (q := 17 * u + 13 + 2) (by omega)
  refine am_e_aload_n (am_nxt_of (i := (85, 1, .aload_n 0, (0, 0, 0), 0)) (by decide +kernel)) (v := 164) rfl ?_
  refine am_e_getf (am_nxt_of (i := (86, 3, .getfield 100, (12, 55, 1439), 0)) (by decide +kernel)) ac_o (ac_f55 I13) ?_
  refine am_e_iload_n (am_nxt_of (i := (89, 1, .iload_n 3, (0, 0, 0), 0)) (by decide +kernel)) (v := 2) rfl ?_
  refine am_e_aload_n (am_nxt_of (i := (90, 1, .aload_n 1, (0, 0, 0), 0)) (by decide +kernel)) (v := 201) rfl ?_
  refine am_e_iload_n (am_nxt_of (i := (91, 1, .iload_n 2, (0, 0, 0), 0)) (by decide +kernel)) (v := i) rfl ?_
  refine am_e_bipush (w := 13) (am_nxt_of (i := (92, 2, .bipush 13, (0, 0, 0), 0)) (by decide +kernel)) (by decide) ?_
  refine am_e_iadd (w := i + 13) (am_nxt_of (i := (94, 1, .iadd, (0, 0, 0), 0)) (by decide +kernel)) rfl ?_
  refine am_e_iload_n (am_nxt_of (i := (95, 1, .iload_n 3, (0, 0, 0), 0)) (by decide +kernel)) (v := 2) rfl ?_
  refine am_e_iadd (w := (i + 13) + 2) (am_nxt_of (i := (96, 1, .iadd, (0, 0, 0), 0)) (by decide +kernel)) rfl ?_
  refine am_e_iaload (v := v) (am_nxt_of (i := (97, 1, .iaload, (0, 0, 0), 0)) (by decide +kernel)) ac_k201 (ac_i2 hi (c := 13) (n := 13) (d := 2) (m := 2) (L := 17) (by decide) (by decide) (by omega) (by decide)).1 (ac_i2 hi (c := 13) (n := 13) (d := 2) (m := 2) (L := 17) (by decide) (by decide) (by omega) (by decide)).2 ev ?_
  refine am_e_iastore (q := 2) (am_nxt_of (i := (98, 1, .iastore, (0, 0, 0), 0)) (by decide +kernel)) ac_k193 (by decide) (by decide) ?_
  have I14 := ac_w193 (q := 2) (v := v) I13 (ab_32 v).1 (ab_32 v).2
  have J14 := ac_JX_fr hX (md := [(193, 0)]) rfl _ (am_up h13 193 2 (.int v)) (ab_Fr_up rfl ab_Fr_refl) J13
  have F14 : ab_Fr [(164, 58), (188, 1), (189, 1), (190, 1), (191, 0), (192, 0), (193, 0), (194, 1)] h (am_up h13 193 (2) (.int v)) := ab_Fr_up rfl F13
  generalize am_up h13 193 (2) (.int v) = h14 at I14 J14 F14 ⊢
  clear ev
  refine am_e_iinc (w := 3) (ls' := [(3, .int 3), (0, .ref 164), (1, .ref 201), (2, .int i)]) (am_nxt_of (i := (99, 3, .iinc 3 1, (0, 0, 0), 0)) (by decide +kernel)) (v := 2) rfl (by decide +kernel) (by decide) rfl ?_
  refine am_e_goto (am_cur_of (i := (102, 3, .goto (-49), (43, 0, 0), 0)) (by decide +kernel)) (am_tgt_of (by decide +kernel)) ?_
  refine am_e_iload_n (am_nxt_of (i := (53, 1, .iload_n 3, (0, 0, 0), 0)) (by decide +kernel)) (v := 3) rfl ?_
  refine am_e_iconst (w := 4) (am_nxt_of (i := (54, 1, .iconst 4, (0, 0, 0), 0)) (by decide +kernel)) rfl ?_
  refine am_e_cmpF (am_nxt_of (i := (55, 3, .if_icmp .ge 50, (81, 0, 0), 0)) (by decide +kernel)) (am_c_geF (by decide)) ?_
  obtain ⟨v, ev, vl, vu⟩ := ac_r201 I14 (q := 17 * u + 5 + 3) (by omega)
  refine am_e_aload_n (am_nxt_of (i := (58, 1, .aload_n 0, (0, 0, 0), 0)) (by decide +kernel)) (v := 164) rfl ?_
  refine am_e_getf (am_nxt_of (i := (59, 3, .getfield 94, (12, 53, 1437), 0)) (by decide +kernel)) ac_o (ac_f53 I14) ?_
  refine am_e_iload_n (am_nxt_of (i := (62, 1, .iload_n 3, (0, 0, 0), 0)) (by decide +kernel)) (v := 3) rfl ?_
  refine am_e_aload_n (am_nxt_of (i := (63, 1, .aload_n 1, (0, 0, 0), 0)) (by decide +kernel)) (v := 201) rfl ?_
  refine am_e_iload_n (am_nxt_of (i := (64, 1, .iload_n 2, (0, 0, 0), 0)) (by decide +kernel)) (v := i) rfl ?_
  refine am_e_iconst (w := 5) (am_nxt_of (i := (65, 1, .iconst 5, (0, 0, 0), 0)) (by decide +kernel)) rfl ?_
  refine am_e_iadd (w := i + 5) (am_nxt_of (i := (66, 1, .iadd, (0, 0, 0), 0)) (by decide +kernel)) rfl ?_
  refine am_e_iload_n (am_nxt_of (i := (67, 1, .iload_n 3, (0, 0, 0), 0)) (by decide +kernel)) (v := 3) rfl ?_
  refine am_e_iadd (w := (i + 5) + 3) (am_nxt_of (i := (68, 1, .iadd, (0, 0, 0), 0)) (by decide +kernel)) rfl ?_
  refine am_e_iaload (v := v) (am_nxt_of (i := (69, 1, .iaload, (0, 0, 0), 0)) (by decide +kernel)) ac_k201 (ac_i2 hi (c := 5) (n := 5) (d := 3) (m := 3) (L := 17) (by decide) (by decide) (by omega) (by decide)).1 (ac_i2 hi (c := 5) (n := 5) (d := 3) (m := 3) (L := 17) (by decide) (by decide) (by omega) (by decide)).2 ev ?_
  refine am_e_iastore (q := 3) (am_nxt_of (i := (70, 1, .iastore, (0, 0, 0), 0)) (by decide +kernel)) ac_k191 (by decide) (by decide) ?_
  have I15 := ac_w191 (q := 3) (v := v) I14 (ab_32 v).1 (ab_32 v).2
  have J15 := ac_JX_fr hX (md := [(191, 0)]) rfl _ (am_up h14 191 3 (.int v)) (ab_Fr_up rfl ab_Fr_refl) J14
  have F15 : ab_Fr [(164, 58), (188, 1), (189, 1), (190, 1), (191, 0), (192, 0), (193, 0), (194, 1)] h (am_up h14 191 (3) (.int v)) := ab_Fr_up rfl F14
  generalize am_up h14 191 (3) (.int v) = h15 at I15 J15 F15 ⊢
  clear ev
  obtain ⟨v, ev, vl, vu⟩ := ac_r201 I15 (q := 17 * u + 9 + 3) (by omega)
  refine am_e_aload_n (am_nxt_of (i := (71, 1, .aload_n 0, (0, 0, 0), 0)) (by decide +kernel)) (v := 164) rfl ?_
  refine am_e_getf (am_nxt_of (i := (72, 3, .getfield 97, (12, 54, 1438), 0)) (by decide +kernel)) ac_o (ac_f54 I15) ?_
  refine am_e_iload_n (am_nxt_of (i := (75, 1, .iload_n 3, (0, 0, 0), 0)) (by decide +kernel)) (v := 3) rfl ?_
  refine am_e_aload_n (am_nxt_of (i := (76, 1, .aload_n 1, (0, 0, 0), 0)) (by decide +kernel)) (v := 201) rfl ?_
  refine am_e_iload_n (am_nxt_of (i := (77, 1, .iload_n 2, (0, 0, 0), 0)) (by decide +kernel)) (v := i) rfl ?_
  refine am_e_bipush (w := 9) (am_nxt_of (i := (78, 2, .bipush 9, (0, 0, 0), 0)) (by decide +kernel)) (by decide) ?_
  refine am_e_iadd (w := i + 9) (am_nxt_of (i := (80, 1, .iadd, (0, 0, 0), 0)) (by decide +kernel)) rfl ?_
  refine am_e_iload_n (am_nxt_of (i := (81, 1, .iload_n 3, (0, 0, 0), 0)) (by decide +kernel)) (v := 3) rfl ?_
  refine am_e_iadd (w := (i + 9) + 3) (am_nxt_of (i := (82, 1, .iadd, (0, 0, 0), 0)) (by decide +kernel)) rfl ?_
  refine am_e_iaload (v := v) (am_nxt_of (i := (83, 1, .iaload, (0, 0, 0), 0)) (by decide +kernel)) ac_k201 (ac_i2 hi (c := 9) (n := 9) (d := 3) (m := 3) (L := 17) (by decide) (by decide) (by omega) (by decide)).1 (ac_i2 hi (c := 9) (n := 9) (d := 3) (m := 3) (L := 17) (by decide) (by decide) (by omega) (by decide)).2 ev ?_
  refine am_e_iastore (q := 3) (am_nxt_of (i := (84, 1, .iastore, (0, 0, 0), 0)) (by decide +kernel)) ac_k192 (by decide) (by decide) ?_
  have I16 := ac_w192 (q := 3) (v := v) I15 (ab_32 v).1 (ab_32 v).2
  have J16 := ac_JX_fr hX (md := [(192, 0)]) rfl _ (am_up h15 192 3 (.int v)) (ab_Fr_up rfl ab_Fr_refl) J15
  have F16 : ab_Fr [(164, 58), (188, 1), (189, 1), (190, 1), (191, 0), (192, 0), (193, 0), (194, 1)] h (am_up h15 192 (3) (.int v)) := ab_Fr_up rfl F15
  generalize am_up h15 192 (3) (.int v) = h16 at I16 J16 F16 ⊢
  clear ev
  obtain ⟨v, ev, vl, vu⟩ := ac_r201 I16 (q := 17 * u + 13 + 3) (by omega)
  refine am_e_aload_n (am_nxt_of (i := (85, 1, .aload_n 0, (0, 0, 0), 0)) (by decide +kernel)) (v := 164) rfl ?_
  refine am_e_getf (am_nxt_of (i := (86, 3, .getfield 100, (12, 55, 1439), 0)) (by decide +kernel)) ac_o (ac_f55 I16) ?_
  refine am_e_iload_n (am_nxt_of (i := (89, 1, .iload_n 3, (0, 0, 0), 0)) (by decide +kernel)) (v := 3) rfl ?_
  refine am_e_aload_n (am_nxt_of (i := (90, 1, .aload_n 1, (0, 0, 0), 0)) (by decide +kernel)) (v := 201) rfl ?_
  refine am_e_iload_n (am_nxt_of (i := (91, 1, .iload_n 2, (0, 0, 0), 0)) (by decide +kernel)) (v := i) rfl ?_
  refine am_e_bipush (w := 13) (am_nxt_of (i := (92, 2, .bipush 13, (0, 0, 0), 0)) (by decide +kernel)) (by decide) ?_
  refine am_e_iadd (w := i + 13) (am_nxt_of (i := (94, 1, .iadd, (0, 0, 0), 0)) (by decide +kernel)) rfl ?_
  refine am_e_iload_n (am_nxt_of (i := (95, 1, .iload_n 3, (0, 0, 0), 0)) (by decide +kernel)) (v := 3) rfl ?_
  refine am_e_iadd (w := (i + 13) + 3) (am_nxt_of (i := (96, 1, .iadd, (0, 0, 0), 0)) (by decide +kernel)) rfl ?_
  refine am_e_iaload (v := v) (am_nxt_of (i := (97, 1, .iaload, (0, 0, 0), 0)) (by decide +kernel)) ac_k201 (ac_i2 hi (c := 13) (n := 13) (d := 3) (m := 3) (L := 17) (by decide) (by decide) (by omega) (by decide)).1 (ac_i2 hi (c := 13) (n := 13) (d := 3) (m := 3) (L := 17) (by decide) (by decide) (by omega) (by decide)).2 ev ?_
  refine am_e_iastore (q := 3) (am_nxt_of (i := (98, 1, .iastore, (0, 0, 0), 0)) (by decide +kernel)) ac_k193 (by decide) (by decide) ?_
  have I17 := ac_w193 (q := 3) (v := v) I16 (ab_32 v).1 (ab_32 v).2
  have J17 := ac_JX_fr hX (md := [(193, 0)]) rfl _ (am_up h16 193 3 (.int v)) (ab_Fr_up rfl ab_Fr_refl) J16
  have F17 : ab_Fr [(164, 58), (188, 1), (189, 1), (190, 1), (191, 0), (192, 0), (193, 0), (194, 1)] h (am_up h16 193 (3) (.int v)) := ab_Fr_up rfl F16
  generalize am_up h16 193 (3) (.int v) = h17 at I17 J17 F17 ⊢
  clear ev
  refine am_e_iinc (w := 4) (ls' := [(3, .int 4), (0, .ref 164), (1, .ref 201), (2, .int i)]) (am_nxt_of (i := (99, 3, .iinc 3 1, (0, 0, 0), 0)) (by decide +kernel)) (v := 3) rfl (by decide +kernel) (by decide) rfl ?_
  refine am_e_goto (am_cur_of (i := (102, 3, .goto (-49), (43, 0, 0), 0)) (by decide +kernel)) (am_tgt_of (by decide +kernel)) ?_
  refine am_e_iload_n (am_nxt_of (i := (53, 1, .iload_n 3, (0, 0, 0), 0)) (by decide +kernel)) (v := 4) rfl ?_
  refine am_e_iconst (w := 4) (am_nxt_of (i := (54, 1, .iconst 4, (0, 0, 0), 0)) (by decide +kernel)) rfl ?_
  refine am_e_cmpT (am_nxt_of (i := (55, 3, .if_icmp .ge 50, (81, 0, 0), 0)) (by decide +kernel)) (am_c_geT (by decide)) (am_tgt_of (by decide +kernel)) ?_
  exact am_e_vret (am_cur_of (i := (105, 1, .return_, (0, 0, 0), 0)) (by decide +kernel)) rfl rfl ⟨rfl, rfl, I17, J17, F17⟩
/-- the oldest is forgotten -/
theorem ac_rm_l (hX : ac_XF X) {h0 : am_H} : ∀ (d : Nat) (k : Int32) (h : am_H), k.toInt + d = 323 → 0 ≤ k.toInt → ab_Inv (ab_hi ab_tab) h → ac_JX X h → ab_Fr [(200, 0)] h0 h → (∀ (h' : am_H), ab_Inv (ab_hi ab_tab) h' → ac_JX X h' → ab_Fr [(200, 0)] h0 h' → am_Ek false am_G0 am_m207 21 [(0, .ref 164)] [] am_ks0 h' 0 0 (fun r ks h' => ks = am_ks0 ∧ r = none ∧ ab_Inv (ab_hi ab_tab) h' ∧ ac_JX X h' ∧ ab_Fr [(164, 78), (200, 0)] h0 h')) → am_Ek false am_G0 am_m207 6 [(0, .ref 164), (1, .int k)] [] am_ks0 h 0 0 (fun r ks h' => ks = am_ks0 ∧ r = none ∧ ab_Inv (ab_hi ab_tab) h' ∧ ac_JX X h' ∧ ab_Fr [(164, 78), (200, 0)] h0 h') := by
  have z : (323 : Int32).toInt = 323 := by decide
  have z17 : (17 : Int32).toInt = 17 := by decide
  intro d
  induction d with
  | zero =>
    intro k h hd k0 hI hj hF K
    refine am_e_iload_n (am_nxt_of (i := (11, 1, .iload_n 1, (0, 0, 0), 0)) (by decide +kernel)) (v := k) rfl ?_
    refine am_e_sipush (w := 323) (am_nxt_of (i := (12, 3, .sipush 323, (0, 0, 0), 0)) (by decide +kernel)) (by decide) ?_
    refine am_e_cmpT (am_nxt_of (i := (15, 3, .if_icmp .ge 24, (21, 0, 0), 0)) (by decide +kernel)) (am_c_geT (ac_nlt (by omega))) (am_tgt_of (by decide +kernel)) ?_
    refine am_Ek_ls (ls' := [(0, .ref 164)]) ⟨rfl, trivial⟩ ?_
    exact K h hI hj hF
  | succ d ih =>
    intro k h hd k0 hI hj hF K
    refine am_e_iload_n (am_nxt_of (i := (11, 1, .iload_n 1, (0, 0, 0), 0)) (by decide +kernel)) (v := k) rfl ?_
    refine am_e_sipush (w := 323) (am_nxt_of (i := (12, 3, .sipush 323, (0, 0, 0), 0)) (by decide +kernel)) (by decide) ?_
    refine am_e_cmpF (am_nxt_of (i := (15, 3, .if_icmp .ge 24, (21, 0, 0), 0)) (by decide +kernel)) (am_c_geF (ac_lt (by omega))) ?_
    have e1 := ab_iadd (x := k) (y := 17) (by omega) (by omega)
    have hix := ab_ix (x := k + 17) (n := 340) (by omega) (by omega)
    have hix2 := ab_ix (x := k) (n := 340) (by omega) (by omega)
    have ec : (k + 17).toNatClampNeg = k.toInt.toNat + 17 := ab_clamp (by omega)
    have ec2 : k.toNatClampNeg = k.toInt.toNat := ab_clamp (by omega)
    obtain ⟨v, ev, -⟩ := ac_r200 hI (q := k.toInt.toNat + 17) (by omega)
    have hv : k.toInt.toNat % 17 = 3 → -99999 ≤ v.toInt ∧ v.toInt ≤ 99999 := by
      intro hm
      obtain ⟨v', ev', b⟩ := hj.1.2.2.2.2.2.2.2.1.1 (k.toInt.toNat / 17 + 1) (by omega)
      rw [show 17 * (k.toInt.toNat / 17 + 1) + 3 = k.toInt.toNat + 17 by omega, ev] at ev'
      cases ev'
      exact b
    refine am_e_aload_n (am_nxt_of (i := (18, 1, .aload_n 0, (0, 0, 0), 0)) (by decide +kernel)) (v := 164) rfl ?_
    refine am_e_getf (am_nxt_of (i := (19, 3, .getfield 127, (12, 78, 1462), 0)) (by decide +kernel)) ac_o (ac_f78 hI) ?_
    refine am_e_iload_n (am_nxt_of (i := (22, 1, .iload_n 1, (0, 0, 0), 0)) (by decide +kernel)) (v := k) rfl ?_
    refine am_e_aload_n (am_nxt_of (i := (23, 1, .aload_n 0, (0, 0, 0), 0)) (by decide +kernel)) (v := 164) rfl ?_
    refine am_e_getf (am_nxt_of (i := (24, 3, .getfield 127, (12, 78, 1462), 0)) (by decide +kernel)) ac_o (ac_f78 hI) ?_
    refine am_e_iload_n (am_nxt_of (i := (27, 1, .iload_n 1, (0, 0, 0), 0)) (by decide +kernel)) (v := k) rfl ?_
    refine am_e_bipush (w := 17) (am_nxt_of (i := (28, 2, .bipush 17, (0, 0, 0), 0)) (by decide +kernel)) (by decide) ?_
    refine am_e_iadd (w := k + 17) (am_nxt_of (i := (30, 1, .iadd, (0, 0, 0), 0)) (by decide +kernel)) rfl ?_
    refine am_e_iaload (v := v) (am_nxt_of (i := (31, 1, .iaload, (0, 0, 0), 0)) (by decide +kernel)) ac_k200 hix ec ev ?_
    refine am_e_iastore (am_nxt_of (i := (32, 1, .iastore, (0, 0, 0), 0)) (by decide +kernel)) ac_k200 hix2 ec2 ?_
    have e2 := ab_inc1 k0 (by omega)
    refine am_e_iinc (w := k + Int32.ofInt 1) (ls' := [(1, .int (k + Int32.ofInt 1)), (0, .ref 164)]) (am_nxt_of (i := (33, 3, .iinc 1 1, (0, 0, 0), 0)) (by decide +kernel)) (v := k) rfl (by decide +kernel) rfl rfl ?_
    refine am_e_goto (am_cur_of (i := (36, 3, .goto (-25), (6, 0, 0), 0)) (by decide +kernel)) (am_tgt_of (by decide +kernel)) ?_
    refine am_Ek_ls (ls' := [(0, .ref 164), (1, .int (k + Int32.ofInt 1))]) ⟨rfl, rfl, trivial⟩ ?_
    exact ih _ _ (by omega) (by omega) (ac_w200 hI (ab_32 v).1 (ab_32 v).2) (ac_J_200 hX hj hv) (ab_Fr_up rfl hF) K
theorem ac_remember (hX : ac_XF X) {h : am_H} (hI : ab_Inv (ab_hi ab_tab) h) (hj : ac_JX X h) : am_Ek false am_G0 am_m207 0 (lv_args 0 [.ref 164]) [] am_ks0 h 0 0 (fun r ks h' => ks = am_ks0 ∧ r = none ∧ ab_Inv (ab_hi ab_tab) h' ∧ ac_JX X h' ∧ ab_Fr [(164, 78), (200, 0)] h h') := by
  have z20 : (20 : Int32).toInt = 20 := by decide
  have z1 : (1 : Int32).toInt = 1 := by decide
  have hput : ∀ (g : am_H) (n : Int32), ab_Inv (ab_hi ab_tab) g → ac_JX X g → ab_Fr [(164, 78), (200, 0)] h g → g 164 77 = .int n → 0 ≤ n.toInt → n.toInt ≤ 19 → am_Ek false am_G0 am_m207 27 [(0, .ref 164)] [] am_ks0 g 0 0 (fun r ks h' => ks = am_ks0 ∧ r = none ∧ ab_Inv (ab_hi ab_tab) h' ∧ ac_JX X h' ∧ ab_Fr [(164, 78), (200, 0)] h h') := by
    intro g n gI gj gF en n0 n19
    have e17 : ((17 : Int32) * n).toInt = (17 * n.toInt.toNat : Nat) := by
      rw [Int32.toInt_mul, show (17 : Int32).toInt = 17 by decide, ab_bm (by omega) (by omega)]
      omega
    refine am_e_aload_n (am_nxt_of (i := (49, 1, .aload_n 0, (0, 0, 0), 0)) (by decide +kernel)) (v := 164) rfl ?_
    refine am_e_aload_n (am_nxt_of (i := (50, 1, .aload_n 0, (0, 0, 0), 0)) (by decide +kernel)) (v := 164) rfl ?_
    refine am_e_getf (am_nxt_of (i := (51, 3, .getfield 127, (12, 78, 1462), 0)) (by decide +kernel)) ac_o (ac_f78 gI) ?_
    refine am_e_bipush (w := 17) (am_nxt_of (i := (54, 2, .bipush 17, (0, 0, 0), 0)) (by decide +kernel)) (by decide) ?_
    refine am_e_aload_n (am_nxt_of (i := (56, 1, .aload_n 0, (0, 0, 0), 0)) (by decide +kernel)) (v := 164) rfl ?_
    refine am_e_getf (v := .int n) (am_nxt_of (i := (57, 3, .getfield 371, (12, 77, 1461), 0)) (by decide +kernel)) ac_o en ?_
    refine am_e_imul (w := 17 * n) (am_nxt_of (i := (60, 1, .imul, (0, 0, 0), 0)) (by decide +kernel)) rfl ?_
    refine am_e_callV (M' := am_m208) (o := 164) (ar := [.int (17 * n), .ref 200]) (rest := []) (L := lv_args 0 [.ref 164, .ref 200, .int (17 * n)]) (am_nxt_of (i := (61, 3, .invokevirtual 530, (208, 1863, 3), 0)) (by decide +kernel)) rfl rfl rfl rfl ac_o rfl rfl rfl ?_
    refine am_Ev_mono (ac_put200 hX gI gj e17 (by omega)) (fun r ks g1 hq => ?_)
    obtain ⟨rfl, rfl, I1, J1, f1⟩ := hq
    show am_Ek false am_G0 am_m207 35 _ [] _ _ _ _ _
    have en1 : g1 164 77 = .int n := (f1 164 77 rfl).trans en
    have eq1 := ac_c1 (x := n) n0 (by omega)
    have I2 := ac_p77 (v := n + 1) I1 (by omega) (by omega)
    refine am_e_aload_n (am_nxt_of (i := (64, 1, .aload_n 0, (0, 0, 0), 0)) (by decide +kernel)) (v := 164) rfl ?_
    refine am_e_dup (am_nxt_of (i := (65, 1, .dup, (0, 0, 0), 0)) (by decide +kernel)) rfl ?_
    refine am_e_getf (v := .int n) (am_nxt_of (i := (66, 3, .getfield 371, (12, 77, 1461), 0)) (by decide +kernel)) ac_o en1 ?_
    refine am_e_iconst (w := 1) (am_nxt_of (i := (69, 1, .iconst 1, (0, 0, 0), 0)) (by decide +kernel)) rfl ?_
    refine am_e_iadd (w := n + 1) (am_nxt_of (i := (70, 1, .iadd, (0, 0, 0), 0)) (by decide +kernel)) rfl ?_
    refine am_e_putf (am_nxt_of (i := (71, 3, .putfield 371, (12, 77, 1461), 0)) (by decide +kernel)) ac_o rfl ?_
    exact am_e_vret (am_cur_of (i := (74, 1, .return_, (0, 0, 0), 0)) (by decide +kernel)) rfl rfl ⟨rfl, rfl, I2, ac_JX_fr hX (md := [(164, 78)]) rfl _ _ (ab_Fr_up rfl ab_Fr_refl) J1, ab_Fr_up rfl (ab_Fr_trans gF (ab_mdle_Fr (by decide) f1))⟩
  obtain ⟨n, en, n_0, n_1⟩ := ac_g77 hI
  refine am_e_aload_n (am_nxt_of (i := (0, 1, .aload_n 0, (0, 0, 0), 0)) (by decide +kernel)) (v := 164) rfl ?_
  refine am_e_getf (v := .int n) (am_nxt_of (i := (1, 3, .getfield 371, (12, 77, 1461), 0)) (by decide +kernel)) ac_o en ?_
  refine am_e_bipush (w := 20) (am_nxt_of (i := (4, 2, .bipush 20, (0, 0, 0), 0)) (by decide +kernel)) (by decide) ?_
  by_cases h20 : (n : Int32) = 20
  · refine am_e_cmpF (am_nxt_of (i := (6, 3, .if_icmp .ne 43, (27, 0, 0), 0)) (by decide +kernel)) (am_c_neF h20) ?_
    refine am_e_iconst (w := 0) (am_nxt_of (i := (9, 1, .iconst 0, (0, 0, 0), 0)) (by decide +kernel)) rfl ?_
    refine am_e_istore_n (ls' := [(1, .int 0), (0, .ref 164)]) (am_nxt_of (i := (10, 1, .istore_n 1, (0, 0, 0), 0)) (by decide +kernel)) (by decide +kernel) rfl ?_
    refine am_Ek_ls (ls' := [(0, .ref 164), (1, .int 0)]) ⟨rfl, rfl, trivial⟩ ?_
    refine ac_rm_l hX (h0 := h) 323 0 h (by decide) (by decide) hI hj ab_Fr_refl (fun g gI gj gF => ?_)
    have en1 : g 164 77 = .int n := (gF 164 77 rfl).trans en
    have eq1 : (n - 1).toInt = n.toInt - 1 := by rw [ab_isub (by omega) (by omega), z1]
    have I2 := ac_p77 (v := n - 1) gI (by rw [h20] at eq1 ⊢; omega) (by omega)
    refine am_e_aload_n (am_nxt_of (i := (39, 1, .aload_n 0, (0, 0, 0), 0)) (by decide +kernel)) (v := 164) rfl ?_
    refine am_e_dup (am_nxt_of (i := (40, 1, .dup, (0, 0, 0), 0)) (by decide +kernel)) rfl ?_
    refine am_e_getf (v := .int n) (am_nxt_of (i := (41, 3, .getfield 371, (12, 77, 1461), 0)) (by decide +kernel)) ac_o en1 ?_
    refine am_e_iconst (w := 1) (am_nxt_of (i := (44, 1, .iconst 1, (0, 0, 0), 0)) (by decide +kernel)) rfl ?_
    refine am_e_isub (w := n - 1) (am_nxt_of (i := (45, 1, .isub, (0, 0, 0), 0)) (by decide +kernel)) rfl ?_
    refine am_e_putf (am_nxt_of (i := (46, 3, .putfield 371, (12, 77, 1461), 0)) (by decide +kernel)) ac_o rfl ?_
    exact hput _ (n - 1) I2 (ac_JX_fr hX (md := [(164, 78)]) rfl _ _ (ab_Fr_up rfl ab_Fr_refl) gj) (ab_Fr_up rfl (ab_mdle_Fr (by decide) gF)) rfl (by rw [h20] at eq1 ⊢; omega) (by rw [h20] at eq1 ⊢; omega)
  · refine am_e_cmpT (am_nxt_of (i := (6, 3, .if_icmp .ne 43, (27, 0, 0), 0)) (by decide +kernel)) (am_c_neT h20) (am_tgt_of (by decide +kernel)) ?_
    have h20' := ac_ne' h20
    exact hput h n hI hj ab_Fr_refl en n_0 (by omega)
abbrev ac_opQ (X : am_H → Prop) (md : List (Nat × Nat)) (h : am_H) : Option Value → List am_k → am_H → Prop := fun r ks h' => ks = am_ks0 ∧ ab_Inv (ab_hi ab_tab) h' ∧ ac_JX X h' ∧ ab_Fr md h h' ∧ ∃ x : Int32, r = some (.int x)
theorem ac_undo (hX : ac_XF X) {h : am_H} (hI : ab_Inv (ab_hi ab_tab) h) (hj : ac_JX X h) : am_Ek false am_G0 am_m249 0 (lv_args 0 [.ref 164]) [] am_ks0 h 0 0 (ac_opQ X [(164, 3), (164, 58), (164, 78), (188, 1), (189, 1), (190, 1), (191, 0), (192, 0), (193, 0), (194, 1)] h) := by
  have z1 : (1 : Int32).toInt = 1 := by decide
  have z0 : (0 : Int32).toInt = 0 := by decide
  obtain ⟨n, en, n0, n1⟩ := ac_g77 hI
  refine am_e_aload_n (am_nxt_of (i := (0, 1, .aload_n 0, (0, 0, 0), 0)) (by decide +kernel)) (v := 164) rfl ?_
  refine am_e_iconst (w := 0) (am_nxt_of (i := (1, 1, .iconst 0, (0, 0, 0), 0)) (by decide +kernel)) rfl ?_
  have I1 := ac_p2 (v := 0) hI (by decide) (by decide)
  have J1 := ac_JX_fr hX (md := [(164, 3)]) rfl _ (am_up h 164 2 (.int 0)) (ab_Fr_up rfl ab_Fr_refl) hj
  refine am_e_putf (am_nxt_of (i := (2, 3, .putfield 139, (12, 2, 1386), 0)) (by decide +kernel)) ac_o rfl ?_
  refine am_e_aload_n (am_nxt_of (i := (5, 1, .aload_n 0, (0, 0, 0), 0)) (by decide +kernel)) (v := 164) rfl ?_
  refine am_e_getf (v := .int n) (am_nxt_of (i := (6, 3, .getfield 371, (12, 77, 1461), 0)) (by decide +kernel)) ac_o en ?_
  by_cases hn : (n : Int32) = 0
  · refine am_e_ifF (am_nxt_of (i := (9, 3, .ifCond .ne 5, (8, 0, 0), 0)) (by decide +kernel)) (am_c_neF hn) ?_
    refine am_e_iconst (w := (-1)) (am_nxt_of (i := (12, 1, .iconst (-1), (0, 0, 0), 0)) (by decide +kernel)) rfl ?_
    exact am_e_iret (ty := .int) (am_cur_of (i := (13, 1, .ireturn, (0, 0, 0), 0)) (by decide +kernel)) rfl rfl rfl ⟨rfl, I1, J1, ab_Fr_up rfl ab_Fr_refl, _, rfl⟩
  · refine am_e_ifT (am_nxt_of (i := (9, 3, .ifCond .ne 5, (8, 0, 0), 0)) (by decide +kernel)) (am_c_neT hn) (am_tgt_of (by decide +kernel)) ?_
    have hn' := ac_ne' hn
    have eq1 : (n - 1).toInt = n.toInt - 1 := by rw [ab_isub (by omega) (by omega), z1]
    have I2 := ac_p77 (v := n - 1) I1 (by omega) (by omega)
    refine am_e_aload_n (am_nxt_of (i := (14, 1, .aload_n 0, (0, 0, 0), 0)) (by decide +kernel)) (v := 164) rfl ?_
    refine am_e_dup (am_nxt_of (i := (15, 1, .dup, (0, 0, 0), 0)) (by decide +kernel)) rfl ?_
    refine am_e_getf (v := .int n) (am_nxt_of (i := (16, 3, .getfield 371, (12, 77, 1461), 0)) (by decide +kernel)) ac_o en ?_
    refine am_e_iconst (w := 1) (am_nxt_of (i := (19, 1, .iconst 1, (0, 0, 0), 0)) (by decide +kernel)) rfl ?_
    refine am_e_isub (w := n - 1) (am_nxt_of (i := (20, 1, .isub, (0, 0, 0), 0)) (by decide +kernel)) rfl ?_
    refine am_e_putf (am_nxt_of (i := (21, 3, .putfield 371, (12, 77, 1461), 0)) (by decide +kernel)) ac_o rfl ?_
    have J2 := ac_JX_fr hX (md := [(164, 78)]) rfl _ (am_up (am_up h 164 2 (.int 0)) 164 77 (.int (n - 1))) (ab_Fr_up rfl ab_Fr_refl) J1
    have e17 : ((17 : Int32) * (n - 1)).toInt = (17 * (n - 1).toInt.toNat : Nat) := by
      rw [Int32.toInt_mul, show (17 : Int32).toInt = 17 by decide, ab_bm (by omega) (by omega)]
      omega
    refine am_e_aload_n (am_nxt_of (i := (24, 1, .aload_n 0, (0, 0, 0), 0)) (by decide +kernel)) (v := 164) rfl ?_
    refine am_e_aload_n (am_nxt_of (i := (25, 1, .aload_n 0, (0, 0, 0), 0)) (by decide +kernel)) (v := 164) rfl ?_
    refine am_e_getf (am_nxt_of (i := (26, 3, .getfield 127, (12, 78, 1462), 0)) (by decide +kernel)) ac_o (ac_f78 I2) ?_
    refine am_e_bipush (w := 17) (am_nxt_of (i := (29, 2, .bipush 17, (0, 0, 0), 0)) (by decide +kernel)) (by decide) ?_
    refine am_e_aload_n (am_nxt_of (i := (31, 1, .aload_n 0, (0, 0, 0), 0)) (by decide +kernel)) (v := 164) rfl ?_
    refine am_e_getf (v := .int (n - 1)) (am_nxt_of (i := (32, 3, .getfield 371, (12, 77, 1461), 0)) (by decide +kernel)) ac_o rfl ?_
    refine am_e_imul (w := 17 * (n - 1)) (am_nxt_of (i := (35, 1, .imul, (0, 0, 0), 0)) (by decide +kernel)) rfl ?_
    refine am_e_callV (M' := am_m250) (o := 164) (ar := [.int (17 * (n - 1)), .ref 200]) (rest := []) (L := lv_args 0 [.ref 164, .ref 200, .int (17 * (n - 1))]) (am_nxt_of (i := (36, 3, .invokevirtual 533, (250, 2031, 3), 0)) (by decide +kernel)) rfl rfl rfl rfl ac_o rfl rfl rfl ?_
    refine am_Ev_mono (ac_take200 hX I2 J2 e17 (by omega)) (fun r ks g1 hq => ?_)
    obtain ⟨rfl, rfl, I3, J3, f3⟩ := hq
    show am_Ek false am_G0 am_m249 22 _ [] _ _ _ _ _
    have en3 : g1 164 77 = .int (n - 1) := (f3 164 77 rfl).trans rfl
    refine am_e_aload_n (am_nxt_of (i := (39, 1, .aload_n 0, (0, 0, 0), 0)) (by decide +kernel)) (v := 164) rfl ?_
    refine am_e_getf (v := .int (n - 1)) (am_nxt_of (i := (40, 3, .getfield 371, (12, 77, 1461), 0)) (by decide +kernel)) ac_o en3 ?_
    exact am_e_iret (ty := .int) (am_cur_of (i := (43, 1, .ireturn, (0, 0, 0), 0)) (by decide +kernel)) rfl rfl rfl ⟨rfl, I3, J3, ab_Fr_trans (ab_Fr_up rfl (ab_Fr_up rfl ab_Fr_refl)) (ab_mdle_Fr (by decide) f3), _, rfl⟩
end ACH
