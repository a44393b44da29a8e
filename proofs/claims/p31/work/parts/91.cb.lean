/-! ===== THE MODEL'S copyBed(1, 0) (written by a program: wip/s/tpl/91.tpl) ===== -/
abbrev ab_cbM : List (Nat × Nat) := [(188, 2), (189, 2), (190, 2), (194, 2), (191, 0), (192, 0), (193, 0)]
theorem ab_arrI {h : am_H} (hI : ab_Inv (ab_hi ab_tab) h) {o n q : Nat} {l u : Int} (hk : am_ks0[o]? = some (.inr (.int, n))) (ha : ab_isA ab_tab o = true) (ht : ab_hi ab_tab o 0 = ab_i l u) (hq : q < n) : ∃ v : Int32, h o q = .int v ∧ l ≤ v.toInt ∧ v.toInt ≤ u := by
  have g := hI o q _ hk hq
  rw [ab_hi_arr ha, ht] at g
  obtain ⟨v, ev, v0, v1⟩ := g
  exact ⟨v, ev, v0, v1⟩
theorem ab_arrUp {h : am_H} (hI : ab_Inv (ab_hi ab_tab) h) {o q : Nat} {l u : Int} {v : Int32} (ha : ab_isA ab_tab o = true) (ht : ab_hi ab_tab o 0 = ab_i l u) (v0 : l ≤ v.toInt) (v1 : v.toInt ≤ u) : ab_Inv (ab_hi ab_tab) (am_up h o q (.int v)) := ab_Inv_up hI (by rw [ab_hi_arr ha, ht]; exact ab_i_ok v0 v1)
theorem ab_4p {k : Int32} (k0 : 0 ≤ k.toInt) (k1 : k.toInt ≤ 3) : ((4 : Int32) * 1 + k).toInt = 4 + k.toInt ∧ ((4 : Int32) * 0 + k).toInt = k.toInt := by
  have e4 : ((4 : Int32) * 1).toInt = 4 := by decide
  have e0 : ((4 : Int32) * 0).toInt = 0 := by decide
  exact ⟨by rw [ab_iadd (by omega) (by omega), e4], by rw [ab_iadd (by omega) (by omega), e0]; omega⟩
section ABCB
variable {J : am_H → Prop} {h0 : am_H} {s : Int32}
def ab_Cb (J : am_H → Prop) (h0 : am_H) (s : Int32) (h : am_H) : Prop := ab_Inv (ab_hi ab_tab) h ∧ J h ∧ ab_Fr ab_cbM h0 h ∧ h 189 1 = .int s
theorem ab_cb_loop (hJ : ∀ h h', ab_Fr ab_cbM h h' → J h → J h') : ∀ (d : Nat) (k : Int32) (h : am_H), k.toInt + d = 4 → 0 ≤ k.toInt → ab_Cb J h0 s h → am_Ek false am_G0 am_m197 34 [(0, .ref 164), (1, .int 1), (2, .int 0), (3, .int k)] [] am_ks0 h 0 0 (fun r ks h' => ks = am_ks0 ∧ r = none ∧ ab_Cb J h0 s h') := by
  have q1 : am_ks0[164]? = some (.inl 12) := by decide +kernel
  have z : ab_sz (.inl 12) = 81 := rfl
  have e4 : (4 : Int32).toInt = 4 := by decide
  intro d
  induction d with
  | zero =>
    intro k h hk k0 hC
    refine am_e_iload_n (am_nxt_of (i := (50, 1, .iload_n 3, (0, 0, 0), 0)) (by decide +kernel)) (v := k) rfl ?_
    refine am_e_iconst (w := 4) (am_nxt_of (i := (51, 1, .iconst 4, (0, 0, 0), 0)) (by decide +kernel)) rfl ?_
    refine am_e_cmpT (am_nxt_of (i := (52, 3, .if_icmp .ge 69, (87, 0, 0), 0)) (by decide +kernel)) (am_c_geT (by rw [Int32.lt_iff_toInt_lt]; omega)) (am_tgt_of (by decide +kernel)) ?_
    exact am_e_vret (am_cur_of (i := (121, 1, .return_, (0, 0, 0), 0)) (by decide +kernel)) rfl rfl ⟨rfl, rfl, hC⟩
  | succ d ih =>
    intro k h hk k0 hC
    obtain ⟨hI, hj, hF, hs⟩ := hC
    have e5 := ab_4p k0 (by omega)
    have i1 := ab_ix (x := (4 : Int32) * 1 + k) (n := 16) (by omega) (by omega)
    have i0 := ab_ix (x := (4 : Int32) * 0 + k) (n := 16) (by omega) (by omega)
    refine am_e_iload_n (am_nxt_of (i := (50, 1, .iload_n 3, (0, 0, 0), 0)) (by decide +kernel)) (v := k) rfl ?_
    refine am_e_iconst (w := 4) (am_nxt_of (i := (51, 1, .iconst 4, (0, 0, 0), 0)) (by decide +kernel)) rfl ?_
    refine am_e_cmpF (am_nxt_of (i := (52, 3, .if_icmp .ge 69, (87, 0, 0), 0)) (by decide +kernel)) (am_c_geF (by rw [Int32.lt_iff_toInt_lt]; omega)) ?_
    have k191 : am_ks0[191]? = some (.inr (.int, 16)) := by decide +kernel
    have f53 : h 164 53 = .ref 191 := ab_ref1 hI q1 (by rw [z]; decide) (by decide +kernel)
    obtain ⟨v191, ev191, a191, b191⟩ := ab_arrI hI k191 (l := -2147483648) (u := 2147483647) (by decide +kernel) (by decide +kernel) (Nat.lt_of_not_le (fun q => i0 (Or.inr q)))
    refine am_e_aload_n (am_nxt_of (i := (55, 1, .aload_n 0, (0, 0, 0), 0)) (by decide +kernel)) (v := 164) rfl ?_
    refine am_e_getf (am_nxt_of (i := (56, 3, .getfield 94, (12, 53, 1437), 0)) (by decide +kernel)) q1 f53 ?_
    refine am_e_iconst (w := 4) (am_nxt_of (i := (59, 1, .iconst 4, (0, 0, 0), 0)) (by decide +kernel)) rfl ?_
    refine am_e_iload_n (am_nxt_of (i := (60, 1, .iload_n 1, (0, 0, 0), 0)) (by decide +kernel)) (v := 1) rfl ?_
    refine am_e_imul (am_nxt_of (i := (61, 1, .imul, (0, 0, 0), 0)) (by decide +kernel)) rfl ?_
    refine am_e_iload_n (am_nxt_of (i := (62, 1, .iload_n 3, (0, 0, 0), 0)) (by decide +kernel)) (v := k) rfl ?_
    refine am_e_iadd (am_nxt_of (i := (63, 1, .iadd, (0, 0, 0), 0)) (by decide +kernel)) rfl ?_
    refine am_e_aload_n (am_nxt_of (i := (64, 1, .aload_n 0, (0, 0, 0), 0)) (by decide +kernel)) (v := 164) rfl ?_
    refine am_e_getf (am_nxt_of (i := (65, 3, .getfield 94, (12, 53, 1437), 0)) (by decide +kernel)) q1 f53 ?_
    refine am_e_iconst (w := 4) (am_nxt_of (i := (68, 1, .iconst 4, (0, 0, 0), 0)) (by decide +kernel)) rfl ?_
    refine am_e_iload_n (am_nxt_of (i := (69, 1, .iload_n 2, (0, 0, 0), 0)) (by decide +kernel)) (v := 0) rfl ?_
    refine am_e_imul (am_nxt_of (i := (70, 1, .imul, (0, 0, 0), 0)) (by decide +kernel)) rfl ?_
    refine am_e_iload_n (am_nxt_of (i := (71, 1, .iload_n 3, (0, 0, 0), 0)) (by decide +kernel)) (v := k) rfl ?_
    refine am_e_iadd (am_nxt_of (i := (72, 1, .iadd, (0, 0, 0), 0)) (by decide +kernel)) rfl ?_
    refine am_e_iaload (am_nxt_of (i := (73, 1, .iaload, (0, 0, 0), 0)) (by decide +kernel)) k191 i0 rfl ev191 ?_
    refine am_e_iastore (am_nxt_of (i := (74, 1, .iastore, (0, 0, 0), 0)) (by decide +kernel)) k191 i1 rfl ?_
    have I191 := ab_arrUp (o := 191) (q := ((4 : Int32) * 1 + k).toNatClampNeg) (v := v191) hI (l := -2147483648) (u := 2147483647) (by decide +kernel) (by decide +kernel) a191 b191
    have k192 : am_ks0[192]? = some (.inr (.int, 16)) := by decide +kernel
    have f54 : (am_up (h) 191 ((4 : Int32) * 1 + k).toNatClampNeg (.int v191)) 164 54 = .ref 192 := ab_ref1 I191 q1 (by rw [z]; decide) (by decide +kernel)
    obtain ⟨v192, ev192, a192, b192⟩ := ab_arrI I191 k192 (l := -2147483648) (u := 2147483647) (by decide +kernel) (by decide +kernel) (Nat.lt_of_not_le (fun q => i0 (Or.inr q)))
    refine am_e_aload_n (am_nxt_of (i := (75, 1, .aload_n 0, (0, 0, 0), 0)) (by decide +kernel)) (v := 164) rfl ?_
    refine am_e_getf (am_nxt_of (i := (76, 3, .getfield 97, (12, 54, 1438), 0)) (by decide +kernel)) q1 f54 ?_
    refine am_e_iconst (w := 4) (am_nxt_of (i := (79, 1, .iconst 4, (0, 0, 0), 0)) (by decide +kernel)) rfl ?_
    refine am_e_iload_n (am_nxt_of (i := (80, 1, .iload_n 1, (0, 0, 0), 0)) (by decide +kernel)) (v := 1) rfl ?_
    refine am_e_imul (am_nxt_of (i := (81, 1, .imul, (0, 0, 0), 0)) (by decide +kernel)) rfl ?_
    refine am_e_iload_n (am_nxt_of (i := (82, 1, .iload_n 3, (0, 0, 0), 0)) (by decide +kernel)) (v := k) rfl ?_
    refine am_e_iadd (am_nxt_of (i := (83, 1, .iadd, (0, 0, 0), 0)) (by decide +kernel)) rfl ?_
    refine am_e_aload_n (am_nxt_of (i := (84, 1, .aload_n 0, (0, 0, 0), 0)) (by decide +kernel)) (v := 164) rfl ?_
    refine am_e_getf (am_nxt_of (i := (85, 3, .getfield 97, (12, 54, 1438), 0)) (by decide +kernel)) q1 f54 ?_
    refine am_e_iconst (w := 4) (am_nxt_of (i := (88, 1, .iconst 4, (0, 0, 0), 0)) (by decide +kernel)) rfl ?_
    refine am_e_iload_n (am_nxt_of (i := (89, 1, .iload_n 2, (0, 0, 0), 0)) (by decide +kernel)) (v := 0) rfl ?_
    refine am_e_imul (am_nxt_of (i := (90, 1, .imul, (0, 0, 0), 0)) (by decide +kernel)) rfl ?_
    refine am_e_iload_n (am_nxt_of (i := (91, 1, .iload_n 3, (0, 0, 0), 0)) (by decide +kernel)) (v := k) rfl ?_
    refine am_e_iadd (am_nxt_of (i := (92, 1, .iadd, (0, 0, 0), 0)) (by decide +kernel)) rfl ?_
    refine am_e_iaload (am_nxt_of (i := (93, 1, .iaload, (0, 0, 0), 0)) (by decide +kernel)) k192 i0 rfl ev192 ?_
    refine am_e_iastore (am_nxt_of (i := (94, 1, .iastore, (0, 0, 0), 0)) (by decide +kernel)) k192 i1 rfl ?_
    have I192 := ab_arrUp (o := 192) (q := ((4 : Int32) * 1 + k).toNatClampNeg) (v := v192) I191 (l := -2147483648) (u := 2147483647) (by decide +kernel) (by decide +kernel) a192 b192
    have k193 : am_ks0[193]? = some (.inr (.int, 16)) := by decide +kernel
    have f55 : (am_up ((am_up (h) 191 ((4 : Int32) * 1 + k).toNatClampNeg (.int v191))) 192 ((4 : Int32) * 1 + k).toNatClampNeg (.int v192)) 164 55 = .ref 193 := ab_ref1 I192 q1 (by rw [z]; decide) (by decide +kernel)
    obtain ⟨v193, ev193, a193, b193⟩ := ab_arrI I192 k193 (l := -2147483648) (u := 2147483647) (by decide +kernel) (by decide +kernel) (Nat.lt_of_not_le (fun q => i0 (Or.inr q)))
    refine am_e_aload_n (am_nxt_of (i := (95, 1, .aload_n 0, (0, 0, 0), 0)) (by decide +kernel)) (v := 164) rfl ?_
    refine am_e_getf (am_nxt_of (i := (96, 3, .getfield 100, (12, 55, 1439), 0)) (by decide +kernel)) q1 f55 ?_
    refine am_e_iconst (w := 4) (am_nxt_of (i := (99, 1, .iconst 4, (0, 0, 0), 0)) (by decide +kernel)) rfl ?_
    refine am_e_iload_n (am_nxt_of (i := (100, 1, .iload_n 1, (0, 0, 0), 0)) (by decide +kernel)) (v := 1) rfl ?_
    refine am_e_imul (am_nxt_of (i := (101, 1, .imul, (0, 0, 0), 0)) (by decide +kernel)) rfl ?_
    refine am_e_iload_n (am_nxt_of (i := (102, 1, .iload_n 3, (0, 0, 0), 0)) (by decide +kernel)) (v := k) rfl ?_
    refine am_e_iadd (am_nxt_of (i := (103, 1, .iadd, (0, 0, 0), 0)) (by decide +kernel)) rfl ?_
    refine am_e_aload_n (am_nxt_of (i := (104, 1, .aload_n 0, (0, 0, 0), 0)) (by decide +kernel)) (v := 164) rfl ?_
    refine am_e_getf (am_nxt_of (i := (105, 3, .getfield 100, (12, 55, 1439), 0)) (by decide +kernel)) q1 f55 ?_
    refine am_e_iconst (w := 4) (am_nxt_of (i := (108, 1, .iconst 4, (0, 0, 0), 0)) (by decide +kernel)) rfl ?_
    refine am_e_iload_n (am_nxt_of (i := (109, 1, .iload_n 2, (0, 0, 0), 0)) (by decide +kernel)) (v := 0) rfl ?_
    refine am_e_imul (am_nxt_of (i := (110, 1, .imul, (0, 0, 0), 0)) (by decide +kernel)) rfl ?_
    refine am_e_iload_n (am_nxt_of (i := (111, 1, .iload_n 3, (0, 0, 0), 0)) (by decide +kernel)) (v := k) rfl ?_
    refine am_e_iadd (am_nxt_of (i := (112, 1, .iadd, (0, 0, 0), 0)) (by decide +kernel)) rfl ?_
    refine am_e_iaload (am_nxt_of (i := (113, 1, .iaload, (0, 0, 0), 0)) (by decide +kernel)) k193 i0 rfl ev193 ?_
    refine am_e_iastore (am_nxt_of (i := (114, 1, .iastore, (0, 0, 0), 0)) (by decide +kernel)) k193 i1 rfl ?_
    have I193 := ab_arrUp (o := 193) (q := ((4 : Int32) * 1 + k).toNatClampNeg) (v := v193) I192 (l := -2147483648) (u := 2147483647) (by decide +kernel) (by decide +kernel) a193 b193
    refine am_e_iinc (am_nxt_of (i := (115, 3, .iinc 3 1, (0, 0, 0), 0)) (by decide +kernel)) (v := k) rfl (by decide +kernel) rfl rfl ?_
    refine am_e_goto (am_cur_of (i := (118, 3, .goto (-68), (34, 0, 0), 0)) (by decide +kernel)) (am_tgt_of (by decide +kernel)) ?_
    have e1 := ab_inc1 k0 (by omega)
    refine am_Ek_ls (ls' := [(0, .ref 164), (1, .int 1), (2, .int 0), (3, .int (k + Int32.ofInt 1))]) ⟨rfl, rfl, rfl, rfl, trivial⟩ ?_
    have hfr : ab_Fr ab_cbM h (am_up ((am_up ((am_up (h) 191 ((4 : Int32) * 1 + k).toNatClampNeg (.int v191))) 192 ((4 : Int32) * 1 + k).toNatClampNeg (.int v192))) 193 ((4 : Int32) * 1 + k).toNatClampNeg (.int v193)) := ab_Fr_up rfl (ab_Fr_up rfl (ab_Fr_up rfl ab_Fr_refl))
    exact ih _ _ (by omega) (by omega) ⟨I193, hJ h _ hfr hj, ab_Fr_trans hF hfr, hs⟩
theorem ab_copy10 (hJ : ∀ h h', ab_Fr ab_cbM h h' → J h → J h') {h : am_H} (hI : ab_Inv (ab_hi ab_tab) h) (hj : J h) (hs : h 189 0 = .int s) : am_Ek false am_G0 am_m197 0 (lv_args 0 [.ref 164, .int 1, .int 0]) [] am_ks0 h 0 0 (fun r ks h' => ks = am_ks0 ∧ r = none ∧ ab_Cb J h s h') := by
  have q1 : am_ks0[164]? = some (.inl 12) := by decide +kernel
  have z : ab_sz (.inl 12) = 81 := rfl
  have k188 : am_ks0[188]? = some (.inr (.int, 4)) := by decide +kernel
  have f50 : h 164 50 = .ref 188 := ab_ref1 hI q1 (by rw [z]; decide) (by decide +kernel)
  obtain ⟨v188, ev188, a188, b188⟩ := ab_arrI hI (q := 0) k188 (l := (-2147483648)) (u := 2147483647) (by decide +kernel) (by decide +kernel) (by decide)
  refine am_e_aload_n (am_nxt_of (i := (0, 1, .aload_n 0, (0, 0, 0), 0)) (by decide +kernel)) (v := 164) rfl ?_
  refine am_e_getf (am_nxt_of (i := (1, 3, .getfield 85, (12, 50, 1434), 0)) (by decide +kernel)) q1 f50 ?_
  refine am_e_iload_n (am_nxt_of (i := (4, 1, .iload_n 1, (0, 0, 0), 0)) (by decide +kernel)) (v := 1) rfl ?_
  refine am_e_aload_n (am_nxt_of (i := (5, 1, .aload_n 0, (0, 0, 0), 0)) (by decide +kernel)) (v := 164) rfl ?_
  refine am_e_getf (am_nxt_of (i := (6, 3, .getfield 85, (12, 50, 1434), 0)) (by decide +kernel)) q1 f50 ?_
  refine am_e_iload_n (am_nxt_of (i := (9, 1, .iload_n 2, (0, 0, 0), 0)) (by decide +kernel)) (v := 0) rfl ?_
  refine am_e_iaload (q := 0) (am_nxt_of (i := (10, 1, .iaload, (0, 0, 0), 0)) (by decide +kernel)) k188 (by decide) rfl ev188 ?_
  refine am_e_iastore (q := 1) (am_nxt_of (i := (11, 1, .iastore, (0, 0, 0), 0)) (by decide +kernel)) k188 (by decide) rfl ?_
  have I188 := ab_arrUp (o := 188) (q := 1) (v := v188) hI (l := (-2147483648)) (u := 2147483647) (by decide +kernel) (by decide +kernel) a188 b188
  have k189 : am_ks0[189]? = some (.inr (.int, 4)) := by decide +kernel
  have f51 : (am_up h 188 1 (.int v188)) 164 51 = .ref 189 := ab_ref1 I188 q1 (by rw [z]; decide) (by decide +kernel)
  obtain ⟨v189, ev189, a189, b189⟩ := ab_arrI I188 (q := 0) k189 (l := (-2147483648)) (u := 2147483647) (by decide +kernel) (by decide +kernel) (by decide)
  refine am_e_aload_n (am_nxt_of (i := (12, 1, .aload_n 0, (0, 0, 0), 0)) (by decide +kernel)) (v := 164) rfl ?_
  refine am_e_getf (am_nxt_of (i := (13, 3, .getfield 88, (12, 51, 1435), 0)) (by decide +kernel)) q1 f51 ?_
  refine am_e_iload_n (am_nxt_of (i := (16, 1, .iload_n 1, (0, 0, 0), 0)) (by decide +kernel)) (v := 1) rfl ?_
  refine am_e_aload_n (am_nxt_of (i := (17, 1, .aload_n 0, (0, 0, 0), 0)) (by decide +kernel)) (v := 164) rfl ?_
  refine am_e_getf (am_nxt_of (i := (18, 3, .getfield 88, (12, 51, 1435), 0)) (by decide +kernel)) q1 f51 ?_
  refine am_e_iload_n (am_nxt_of (i := (21, 1, .iload_n 2, (0, 0, 0), 0)) (by decide +kernel)) (v := 0) rfl ?_
  refine am_e_iaload (q := 0) (am_nxt_of (i := (22, 1, .iaload, (0, 0, 0), 0)) (by decide +kernel)) k189 (by decide) rfl ev189 ?_
  refine am_e_iastore (q := 1) (am_nxt_of (i := (23, 1, .iastore, (0, 0, 0), 0)) (by decide +kernel)) k189 (by decide) rfl ?_
  have I189 := ab_arrUp (o := 189) (q := 1) (v := v189) I188 (l := (-2147483648)) (u := 2147483647) (by decide +kernel) (by decide +kernel) a189 b189
  have k190 : am_ks0[190]? = some (.inr (.int, 4)) := by decide +kernel
  have f52 : (am_up (am_up h 188 1 (.int v188)) 189 1 (.int v189)) 164 52 = .ref 190 := ab_ref1 I189 q1 (by rw [z]; decide) (by decide +kernel)
  obtain ⟨v190, ev190, a190, b190⟩ := ab_arrI I189 (q := 0) k190 (l := (-2147483648)) (u := 2147483647) (by decide +kernel) (by decide +kernel) (by decide)
  refine am_e_aload_n (am_nxt_of (i := (24, 1, .aload_n 0, (0, 0, 0), 0)) (by decide +kernel)) (v := 164) rfl ?_
  refine am_e_getf (am_nxt_of (i := (25, 3, .getfield 91, (12, 52, 1436), 0)) (by decide +kernel)) q1 f52 ?_
  refine am_e_iload_n (am_nxt_of (i := (28, 1, .iload_n 1, (0, 0, 0), 0)) (by decide +kernel)) (v := 1) rfl ?_
  refine am_e_aload_n (am_nxt_of (i := (29, 1, .aload_n 0, (0, 0, 0), 0)) (by decide +kernel)) (v := 164) rfl ?_
  refine am_e_getf (am_nxt_of (i := (30, 3, .getfield 91, (12, 52, 1436), 0)) (by decide +kernel)) q1 f52 ?_
  refine am_e_iload_n (am_nxt_of (i := (33, 1, .iload_n 2, (0, 0, 0), 0)) (by decide +kernel)) (v := 0) rfl ?_
  refine am_e_iaload (q := 0) (am_nxt_of (i := (34, 1, .iaload, (0, 0, 0), 0)) (by decide +kernel)) k190 (by decide) rfl ev190 ?_
  refine am_e_iastore (q := 1) (am_nxt_of (i := (35, 1, .iastore, (0, 0, 0), 0)) (by decide +kernel)) k190 (by decide) rfl ?_
  have I190 := ab_arrUp (o := 190) (q := 1) (v := v190) I189 (l := (-2147483648)) (u := 2147483647) (by decide +kernel) (by decide +kernel) a190 b190
  have k194 : am_ks0[194]? = some (.inr (.int, 4)) := by decide +kernel
  have f56 : (am_up (am_up (am_up h 188 1 (.int v188)) 189 1 (.int v189)) 190 1 (.int v190)) 164 56 = .ref 194 := ab_ref1 I190 q1 (by rw [z]; decide) (by decide +kernel)
  obtain ⟨v194, ev194, a194, b194⟩ := ab_arrI I190 (q := 0) k194 (l := (-99999)) (u := 99999) (by decide +kernel) (by decide +kernel) (by decide)
  refine am_e_aload_n (am_nxt_of (i := (36, 1, .aload_n 0, (0, 0, 0), 0)) (by decide +kernel)) (v := 164) rfl ?_
  refine am_e_getf (am_nxt_of (i := (37, 3, .getfield 103, (12, 56, 1440), 0)) (by decide +kernel)) q1 f56 ?_
  refine am_e_iload_n (am_nxt_of (i := (40, 1, .iload_n 1, (0, 0, 0), 0)) (by decide +kernel)) (v := 1) rfl ?_
  refine am_e_aload_n (am_nxt_of (i := (41, 1, .aload_n 0, (0, 0, 0), 0)) (by decide +kernel)) (v := 164) rfl ?_
  refine am_e_getf (am_nxt_of (i := (42, 3, .getfield 103, (12, 56, 1440), 0)) (by decide +kernel)) q1 f56 ?_
  refine am_e_iload_n (am_nxt_of (i := (45, 1, .iload_n 2, (0, 0, 0), 0)) (by decide +kernel)) (v := 0) rfl ?_
  refine am_e_iaload (q := 0) (am_nxt_of (i := (46, 1, .iaload, (0, 0, 0), 0)) (by decide +kernel)) k194 (by decide) rfl ev194 ?_
  refine am_e_iastore (q := 1) (am_nxt_of (i := (47, 1, .iastore, (0, 0, 0), 0)) (by decide +kernel)) k194 (by decide) rfl ?_
  have I194 := ab_arrUp (o := 194) (q := 1) (v := v194) I190 (l := (-99999)) (u := 99999) (by decide +kernel) (by decide +kernel) a194 b194
  refine am_e_iconst (w := 0) (am_nxt_of (i := (48, 1, .iconst 0, (0, 0, 0), 0)) (by decide +kernel)) rfl ?_
  refine am_e_istore_n (am_nxt_of (i := (49, 1, .istore_n 3, (0, 0, 0), 0)) (by decide +kernel)) (by decide +kernel) rfl ?_
  refine am_Ek_ls (ls' := [(0, .ref 164), (1, .int 1), (2, .int 0), (3, .int 0)]) ⟨rfl, rfl, rfl, rfl, trivial⟩ ?_
  have hfr : ab_Fr ab_cbM h (am_up (am_up (am_up (am_up h 188 1 (.int v188)) 189 1 (.int v189)) 190 1 (.int v190)) 194 1 (.int v194)) := ab_Fr_up rfl (ab_Fr_up rfl (ab_Fr_up rfl (ab_Fr_up rfl ab_Fr_refl)))
  have es : v189 = s := by
    have e : h 189 0 = .int v189 := ev189
    rw [hs] at e
    cases e
    rfl
  subst es
  exact ab_cb_loop hJ 4 0 _ (by decide) (by decide) ⟨I194, hJ h _ hfr hj, hfr, rfl⟩
end ABCB
