/-! ===== THE MODEL'S token, all of it (wip/s/gen98.py) ===== -/
section ACU
variable {h0 : am_H} {n0 s : Int32}
theorem ac_Fr0 {h h' : am_H} (hf : ab_Fr [] h h') : h' = h := funext (fun o => funext (fun k => hf o k rfl))
theorem ac_tk_w {h : am_H} {n a : Int32} (hpk : ab_Con ab_tab (fun _ => True) ab_S_packed_x_x) (hM1 : ab_M1 h) (e0 : h0 164 7 = .int n0) (hT : ac_Tk h0 n0 s n h) (hn : n0.toInt < n.toInt) (ea : h 164 10 = .int a) (a0 : 0 ≤ a.toInt) (a1 : a.toInt ≤ 700) : am_Ek false am_G0 am_m151 56 [(0, .ref 164)] [] am_ks0 h 0 0 (ac_tkQ h0) := by
  obtain ⟨t5, t6, t7, t8⟩ := hT.2.2.2.2
  refine am_e_aload_n (am_nxt_of (i := (114, 1, .aload_n 0, (0, 0, 0), 0)) (by decide +kernel)) (v := 164) rfl ?_
  refine am_e_aload_n (am_nxt_of (i := (115, 1, .aload_n 0, (0, 0, 0), 0)) (by decide +kernel)) (v := 164) rfl ?_
  refine am_e_aload_n (am_nxt_of (i := (116, 1, .aload_n 0, (0, 0, 0), 0)) (by decide +kernel)) (v := 164) rfl ?_
  refine am_e_getf (v := .int a) (am_nxt_of (i := (117, 3, .getfield 148, (12, 10, 1394), 0)) (by decide +kernel)) ac_o ea ?_
  refine am_e_aload_n (am_nxt_of (i := (120, 1, .aload_n 0, (0, 0, 0), 0)) (by decide +kernel)) (v := 164) rfl ?_
  refine am_e_getf (v := .int n) (am_nxt_of (i := (121, 3, .getfield 154, (12, 7, 1391), 0)) (by decide +kernel)) ac_o hT.2.2.2.1 ?_
  refine am_e_callV (M' := am_m153) (o := 164) (ar := [.int n, .int a]) (rest := [.ref 164]) (L := lv_args 0 [.ref 164, .int a, .int n]) (am_nxt_of (i := (124, 3, .invokevirtual 164, (153, 1644, 3), 0)) (by decide +kernel)) rfl rfl rfl rfl ac_o rfl rfl rfl ?_
  refine am_Ev_mono (ab_wordAt hT.1 hM1 a0 a1 (by omega) (by omega)) (fun r ks h' hq => ?_)
  obtain ⟨rfl, rfl, x, rfl, x0, x1⟩ := hq
  show am_Ek false am_G0 am_m151 63 _ [.int x, .ref 164] _ _ _ _ _
  have I1 := ac_p9 (v := x) hT.1 (ab_32 x).1 (ab_32 x).2
  refine am_e_putf (am_nxt_of (i := (127, 3, .putfield 168, (12, 9, 1393), 0)) (by decide +kernel)) ac_o rfl ?_
  have T1 := ac_Tk_up (Or.inr (Or.inl rfl)) I1 hT
  have hend : ∀ k : Int32, 0 ≤ k.toInt → k.toInt ≤ 6 → (k.toInt = 1 → 0 ≤ x.toInt ∧ x.toInt ≤ 19) → ¬ k.toInt = 3 → ¬ k.toInt = 5 → am_Ek false am_G0 am_m151 80 [(0, .ref 164)] [.int k, .ref 164] am_ks0 (am_up h' 164 9 (.int x)) 0 0 (ac_tkQ h0) := by
    intro k k0 k6 k1 k3 k5
    have I2 := ac_p8 (v := k) I1 k0 (by omega)
    refine am_e_putf (am_nxt_of (i := (162, 3, .putfield 157, (12, 8, 1392), 0)) (by decide +kernel)) ac_o rfl ?_
    have T2 := ac_Tk_up (Or.inl rfl) I2 T1
    refine am_e_aload_n (am_nxt_of (i := (165, 1, .aload_n 0, (0, 0, 0), 0)) (by decide +kernel)) (v := 164) rfl ?_
    refine am_e_getf (v := .int k) (am_nxt_of (i := (166, 3, .getfield 157, (12, 8, 1392), 0)) (by decide +kernel)) ac_o rfl ?_
    refine am_e_iconst (w := 2) (am_nxt_of (i := (169, 1, .iconst 2, (0, 0, 0), 0)) (by decide +kernel)) rfl ?_
    by_cases hk2 : (k : Int32) = 2
    · refine am_e_cmpF (am_nxt_of (i := (170, 3, .if_icmp .ne 111, (140, 0, 0), 0)) (by decide +kernel)) (am_c_neF hk2) ?_
      refine am_e_aload_n (am_nxt_of (i := (173, 1, .aload_n 0, (0, 0, 0), 0)) (by decide +kernel)) (v := 164) rfl ?_
      refine am_e_aload_n (am_nxt_of (i := (174, 1, .aload_n 0, (0, 0, 0), 0)) (by decide +kernel)) (v := 164) rfl ?_
      refine am_e_aload_n (am_nxt_of (i := (175, 1, .aload_n 0, (0, 0, 0), 0)) (by decide +kernel)) (v := 164) rfl ?_
      refine am_e_getf (v := .int a) (am_nxt_of (i := (176, 3, .getfield 148, (12, 10, 1394), 0)) (by decide +kernel)) ac_o ea ?_
      refine am_e_aload_n (am_nxt_of (i := (179, 1, .aload_n 0, (0, 0, 0), 0)) (by decide +kernel)) (v := 164) rfl ?_
      refine am_e_getf (v := .int n) (am_nxt_of (i := (180, 3, .getfield 154, (12, 7, 1391), 0)) (by decide +kernel)) ac_o T2.2.2.2.1 ?_
      refine am_e_callV (M' := am_m154) (o := 164) (ar := [.int n, .int a]) (rest := [.ref 164]) (L := lv_args 0 [.ref 164, .int a, .int n]) (am_nxt_of (i := (183, 3, .invokevirtual 171, (154, 1648, 3), 0)) (by decide +kernel)) rfl rfl rfl rfl ac_o rfl rfl rfl ?_
      obtain ⟨M2, hM2, -, hc⟩ := hpk
      cases hM2
      refine am_Ev_mono (hc [.ref 164, .int a, .int n] _ ⟨⟨164, rfl, List.mem_singleton.mpr rfl⟩, ab_i_ok a0 a1, ab_i_ok (by omega) (by omega), trivial⟩ I2 trivial (fun q hq => absurd hq List.not_mem_nil)) (fun r ks h3 hq => ?_)
      obtain ⟨rfl, -, -, hf, c, hcm, hg⟩ := hq
      have e3 := ac_Fr0 hf
      subst e3
      obtain ⟨y, rfl⟩ := ab_intC_ok (s := ab_S_packed_x_x) rfl ⟨c, hcm, hg.1⟩
      show am_Ek false am_G0 am_m151 92 _ [.int y, .ref 164] _ _ _ _ _
      have I3 := ac_p9 (v := y) I2 (ab_32 y).1 (ab_32 y).2
      refine am_e_putf (am_nxt_of (i := (186, 3, .putfield 168, (12, 9, 1393), 0)) (by decide +kernel)) ac_o rfl ?_
      refine am_e_goto (am_cur_of (i := (189, 3, .goto 92, (140, 0, 0), 0)) (by decide +kernel)) (am_tgt_of (by decide +kernel)) ?_
      exact am_e_vret (am_cur_of (i := (281, 1, .return_, (0, 0, 0), 0)) (by decide +kernel)) rfl rfl ⟨rfl, rfl, I3, ac_tk_of e0 (ac_Tk_up (Or.inr (Or.inl rfl)) I3 T2) (k := k) rfl (Or.inr hn) (w := y) rfl ⟨fun q => by rw [hk2] at q; exact absurd q (by decide), fun q => absurd q k3, fun q => absurd q k5⟩⟩
    · refine am_e_cmpT (am_nxt_of (i := (170, 3, .if_icmp .ne 111, (140, 0, 0), 0)) (by decide +kernel)) (am_c_neT hk2) (am_tgt_of (by decide +kernel)) ?_
      exact am_e_vret (am_cur_of (i := (281, 1, .return_, (0, 0, 0), 0)) (by decide +kernel)) rfl rfl ⟨rfl, rfl, I2, ac_tk_of e0 T2 (k := k) rfl (Or.inr hn) (w := x) rfl ⟨k1, fun q => absurd q k3, fun q => absurd q k5⟩⟩
  refine am_e_aload_n (am_nxt_of (i := (130, 1, .aload_n 0, (0, 0, 0), 0)) (by decide +kernel)) (v := 164) rfl ?_
  refine am_e_aload_n (am_nxt_of (i := (131, 1, .aload_n 0, (0, 0, 0), 0)) (by decide +kernel)) (v := 164) rfl ?_
  refine am_e_getf (v := .int x) (am_nxt_of (i := (132, 3, .getfield 168, (12, 9, 1393), 0)) (by decide +kernel)) ac_o rfl ?_
  by_cases hx : (x : Int32) < 0
  · refine am_e_ifT (am_nxt_of (i := (135, 3, .ifCond .lt 7, (70, 0, 0), 0)) (by decide +kernel)) (am_c_ltT hx) (am_tgt_of (by decide +kernel)) ?_
    refine am_e_aload_n (am_nxt_of (i := (142, 1, .aload_n 0, (0, 0, 0), 0)) (by decide +kernel)) (v := 164) rfl ?_
    refine am_e_getf (v := .int n) (am_nxt_of (i := (143, 3, .getfield 154, (12, 7, 1391), 0)) (by decide +kernel)) ac_o T1.2.2.2.1 ?_
    refine am_e_aload_n (am_nxt_of (i := (146, 1, .aload_n 0, (0, 0, 0), 0)) (by decide +kernel)) (v := 164) rfl ?_
    refine am_e_getf (v := .int a) (am_nxt_of (i := (147, 3, .getfield 148, (12, 10, 1394), 0)) (by decide +kernel)) ac_o ea ?_
    refine am_e_isub (w := n - a) (am_nxt_of (i := (150, 1, .isub, (0, 0, 0), 0)) (by decide +kernel)) rfl ?_
    refine am_e_bipush (w := 6) (am_nxt_of (i := (151, 2, .bipush 6, (0, 0, 0), 0)) (by decide +kernel)) (by decide) ?_
    by_cases h6 : (6 : Int32) < (n - a)
    · refine am_e_cmpF (am_nxt_of (i := (153, 3, .if_icmp .le 8, (79, 0, 0), 0)) (by decide +kernel)) (am_c_leF h6) ?_
      refine am_e_bipush (w := 6) (am_nxt_of (i := (156, 2, .bipush 6, (0, 0, 0), 0)) (by decide +kernel)) (by decide) ?_
      refine am_e_goto (am_cur_of (i := (158, 3, .goto 4, (80, 0, 0), 0)) (by decide +kernel)) (am_tgt_of (by decide +kernel)) ?_
      exact hend _ (by decide) (by decide) (fun q => absurd q (by decide)) (by decide) (by decide)
    · refine am_e_cmpT (am_nxt_of (i := (153, 3, .if_icmp .le 8, (79, 0, 0), 0)) (by decide +kernel)) (am_c_leT h6) (am_tgt_of (by decide +kernel)) ?_
      refine am_e_iconst (w := 2) (am_nxt_of (i := (161, 1, .iconst 2, (0, 0, 0), 0)) (by decide +kernel)) rfl ?_
      exact hend _ (by decide) (by decide) (fun q => absurd q (by decide)) (by decide) (by decide)
  · refine am_e_ifF (am_nxt_of (i := (135, 3, .ifCond .lt 7, (70, 0, 0), 0)) (by decide +kernel)) (am_c_ltF hx) ?_
    have hx0 := ac_nlt' hx
    refine am_e_iconst (w := 1) (am_nxt_of (i := (138, 1, .iconst 1, (0, 0, 0), 0)) (by decide +kernel)) rfl ?_
    refine am_e_goto (am_cur_of (i := (139, 3, .goto 23, (80, 0, 0), 0)) (by decide +kernel)) (am_tgt_of (by decide +kernel)) ?_
    exact hend _ (by decide) (by decide) (fun _ => ⟨hx0, x1⟩) (by decide) (by decide)
theorem ac_tk_B (hpk : ab_Con ab_tab (fun _ => True) ab_S_packed_x_x) (hM1 : ab_M1 h0) (e0 : h0 164 7 = .int n0) {a : Int32} (a0 : 0 ≤ a.toInt) (a1 : a.toInt ≤ 700) : ∀ (d : Nat) (n : Int32) (h : am_H), s.toInt - n.toInt = d → ac_Tk h0 n0 s n h → h 164 10 = .int a → (n0.toInt < n.toInt ∨ ac_P 97 122 s n h) → am_Ek false am_G0 am_m151 44 [(0, .ref 164)] [] am_ks0 h 0 0 (ac_tkQ h0) := by
  intro d
  induction d with
  | zero =>
    intro n h hd hT ea hP
    obtain ⟨t5, t6, t7, t8⟩ := hT.2.2.2.2
    refine am_e_aload_n (am_nxt_of (i := (90, 1, .aload_n 0, (0, 0, 0), 0)) (by decide +kernel)) (v := 164) rfl ?_
    refine am_e_aload_n (am_nxt_of (i := (91, 1, .aload_n 0, (0, 0, 0), 0)) (by decide +kernel)) (v := 164) rfl ?_
    refine am_e_getf (v := .int n) (am_nxt_of (i := (92, 3, .getfield 154, (12, 7, 1391), 0)) (by decide +kernel)) ac_o hT.2.2.2.1 ?_
    refine am_e_callV (M' := am_m152) (o := 164) (ar := [.int n]) (rest := []) (L := lv_args 0 [.ref 164, .int n]) (am_nxt_of (i := (95, 3, .invokevirtual 160, (152, 1640, 3), 0)) (by decide +kernel)) rfl rfl rfl rfl ac_o rfl rfl rfl ?_
    refine am_Ev_mono (ac_isSmall hT.1 hT.2.2.1 t8 (by omega)) (fun r ks h' hq => ?_)
    obtain ⟨rfl, rfl, ⟨rfl, hp⟩ | ⟨rfl, hp⟩⟩ := hq
    · show am_Ek false am_G0 am_m151 48 _ [.int 1] _ _ _ _ _
      exact absurd hp.1 (by omega)
    · show am_Ek false am_G0 am_m151 48 _ [.int 0] _ _ _ _ _
      refine am_e_ifT (am_nxt_of (i := (98, 3, .ifCond .eq 16, (56, 0, 0), 0)) (by decide +kernel)) (am_c_eqT rfl) (am_tgt_of (by decide +kernel)) ?_
      exact ac_tk_w hpk (ab_M1_fr (fun k => hT.2.1 166 k (by unfold ab_in; rfl)) hM1) e0 hT (hP.resolve_right hp) ea a0 a1
  | succ d ih =>
    intro n h hd hT ea hP
    obtain ⟨t5, t6, t7, t8⟩ := hT.2.2.2.2
    refine am_e_aload_n (am_nxt_of (i := (90, 1, .aload_n 0, (0, 0, 0), 0)) (by decide +kernel)) (v := 164) rfl ?_
    refine am_e_aload_n (am_nxt_of (i := (91, 1, .aload_n 0, (0, 0, 0), 0)) (by decide +kernel)) (v := 164) rfl ?_
    refine am_e_getf (v := .int n) (am_nxt_of (i := (92, 3, .getfield 154, (12, 7, 1391), 0)) (by decide +kernel)) ac_o hT.2.2.2.1 ?_
    refine am_e_callV (M' := am_m152) (o := 164) (ar := [.int n]) (rest := []) (L := lv_args 0 [.ref 164, .int n]) (am_nxt_of (i := (95, 3, .invokevirtual 160, (152, 1640, 3), 0)) (by decide +kernel)) rfl rfl rfl rfl ac_o rfl rfl rfl ?_
    refine am_Ev_mono (ac_isSmall hT.1 hT.2.2.1 t8 (by omega)) (fun r ks h' hq => ?_)
    obtain ⟨rfl, rfl, ⟨rfl, hp⟩ | ⟨rfl, hp⟩⟩ := hq
    · show am_Ek false am_G0 am_m151 48 _ [.int 1] _ _ _ _ _
      refine am_e_ifF (am_nxt_of (i := (98, 3, .ifCond .eq 16, (56, 0, 0), 0)) (by decide +kernel)) (am_c_eqF (by decide)) ?_
      refine am_e_aload_n (am_nxt_of (i := (101, 1, .aload_n 0, (0, 0, 0), 0)) (by decide +kernel)) (v := 164) rfl ?_
      refine am_e_dup (am_nxt_of (i := (102, 1, .dup, (0, 0, 0), 0)) (by decide +kernel)) rfl ?_
      refine am_e_getf (v := .int n) (am_nxt_of (i := (103, 3, .getfield 154, (12, 7, 1391), 0)) (by decide +kernel)) ac_o hT.2.2.2.1 ?_
      refine am_e_iconst (w := 1) (am_nxt_of (i := (106, 1, .iconst 1, (0, 0, 0), 0)) (by decide +kernel)) rfl ?_
      refine am_e_iadd (w := n + 1) (am_nxt_of (i := (107, 1, .iadd, (0, 0, 0), 0)) (by decide +kernel)) rfl ?_
      have T1 := ac_Tk_nx hT hp.1
      refine am_e_putf (am_nxt_of (i := (108, 3, .putfield 154, (12, 7, 1391), 0)) (by decide +kernel)) ac_o rfl ?_
      have e1 := ac_c1 (x := n) (by omega) (by omega)
      refine am_e_goto (am_cur_of (i := (111, 3, .goto (-21), (44, 0, 0), 0)) (by decide +kernel)) (am_tgt_of (by decide +kernel)) ?_
      exact ih (n + 1) _ (by omega) T1 (by rw [am_up_same _ _ _ _ _ (by decide)]; exact ea) (Or.inl (by omega))
    · show am_Ek false am_G0 am_m151 48 _ [.int 0] _ _ _ _ _
      refine am_e_ifT (am_nxt_of (i := (98, 3, .ifCond .eq 16, (56, 0, 0), 0)) (by decide +kernel)) (am_c_eqT rfl) (am_tgt_of (by decide +kernel)) ?_
      exact ac_tk_w hpk (ab_M1_fr (fun k => hT.2.1 166 k (by unfold ab_in; rfl)) hM1) e0 hT (hP.resolve_right hp) ea a0 a1
theorem ac_tk_C (e0 : h0 164 7 = .int n0) : ∀ (d : Nat) (n x : Int32) (h : am_H), s.toInt - n.toInt = d → ac_Tk h0 n0 s n h → h 164 8 = .int 3 → h 164 9 = .int x → 0 ≤ x.toInt → (n0.toInt < n.toInt ∨ ac_P 48 57 s n h) → am_Ek false am_G0 am_m151 105 [(0, .ref 164)] [] am_ks0 h 0 0 (ac_tkQ h0) := by
  intro d
  induction d with
  | zero =>
    intro n x h hd hT ek ex x0 hP
    obtain ⟨t5, t6, t7, t8⟩ := hT.2.2.2.2
    refine am_e_aload_n (am_nxt_of (i := (213, 1, .aload_n 0, (0, 0, 0), 0)) (by decide +kernel)) (v := 164) rfl ?_
    refine am_e_aload_n (am_nxt_of (i := (214, 1, .aload_n 0, (0, 0, 0), 0)) (by decide +kernel)) (v := 164) rfl ?_
    refine am_e_getf (v := .int n) (am_nxt_of (i := (215, 3, .getfield 154, (12, 7, 1391), 0)) (by decide +kernel)) ac_o hT.2.2.2.1 ?_
    refine am_e_callV (M' := am_m155) (o := 164) (ar := [.int n]) (rest := []) (L := lv_args 0 [.ref 164, .int n]) (am_nxt_of (i := (218, 3, .invokevirtual 174, (155, 1652, 3), 0)) (by decide +kernel)) rfl rfl rfl rfl ac_o rfl rfl rfl ?_
    refine am_Ev_mono (ac_isDigit hT.1 hT.2.2.1 t8 (by omega)) (fun r ks h' hq => ?_)
    obtain ⟨rfl, rfl, ⟨rfl, hp⟩ | ⟨rfl, hp⟩⟩ := hq
    · show am_Ek false am_G0 am_m151 109 _ [.int 1] _ _ _ _ _
      exact absurd hp.1 (by omega)
    · show am_Ek false am_G0 am_m151 109 _ [.int 0] _ _ _ _ _
      refine am_e_ifT (am_nxt_of (i := (221, 3, .ifCond .eq 60, (140, 0, 0), 0)) (by decide +kernel)) (am_c_eqT rfl) (am_tgt_of (by decide +kernel)) ?_
      exact am_e_vret (am_cur_of (i := (281, 1, .return_, (0, 0, 0), 0)) (by decide +kernel)) rfl rfl ⟨rfl, rfl, hT.1, ac_tk_of e0 hT ek (Or.inr (hP.resolve_right hp)) ex ⟨fun q => absurd q (by decide), fun _ => x0, fun q => absurd q (by decide)⟩⟩
  | succ d ih =>
    intro n x h hd hT ek ex x0 hP
    obtain ⟨t5, t6, t7, t8⟩ := hT.2.2.2.2
    refine am_e_aload_n (am_nxt_of (i := (213, 1, .aload_n 0, (0, 0, 0), 0)) (by decide +kernel)) (v := 164) rfl ?_
    refine am_e_aload_n (am_nxt_of (i := (214, 1, .aload_n 0, (0, 0, 0), 0)) (by decide +kernel)) (v := 164) rfl ?_
    refine am_e_getf (v := .int n) (am_nxt_of (i := (215, 3, .getfield 154, (12, 7, 1391), 0)) (by decide +kernel)) ac_o hT.2.2.2.1 ?_
    refine am_e_callV (M' := am_m155) (o := 164) (ar := [.int n]) (rest := []) (L := lv_args 0 [.ref 164, .int n]) (am_nxt_of (i := (218, 3, .invokevirtual 174, (155, 1652, 3), 0)) (by decide +kernel)) rfl rfl rfl rfl ac_o rfl rfl rfl ?_
    refine am_Ev_mono (ac_isDigit hT.1 hT.2.2.1 t8 (by omega)) (fun r ks h' hq => ?_)
    obtain ⟨rfl, rfl, ⟨rfl, hp⟩ | ⟨rfl, hp⟩⟩ := hq
    · show am_Ek false am_G0 am_m151 109 _ [.int 1] _ _ _ _ _
      have hgo : ∀ y : Int32, 0 ≤ y.toInt → am_Ek false am_G0 am_m151 130 [(0, .ref 164)] [.int y, .ref 164] am_ks0 h' 0 0 (ac_tkQ h0) := by
        intro y y0
        have I1 := ac_p9 (v := y) hT.1 (ab_32 y).1 (ab_32 y).2
        refine am_e_putf (am_nxt_of (i := (261, 3, .putfield 168, (12, 9, 1393), 0)) (by decide +kernel)) ac_o rfl ?_
        have T1 := ac_Tk_up (Or.inr (Or.inl rfl)) I1 hT
        refine am_e_aload_n (am_nxt_of (i := (264, 1, .aload_n 0, (0, 0, 0), 0)) (by decide +kernel)) (v := 164) rfl ?_
        refine am_e_dup (am_nxt_of (i := (265, 1, .dup, (0, 0, 0), 0)) (by decide +kernel)) rfl ?_
        refine am_e_getf (v := .int n) (am_nxt_of (i := (266, 3, .getfield 154, (12, 7, 1391), 0)) (by decide +kernel)) ac_o T1.2.2.2.1 ?_
        refine am_e_iconst (w := 1) (am_nxt_of (i := (269, 1, .iconst 1, (0, 0, 0), 0)) (by decide +kernel)) rfl ?_
        refine am_e_iadd (w := n + 1) (am_nxt_of (i := (270, 1, .iadd, (0, 0, 0), 0)) (by decide +kernel)) rfl ?_
        have T2 := ac_Tk_nx T1 hp.1
        refine am_e_putf (am_nxt_of (i := (271, 3, .putfield 154, (12, 7, 1391), 0)) (by decide +kernel)) ac_o rfl ?_
        have e1 := ac_c1 (x := n) (by omega) (by omega)
        refine am_e_goto (am_cur_of (i := (274, 3, .goto (-61), (105, 0, 0), 0)) (by decide +kernel)) (am_tgt_of (by decide +kernel)) ?_
        exact ih (n + 1) y _ (by omega) T2 (by rw [am_up_same _ _ _ _ _ (by decide), am_up_same _ _ _ _ _ (by decide)]; exact ek) (by rw [am_up_same _ _ _ _ _ (by decide)]; exact am_up_self _ _ _ _) y0 (Or.inl (by omega))
      refine am_e_ifF (am_nxt_of (i := (221, 3, .ifCond .eq 60, (140, 0, 0), 0)) (by decide +kernel)) (am_c_eqF (by decide)) ?_
      refine am_e_aload_n (am_nxt_of (i := (224, 1, .aload_n 0, (0, 0, 0), 0)) (by decide +kernel)) (v := 164) rfl ?_
      refine am_e_aload_n (am_nxt_of (i := (225, 1, .aload_n 0, (0, 0, 0), 0)) (by decide +kernel)) (v := 164) rfl ?_
      refine am_e_getf (v := .int x) (am_nxt_of (i := (226, 3, .getfield 168, (12, 9, 1393), 0)) (by decide +kernel)) ac_o ex ?_
      refine am_e_ldc (w := 99999) (am_nxt_of (i := (229, 2, .ldc 177, (0, 0, 1656), 99999)) (by decide +kernel)) (by decide) ?_
      by_cases h9 : (99999 : Int32) < x
      · refine am_e_cmpF (am_nxt_of (i := (231, 3, .if_icmp .le 10, (118, 0, 0), 0)) (by decide +kernel)) (am_c_leF h9) ?_
        refine am_e_aload_n (am_nxt_of (i := (234, 1, .aload_n 0, (0, 0, 0), 0)) (by decide +kernel)) (v := 164) rfl ?_
        refine am_e_getf (v := .int x) (am_nxt_of (i := (235, 3, .getfield 168, (12, 9, 1393), 0)) (by decide +kernel)) ac_o ex ?_
        refine am_e_goto (am_cur_of (i := (238, 3, .goto 23, (130, 0, 0), 0)) (by decide +kernel)) (am_tgt_of (by decide +kernel)) ?_
        exact hgo _ x0
      · refine am_e_cmpT (am_nxt_of (i := (231, 3, .if_icmp .le 10, (118, 0, 0), 0)) (by decide +kernel)) (am_c_leT h9) (am_tgt_of (by decide +kernel)) ?_
        obtain ⟨hl, v, ev, v48, v57⟩ := hp
        have x9 := ac_nlt' h9
        have c9 : (99999 : Int32).toInt = 99999 := by decide
        have c48 : (48 : Int32).toInt = 48 := by decide
        have c57 : (57 : Int32).toInt = 57 := by decide
        have c10 : ((10 : Int32) * x).toInt = 10 * x.toInt := by
          rw [Int32.toInt_mul, show (10 : Int32).toInt = 10 by decide]
          exact ab_bm (by omega) (by omega)
        have v48 := ac_nlt' v48
        have v57 := ac_nlt' v57
        have ey : ((10 : Int32) * x + v - 48).toInt = 10 * x.toInt + v.toInt - 48 := by
          rw [ab_isub (by rw [ab_iadd (by omega) (by omega)]; omega) (by rw [ab_iadd (by omega) (by omega)]; omega), ab_iadd (by omega) (by omega)]
          omega
        have hix := ab_ix (x := n) (n := 700) (by omega) (by omega)
        refine am_e_bipush (w := 10) (am_nxt_of (i := (241, 2, .bipush 10, (0, 0, 0), 0)) (by decide +kernel)) (by decide) ?_
        refine am_e_aload_n (am_nxt_of (i := (243, 1, .aload_n 0, (0, 0, 0), 0)) (by decide +kernel)) (v := 164) rfl ?_
        refine am_e_getf (v := .int x) (am_nxt_of (i := (244, 3, .getfield 168, (12, 9, 1393), 0)) (by decide +kernel)) ac_o ex ?_
        refine am_e_imul (w := 10 * x) (am_nxt_of (i := (247, 1, .imul, (0, 0, 0), 0)) (by decide +kernel)) rfl ?_
        refine am_e_aload_n (am_nxt_of (i := (248, 1, .aload_n 0, (0, 0, 0), 0)) (by decide +kernel)) (v := 164) rfl ?_
        refine am_e_getf (am_nxt_of (i := (249, 3, .getfield 7, (12, 0, 1384), 0)) (by decide +kernel)) ac_o (ac_f0 hT.1) ?_
        refine am_e_aload_n (am_nxt_of (i := (252, 1, .aload_n 0, (0, 0, 0), 0)) (by decide +kernel)) (v := 164) rfl ?_
        refine am_e_getf (v := .int n) (am_nxt_of (i := (253, 3, .getfield 154, (12, 7, 1391), 0)) (by decide +kernel)) ac_o hT.2.2.2.1 ?_
        refine am_e_iaload (v := v) (am_nxt_of (i := (256, 1, .iaload, (0, 0, 0), 0)) (by decide +kernel)) ac_k165 hix rfl ev ?_
        refine am_e_iadd (w := (10 * x) + v) (am_nxt_of (i := (257, 1, .iadd, (0, 0, 0), 0)) (by decide +kernel)) rfl ?_
        refine am_e_bipush (w := 48) (am_nxt_of (i := (258, 2, .bipush 48, (0, 0, 0), 0)) (by decide +kernel)) (by decide) ?_
        refine am_e_isub (w := ((10 * x) + v) - 48) (am_nxt_of (i := (260, 1, .isub, (0, 0, 0), 0)) (by decide +kernel)) rfl ?_
        exact hgo _ (by rw [ey]; omega)
    · show am_Ek false am_G0 am_m151 109 _ [.int 0] _ _ _ _ _
      refine am_e_ifT (am_nxt_of (i := (221, 3, .ifCond .eq 60, (140, 0, 0), 0)) (by decide +kernel)) (am_c_eqT rfl) (am_tgt_of (by decide +kernel)) ?_
      exact am_e_vret (am_cur_of (i := (281, 1, .return_, (0, 0, 0), 0)) (by decide +kernel)) rfl rfl ⟨rfl, rfl, hT.1, ac_tk_of e0 hT ek (Or.inr (hP.resolve_right hp)) ex ⟨fun q => absurd q (by decide), fun _ => x0, fun q => absurd q (by decide)⟩⟩
theorem ac_tk_D (hpk : ab_Con ab_tab (fun _ => True) ab_S_packed_x_x) (hM1 : ab_M1 h0) (e0 : h0 164 7 = .int n0) {n : Int32} {h : am_H} (hT : ac_Tk h0 n0 s n h) : am_Ek false am_G0 am_m151 26 [(0, .ref 164)] [] am_ks0 h 0 0 (ac_tkQ h0) := by
  obtain ⟨t5, t6, t7, t8⟩ := hT.2.2.2.2
  have I1 := ac_p10 (v := n) hT.1 (by omega) (by omega)
  refine am_e_aload_n (am_nxt_of (i := (52, 1, .aload_n 0, (0, 0, 0), 0)) (by decide +kernel)) (v := 164) rfl ?_
  refine am_e_aload_n (am_nxt_of (i := (53, 1, .aload_n 0, (0, 0, 0), 0)) (by decide +kernel)) (v := 164) rfl ?_
  refine am_e_getf (v := .int n) (am_nxt_of (i := (54, 3, .getfield 154, (12, 7, 1391), 0)) (by decide +kernel)) ac_o hT.2.2.2.1 ?_
  refine am_e_putf (am_nxt_of (i := (57, 3, .putfield 148, (12, 10, 1394), 0)) (by decide +kernel)) ac_o rfl ?_
  have T1 := ac_Tk_up (Or.inr (Or.inr rfl)) I1 hT
  refine am_e_aload_n (am_nxt_of (i := (60, 1, .aload_n 0, (0, 0, 0), 0)) (by decide +kernel)) (v := 164) rfl ?_
  refine am_e_getf (v := .int n) (am_nxt_of (i := (61, 3, .getfield 154, (12, 7, 1391), 0)) (by decide +kernel)) ac_o T1.2.2.2.1 ?_
  refine am_e_aload_n (am_nxt_of (i := (64, 1, .aload_n 0, (0, 0, 0), 0)) (by decide +kernel)) (v := 164) rfl ?_
  refine am_e_getf (v := .int s) (am_nxt_of (i := (65, 3, .getfield 151, (12, 6, 1390), 0)) (by decide +kernel)) ac_o T1.2.2.1 ?_
  by_cases hs : (n : Int32) = s
  · refine am_e_cmpF (am_nxt_of (i := (68, 3, .if_icmp .ne 11, (39, 0, 0), 0)) (by decide +kernel)) (am_c_neF hs) ?_
    obtain ⟨w0, ew0, -⟩ := ac_g9 hT.1
    refine am_e_aload_n (am_nxt_of (i := (71, 1, .aload_n 0, (0, 0, 0), 0)) (by decide +kernel)) (v := 164) rfl ?_
    refine am_e_iconst (w := 0) (am_nxt_of (i := (72, 1, .iconst 0, (0, 0, 0), 0)) (by decide +kernel)) rfl ?_
    have I2 := ac_p8 (v := 0) I1 (by decide) (by decide)
    refine am_e_putf (am_nxt_of (i := (73, 3, .putfield 157, (12, 8, 1392), 0)) (by decide +kernel)) ac_o rfl ?_
    refine am_e_goto (am_cur_of (i := (76, 3, .goto 205, (140, 0, 0), 0)) (by decide +kernel)) (am_tgt_of (by decide +kernel)) ?_
    exact am_e_vret (am_cur_of (i := (281, 1, .return_, (0, 0, 0), 0)) (by decide +kernel)) rfl rfl ⟨rfl, rfl, I2, ac_tk_of e0 (ac_Tk_up (Or.inl rfl) I2 T1) (k := 0) rfl (Or.inl ⟨by decide, by rw [hs]⟩) (w := w0) ew0 ⟨fun q => absurd q (by decide), fun q => absurd q (by decide), fun q => absurd q (by decide)⟩⟩
  · refine am_e_cmpT (am_nxt_of (i := (68, 3, .if_icmp .ne 11, (39, 0, 0), 0)) (by decide +kernel)) (am_c_neT hs) (am_tgt_of (by decide +kernel)) ?_
    have hs' := ac_ne' hs
    have hlt : n.toInt < s.toInt := by omega
    refine am_e_aload_n (am_nxt_of (i := (79, 1, .aload_n 0, (0, 0, 0), 0)) (by decide +kernel)) (v := 164) rfl ?_
    refine am_e_aload_n (am_nxt_of (i := (80, 1, .aload_n 0, (0, 0, 0), 0)) (by decide +kernel)) (v := 164) rfl ?_
    refine am_e_getf (v := .int n) (am_nxt_of (i := (81, 3, .getfield 154, (12, 7, 1391), 0)) (by decide +kernel)) ac_o T1.2.2.2.1 ?_
    refine am_e_callV (M' := am_m152) (o := 164) (ar := [.int n]) (rest := []) (L := lv_args 0 [.ref 164, .int n]) (am_nxt_of (i := (84, 3, .invokevirtual 160, (152, 1640, 3), 0)) (by decide +kernel)) rfl rfl rfl rfl ac_o rfl rfl rfl ?_
    refine am_Ev_mono (ac_isSmall T1.1 T1.2.2.1 t8 (by omega)) (fun r ks h' hq => ?_)
    obtain ⟨rfl, rfl, ⟨rfl, hp⟩ | ⟨rfl, hp⟩⟩ := hq
    · show am_Ek false am_G0 am_m151 43 _ [.int 1] _ _ _ _ _
      refine am_e_ifF (am_nxt_of (i := (87, 3, .ifCond .eq 105, (94, 0, 0), 0)) (by decide +kernel)) (am_c_eqF (by decide)) ?_
      exact ac_tk_B hpk hM1 e0 (a := n) (by omega) (by omega) (s.toInt - n.toInt).toNat n _ (by omega) T1 (am_up_self _ _ _ _) (Or.inr hp)
    · show am_Ek false am_G0 am_m151 43 _ [.int 0] _ _ _ _ _
      refine am_e_ifT (am_nxt_of (i := (87, 3, .ifCond .eq 105, (94, 0, 0), 0)) (by decide +kernel)) (am_c_eqT rfl) (am_tgt_of (by decide +kernel)) ?_
      refine am_e_aload_n (am_nxt_of (i := (192, 1, .aload_n 0, (0, 0, 0), 0)) (by decide +kernel)) (v := 164) rfl ?_
      refine am_e_aload_n (am_nxt_of (i := (193, 1, .aload_n 0, (0, 0, 0), 0)) (by decide +kernel)) (v := 164) rfl ?_
      refine am_e_getf (v := .int n) (am_nxt_of (i := (194, 3, .getfield 154, (12, 7, 1391), 0)) (by decide +kernel)) ac_o T1.2.2.2.1 ?_
      refine am_e_callV (M' := am_m155) (o := 164) (ar := [.int n]) (rest := []) (L := lv_args 0 [.ref 164, .int n]) (am_nxt_of (i := (197, 3, .invokevirtual 174, (155, 1652, 3), 0)) (by decide +kernel)) rfl rfl rfl rfl ac_o rfl rfl rfl ?_
      refine am_Ev_mono (ac_isDigit T1.1 T1.2.2.1 t8 (by omega)) (fun r ks h' hq => ?_)
      obtain ⟨rfl, rfl, ⟨rfl, hp⟩ | ⟨rfl, hp⟩⟩ := hq
      · show am_Ek false am_G0 am_m151 98 _ [.int 1] _ _ _ _ _
        refine am_e_ifF (am_nxt_of (i := (200, 3, .ifCond .eq 77, (138, 0, 0), 0)) (by decide +kernel)) (am_c_eqF (by decide)) ?_
        refine am_e_aload_n (am_nxt_of (i := (203, 1, .aload_n 0, (0, 0, 0), 0)) (by decide +kernel)) (v := 164) rfl ?_
        refine am_e_iconst (w := 3) (am_nxt_of (i := (204, 1, .iconst 3, (0, 0, 0), 0)) (by decide +kernel)) rfl ?_
        have I2 := ac_p8 (v := 3) I1 (by decide) (by decide)
        refine am_e_putf (am_nxt_of (i := (205, 3, .putfield 157, (12, 8, 1392), 0)) (by decide +kernel)) ac_o rfl ?_
        have T2 := ac_Tk_up (Or.inl rfl) I2 T1
        refine am_e_aload_n (am_nxt_of (i := (208, 1, .aload_n 0, (0, 0, 0), 0)) (by decide +kernel)) (v := 164) rfl ?_
        refine am_e_iconst (w := 0) (am_nxt_of (i := (209, 1, .iconst 0, (0, 0, 0), 0)) (by decide +kernel)) rfl ?_
        have I3 := ac_p9 (v := 0) I2 (by decide) (by decide)
        refine am_e_putf (am_nxt_of (i := (210, 3, .putfield 168, (12, 9, 1393), 0)) (by decide +kernel)) ac_o rfl ?_
        have T3 := ac_Tk_up (Or.inr (Or.inl rfl)) I3 T2
        exact ac_tk_C e0 (s.toInt - n.toInt).toNat n 0 _ (by omega) T3 rfl rfl (by decide) (Or.inr ⟨hp.1, hp.2⟩)
      · show am_Ek false am_G0 am_m151 98 _ [.int 0] _ _ _ _ _
        refine am_e_ifT (am_nxt_of (i := (200, 3, .ifCond .eq 77, (138, 0, 0), 0)) (by decide +kernel)) (am_c_eqT rfl) (am_tgt_of (by decide +kernel)) ?_
        refine am_e_aload_n (am_nxt_of (i := (277, 1, .aload_n 0, (0, 0, 0), 0)) (by decide +kernel)) (v := 164) rfl ?_
        refine am_e_callV (M' := am_m156) (o := 164) (ar := []) (rest := []) (L := lv_args 0 [.ref 164]) (am_nxt_of (i := (278, 3, .invokevirtual 178, (156, 1657, 3), 0)) (by decide +kernel)) rfl rfl rfl rfl ac_o rfl rfl rfl ?_
        refine am_Ev_mono (ac_signToken e0 T1 hlt) (fun r ks h' hq => ?_)
        obtain ⟨rfl, rfl, q3, q4⟩ := hq
        show am_Ek false am_G0 am_m151 140 _ [] _ _ _ _ _
        exact am_e_vret (am_cur_of (i := (281, 1, .return_, (0, 0, 0), 0)) (by decide +kernel)) rfl rfl ⟨rfl, rfl, q3, q4⟩
theorem ac_tk_A (hpk : ab_Con ab_tab (fun _ => True) ab_S_packed_x_x) (hM1 : ab_M1 h0) (e0 : h0 164 7 = .int n0) : ∀ (d : Nat) (n : Int32) (h : am_H), s.toInt - n.toInt = d → ac_Tk h0 n0 s n h → am_Ek false am_G0 am_m151 0 [(0, .ref 164)] [] am_ks0 h 0 0 (ac_tkQ h0) := by
  intro d
  induction d with
  | zero =>
    intro n h hd hT
    obtain ⟨t5, t6, t7, t8⟩ := hT.2.2.2.2
    refine am_e_aload_n (am_nxt_of (i := (0, 1, .aload_n 0, (0, 0, 0), 0)) (by decide +kernel)) (v := 164) rfl ?_
    refine am_e_getf (v := .int n) (am_nxt_of (i := (1, 3, .getfield 154, (12, 7, 1391), 0)) (by decide +kernel)) ac_o hT.2.2.2.1 ?_
    refine am_e_aload_n (am_nxt_of (i := (4, 1, .aload_n 0, (0, 0, 0), 0)) (by decide +kernel)) (v := 164) rfl ?_
    refine am_e_getf (v := .int s) (am_nxt_of (i := (5, 3, .getfield 151, (12, 6, 1390), 0)) (by decide +kernel)) ac_o hT.2.2.1 ?_
    refine am_e_cmpT (am_nxt_of (i := (8, 3, .if_icmp .ge 44, (26, 0, 0), 0)) (by decide +kernel)) (am_c_geT (ac_nlt (by omega))) (am_tgt_of (by decide +kernel)) ?_
    exact ac_tk_D hpk hM1 e0 hT
  | succ d ih =>
    intro n h hd hT
    obtain ⟨t5, t6, t7, t8⟩ := hT.2.2.2.2
    refine am_e_aload_n (am_nxt_of (i := (0, 1, .aload_n 0, (0, 0, 0), 0)) (by decide +kernel)) (v := 164) rfl ?_
    refine am_e_getf (v := .int n) (am_nxt_of (i := (1, 3, .getfield 154, (12, 7, 1391), 0)) (by decide +kernel)) ac_o hT.2.2.2.1 ?_
    refine am_e_aload_n (am_nxt_of (i := (4, 1, .aload_n 0, (0, 0, 0), 0)) (by decide +kernel)) (v := 164) rfl ?_
    refine am_e_getf (v := .int s) (am_nxt_of (i := (5, 3, .getfield 151, (12, 6, 1390), 0)) (by decide +kernel)) ac_o hT.2.2.1 ?_
    refine am_e_cmpF (am_nxt_of (i := (8, 3, .if_icmp .ge 44, (26, 0, 0), 0)) (by decide +kernel)) (am_c_geF (ac_lt (by omega))) ?_
    have hix := ab_ix (x := n) (n := 700) (by omega) (by omega)
    obtain ⟨v, ev, -⟩ := ac_r165 hT.1 (q := n.toNatClampNeg) (Nat.lt_of_not_le (fun q => hix (Or.inr q)))
    have hin : am_Ek false am_G0 am_m151 19 [(0, .ref 164)] [] am_ks0 h 0 0 (ac_tkQ h0) := by
      refine am_e_aload_n (am_nxt_of (i := (39, 1, .aload_n 0, (0, 0, 0), 0)) (by decide +kernel)) (v := 164) rfl ?_
      refine am_e_dup (am_nxt_of (i := (40, 1, .dup, (0, 0, 0), 0)) (by decide +kernel)) rfl ?_
      refine am_e_getf (v := .int n) (am_nxt_of (i := (41, 3, .getfield 154, (12, 7, 1391), 0)) (by decide +kernel)) ac_o hT.2.2.2.1 ?_
      refine am_e_iconst (w := 1) (am_nxt_of (i := (44, 1, .iconst 1, (0, 0, 0), 0)) (by decide +kernel)) rfl ?_
      refine am_e_iadd (w := n + 1) (am_nxt_of (i := (45, 1, .iadd, (0, 0, 0), 0)) (by decide +kernel)) rfl ?_
      have T1 := ac_Tk_nx hT (by omega)
      refine am_e_putf (am_nxt_of (i := (46, 3, .putfield 154, (12, 7, 1391), 0)) (by decide +kernel)) ac_o rfl ?_
      have e1 := ac_c1 (x := n) (by omega) (by omega)
      refine am_e_goto (am_cur_of (i := (49, 3, .goto (-49), (0, 0, 0), 0)) (by decide +kernel)) (am_tgt_of (by decide +kernel)) ?_
      exact ih (n + 1) _ (by omega) T1
    refine am_e_aload_n (am_nxt_of (i := (11, 1, .aload_n 0, (0, 0, 0), 0)) (by decide +kernel)) (v := 164) rfl ?_
    refine am_e_getf (am_nxt_of (i := (12, 3, .getfield 7, (12, 0, 1384), 0)) (by decide +kernel)) ac_o (ac_f0 hT.1) ?_
    refine am_e_aload_n (am_nxt_of (i := (15, 1, .aload_n 0, (0, 0, 0), 0)) (by decide +kernel)) (v := 164) rfl ?_
    refine am_e_getf (v := .int n) (am_nxt_of (i := (16, 3, .getfield 154, (12, 7, 1391), 0)) (by decide +kernel)) ac_o hT.2.2.2.1 ?_
    refine am_e_iaload (v := v) (am_nxt_of (i := (19, 1, .iaload, (0, 0, 0), 0)) (by decide +kernel)) ac_k165 hix rfl ev ?_
    refine am_e_bipush (w := 10) (am_nxt_of (i := (20, 2, .bipush 10, (0, 0, 0), 0)) (by decide +kernel)) (by decide) ?_
    by_cases h10 : (v : Int32) = 10
    · refine am_e_cmpT (am_nxt_of (i := (22, 3, .if_icmp .eq 17, (19, 0, 0), 0)) (by decide +kernel)) (am_c_eqT h10) (am_tgt_of (by decide +kernel)) ?_
      exact hin
    · refine am_e_cmpF (am_nxt_of (i := (22, 3, .if_icmp .eq 17, (19, 0, 0), 0)) (by decide +kernel)) (am_c_eqF h10) ?_
      refine am_e_aload_n (am_nxt_of (i := (25, 1, .aload_n 0, (0, 0, 0), 0)) (by decide +kernel)) (v := 164) rfl ?_
      refine am_e_getf (am_nxt_of (i := (26, 3, .getfield 7, (12, 0, 1384), 0)) (by decide +kernel)) ac_o (ac_f0 hT.1) ?_
      refine am_e_aload_n (am_nxt_of (i := (29, 1, .aload_n 0, (0, 0, 0), 0)) (by decide +kernel)) (v := 164) rfl ?_
      refine am_e_getf (v := .int n) (am_nxt_of (i := (30, 3, .getfield 154, (12, 7, 1391), 0)) (by decide +kernel)) ac_o hT.2.2.2.1 ?_
      refine am_e_iaload (v := v) (am_nxt_of (i := (33, 1, .iaload, (0, 0, 0), 0)) (by decide +kernel)) ac_k165 hix rfl ev ?_
      refine am_e_bipush (w := 32) (am_nxt_of (i := (34, 2, .bipush 32, (0, 0, 0), 0)) (by decide +kernel)) (by decide) ?_
      by_cases h32 : (v : Int32) = 32
      · refine am_e_cmpF (am_nxt_of (i := (36, 3, .if_icmp .ne 16, (26, 0, 0), 0)) (by decide +kernel)) (am_c_neF h32) ?_
        exact hin
      · refine am_e_cmpT (am_nxt_of (i := (36, 3, .if_icmp .ne 16, (26, 0, 0), 0)) (by decide +kernel)) (am_c_neT h32) (am_tgt_of (by decide +kernel)) ?_
        exact ac_tk_D hpk hM1 e0 hT
theorem ac_token {h : am_H} (hpk : ab_Con ab_tab (fun _ => True) ab_S_packed_x_x) (hI : ab_Inv (ab_hi ab_tab) h) (hM1 : ab_M1 h) (hN : ac_Np h) : am_Ek false am_G0 am_m151 0 (lv_args 0 [.ref 164]) [] am_ks0 h 0 0 (ac_tkQ h) := by
  obtain ⟨n, s, en, es, hns⟩ := hN
  obtain ⟨n', en', n0, n1⟩ := ac_g7 hI
  obtain ⟨s', es', s0, s1⟩ := ac_g6 hI
  rw [en] at en'
  rw [es] at es'
  cases en'
  cases es'
  exact ac_tk_A hpk hM1 en (s.toInt - n.toInt).toNat n h (by omega) ⟨hI, ab_Fr_refl, es, en, by omega, hns, n0, s1⟩
end ACU
