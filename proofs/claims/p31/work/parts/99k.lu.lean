/-! ===== THE MODEL'S layUps, isBlower, up, upAt, cheapest (wip/s/gen99k.py) ===== -/
abbrev ac_lu : List (Nat × Nat) := [(164, 50), (164, 70), (164, 71), (186, 1), (186, 2), (186, 3), (186, 4), (186, 5), (186, 6), (187, 0), (188, 0), (189, 2), (189, 4), (190, 0), (191, 0), (192, 0), (193, 0), (194, 0)]
section ACL
variable {X : am_H → Prop}
theorem ac_sa {s e z : Int32} : s + e - z = s - z + e := by
  rw [Int32.sub_eq_add_neg, Int32.sub_eq_add_neg, Int32.add_assoc, Int32.add_comm e, Int32.add_assoc]
abbrev ac_luQ (X : am_H → Prop) (h0 : am_H) : Option Value → List am_k → am_H → Prop := fun r ks h' => ks = am_ks0 ∧ r = none ∧ ab_Inv (ab_hi ab_tab) h' ∧ ac_JX X h' ∧ ab_Fr ac_lu h0 h'
theorem ac_lu_l (hX : ac_XF X) (hS : ac_SC (ac_JX X)) {h0 : am_H} {k n bd wt b s0 : Int32} (k0 : 0 ≤ k.toInt) (k3 : k.toInt ≤ 3) (n9 : n.toInt ≤ 3600) (eb0 : h0 164 12 = .int b) (hkb : k.toInt < b.toInt) (es0 : h0 189 0 = .int s0) : ∀ (d : Nat) (y s : Int32) (h : am_H), 20000 - (s - s0).toInt ≤ d → 0 ≤ (s - s0).toInt → (s - s0).toInt ≤ 19000 → (y = 0 ∨ y = 1) → ab_Inv (ab_hi ab_tab) h → ac_JX X h → ab_Fr ac_lu h0 h → h 189 1 = .int s → am_Ek false am_G0 am_m228 20 [(0, .ref 164), (1, .int k), (2, .int n), (3, .int bd), (4, .int wt), (5, .int y)] [] am_ks0 h 0 0 (ac_luQ X h0) := by
  have hend : ∀ (y : Int32) (h : am_H), (y = 0 ∨ y = 1) → ab_Inv (ab_hi ab_tab) h → ac_JX X h → ab_Fr ac_lu h0 h → am_Ek false am_G0 am_m228 111 [(0, .ref 164), (1, .int k), (2, .int n), (3, .int bd), (4, .int wt), (5, .int y)] [] am_ks0 h 0 0 (ac_luQ X h0) := by
    intro y h hy hI hj hF
    refine am_e_iload (am_nxt_of (i := (188, 2, .iload 5, (0, 0, 0), 0)) (by decide +kernel)) (v := y) rfl ?_
    by_cases hy0 : (y : Int32) = 0
    · refine am_e_ifF (am_nxt_of (i := (190, 3, .ifCond .ne 9, (116, 0, 0), 0)) (by decide +kernel)) (am_c_neF hy0) ?_
      have I2 := ac_p69 (v := -2) hI (by decide) (by decide)
      refine am_e_aload_n (am_nxt_of (i := (193, 1, .aload_n 0, (0, 0, 0), 0)) (by decide +kernel)) (v := 164) rfl ?_
      refine am_e_bipush (w := (-2)) (am_nxt_of (i := (194, 2, .bipush (-2), (0, 0, 0), 0)) (by decide +kernel)) (by decide) ?_
      refine am_e_putf (am_nxt_of (i := (196, 3, .putfield 492, (12, 69, 1453), 0)) (by decide +kernel)) ac_o rfl ?_
      exact am_e_vret (am_cur_of (i := (199, 1, .return_, (0, 0, 0), 0)) (by decide +kernel)) rfl rfl ⟨rfl, rfl, I2, ac_JX_fr hX (md := [(164, 70)]) rfl _ _ (ab_Fr_up rfl ab_Fr_refl) hj, ab_Fr_up rfl hF⟩
    · refine am_e_ifT (am_nxt_of (i := (190, 3, .ifCond .ne 9, (116, 0, 0), 0)) (by decide +kernel)) (am_c_neT hy0) (am_tgt_of (by decide +kernel)) ?_
      exact am_e_vret (am_cur_of (i := (199, 1, .return_, (0, 0, 0), 0)) (by decide +kernel)) rfl rfl ⟨rfl, rfl, hI, hj, hF⟩
  intro d
  induction d with
  | zero =>
    intro y s h hd D0 D1
    omega
  | succ d ih =>
    intro y s h hd D0 D1 hy hI hj hF hs
    have es : h 189 0 = .int s0 := (hF 189 0 rfl).trans es0
    refine am_e_iload (am_nxt_of (i := (34, 2, .iload 5, (0, 0, 0), 0)) (by decide +kernel)) (v := y) rfl ?_
    by_cases hy0 : (y : Int32) = 0
    · refine am_e_ifT (am_nxt_of (i := (36, 3, .ifCond .eq 152, (111, 0, 0), 0)) (by decide +kernel)) (am_c_eqT hy0) (am_tgt_of (by decide +kernel)) ?_
      exact hend y h hy hI hj hF
    · refine am_e_ifF (am_nxt_of (i := (36, 3, .ifCond .eq 152, (111, 0, 0), 0)) (by decide +kernel)) (am_c_eqF hy0) ?_
      refine am_e_aload_n (am_nxt_of (i := (39, 1, .aload_n 0, (0, 0, 0), 0)) (by decide +kernel)) (v := 164) rfl ?_
      refine am_e_getf (am_nxt_of (i := (40, 3, .getfield 88, (12, 51, 1435), 0)) (by decide +kernel)) ac_o (ac_f51 hI) ?_
      refine am_e_iconst (w := 1) (am_nxt_of (i := (43, 1, .iconst 1, (0, 0, 0), 0)) (by decide +kernel)) rfl ?_
      refine am_e_iaload (v := s) (q := 1) (am_nxt_of (i := (44, 1, .iaload, (0, 0, 0), 0)) (by decide +kernel)) ac_k189 (by decide) (by decide) hs ?_
      refine am_e_aload_n (am_nxt_of (i := (45, 1, .aload_n 0, (0, 0, 0), 0)) (by decide +kernel)) (v := 164) rfl ?_
      refine am_e_getf (am_nxt_of (i := (46, 3, .getfield 88, (12, 51, 1435), 0)) (by decide +kernel)) ac_o (ac_f51 hI) ?_
      refine am_e_iconst (w := 0) (am_nxt_of (i := (49, 1, .iconst 0, (0, 0, 0), 0)) (by decide +kernel)) rfl ?_
      refine am_e_iaload (v := s0) (q := 0) (am_nxt_of (i := (50, 1, .iaload, (0, 0, 0), 0)) (by decide +kernel)) ac_k189 (by decide) (by decide) es ?_
      refine am_e_isub (w := s - s0) (am_nxt_of (i := (51, 1, .isub, (0, 0, 0), 0)) (by decide +kernel)) rfl ?_
      refine am_e_iload_n (am_nxt_of (i := (52, 1, .iload_n 2, (0, 0, 0), 0)) (by decide +kernel)) (v := n) rfl ?_
      by_cases hlt : (s - s0 : Int32) < n
      · refine am_e_cmpF (am_nxt_of (i := (53, 3, .if_icmp .ge 135, (111, 0, 0), 0)) (by decide +kernel)) (am_c_geF hlt) ?_
        have hD := ac_lt' hlt
        have hups : ∀ (z : Int32) (g : am_H), ab_Inv (ab_hi ab_tab) g → ac_JX X g → ab_Fr ac_lu h0 g → g 189 1 = .int s → am_Ek false am_G0 am_m228 98 [(0, .ref 164), (1, .int k), (2, .int n), (3, .int bd), (4, .int wt), (5, .int y), (6, .int z)] [] am_ks0 g 0 0 (ac_luQ X h0) := by
          intro z g gI gj gF gs
          obtain ⟨u, eu, u_0, u_1⟩ := ac_g69 gI
          have I2 := ac_p69 (v := u + 1) gI (ab_32 _).1 (ab_32 _).2
          have J2 := ac_JX_fr hX (md := [(164, 70)]) rfl _ (am_up g 164 69 (.int (u + 1))) (ab_Fr_up rfl ab_Fr_refl) gj
          have F2 : ab_Fr ac_lu h0 (am_up g 164 69 (.int (u + 1))) := ab_Fr_up rfl gF
          refine am_e_aload_n (am_nxt_of (i := (166, 1, .aload_n 0, (0, 0, 0), 0)) (by decide +kernel)) (v := 164) rfl ?_
          refine am_e_dup (am_nxt_of (i := (167, 1, .dup, (0, 0, 0), 0)) (by decide +kernel)) rfl ?_
          refine am_e_getf (v := .int u) (am_nxt_of (i := (168, 3, .getfield 492, (12, 69, 1453), 0)) (by decide +kernel)) ac_o eu ?_
          refine am_e_iconst (w := 1) (am_nxt_of (i := (171, 1, .iconst 1, (0, 0, 0), 0)) (by decide +kernel)) rfl ?_
          refine am_e_iadd (w := u + 1) (am_nxt_of (i := (172, 1, .iadd, (0, 0, 0), 0)) (by decide +kernel)) rfl ?_
          refine am_e_putf (am_nxt_of (i := (173, 3, .putfield 492, (12, 69, 1453), 0)) (by decide +kernel)) ac_o rfl ?_
          refine am_e_aload_n (am_nxt_of (i := (176, 1, .aload_n 0, (0, 0, 0), 0)) (by decide +kernel)) (v := 164) rfl ?_
          refine am_e_iconst (w := 1) (am_nxt_of (i := (177, 1, .iconst 1, (0, 0, 0), 0)) (by decide +kernel)) rfl ?_
          refine am_e_iload_n (am_nxt_of (i := (178, 1, .iload_n 1, (0, 0, 0), 0)) (by decide +kernel)) (v := k) rfl ?_
          refine am_e_iload_n (am_nxt_of (i := (179, 1, .iload_n 3, (0, 0, 0), 0)) (by decide +kernel)) (v := bd) rfl ?_
          refine am_e_callV (M' := am_m229) (o := 164) (ar := [.int bd, .int k, .int 1]) (rest := []) (L := lv_args 0 [.ref 164, .int 1, .int k, .int bd]) (am_nxt_of (i := (180, 3, .invokevirtual 498, (229, 1946, 3), 0)) (by decide +kernel)) rfl rfl rfl rfl ac_o rfl rfl rfl ?_
          refine am_Ev_mono (ac_getsUp1 hX hS k0 k3 ((F2 164 12 rfl).trans eb0) hkb I2 J2 (s := s) gs) (fun r ks h3 hq => ?_)
          obtain ⟨rfl, hr, I3, J3, F3, e, es3, el, eh⟩ := hq
          have ea : (s + e - s0).toInt = (s - s0).toInt + e.toInt := by rw [ac_sa, ab_iadd (by omega) (by omega)]
          have F4 := ab_Fr_trans F2 (ab_mdle_Fr (md' := ac_lu) (by decide) F3)
          rcases hr with rfl | rfl
          · show am_Ek false am_G0 am_m228 109 _ [.int 0] _ _ _ _ _
            refine am_e_istore (ls' := [(5, .int 0), (0, .ref 164), (1, .int k), (2, .int n), (3, .int bd), (4, .int wt), (6, .int z)]) (am_nxt_of (i := (183, 2, .istore 5, (0, 0, 0), 0)) (by decide +kernel)) (by decide +kernel) rfl ?_
            refine am_e_goto (am_cur_of (i := (185, 3, .goto (-151), (20, 0, 0), 0)) (by decide +kernel)) (am_tgt_of (by decide +kernel)) ?_
            refine am_Ek_ls (ls' := [(0, .ref 164), (1, .int k), (2, .int n), (3, .int bd), (4, .int wt), (5, .int 0)]) ⟨rfl, rfl, rfl, rfl, rfl, rfl, trivial⟩ ?_
            exact ih _ (s + e) h3 (by omega) (by omega) (by omega) (Or.inl rfl) I3 J3 F4 es3
          · show am_Ek false am_G0 am_m228 109 _ [.int 1] _ _ _ _ _
            refine am_e_istore (ls' := [(5, .int 1), (0, .ref 164), (1, .int k), (2, .int n), (3, .int bd), (4, .int wt), (6, .int z)]) (am_nxt_of (i := (183, 2, .istore 5, (0, 0, 0), 0)) (by decide +kernel)) (by decide +kernel) rfl ?_
            refine am_e_goto (am_cur_of (i := (185, 3, .goto (-151), (20, 0, 0), 0)) (by decide +kernel)) (am_tgt_of (by decide +kernel)) ?_
            refine am_Ek_ls (ls' := [(0, .ref 164), (1, .int k), (2, .int n), (3, .int bd), (4, .int wt), (5, .int 1)]) ⟨rfl, rfl, rfl, rfl, rfl, rfl, trivial⟩ ?_
            exact ih _ (s + e) h3 (by omega) (by omega) (by omega) (Or.inr rfl) I3 J3 F4 es3
        have hnow : ∀ (z : Int32) (g : am_H), ab_Inv (ab_hi ab_tab) g → ac_JX X g → ab_Fr ac_lu h0 g → g 189 1 = .int s → am_Ek false am_G0 am_m228 75 [(0, .ref 164), (1, .int k), (2, .int n), (3, .int bd), (4, .int wt), (5, .int y), (6, .int z)] [] am_ks0 g 0 0 (ac_luQ X h0) := by
          intro z g gI gj gF gs
          refine am_e_iload (am_nxt_of (i := (125, 2, .iload 6, (0, 0, 0), 0)) (by decide +kernel)) (v := z) rfl ?_
          by_cases hz0 : (z : Int32) = 0
          · refine am_e_ifF (am_nxt_of (i := (127, 3, .ifCond .ne 13, (83, 0, 0), 0)) (by decide +kernel)) (am_c_neF hz0) ?_
            refine am_e_aload_n (am_nxt_of (i := (130, 1, .aload_n 0, (0, 0, 0), 0)) (by decide +kernel)) (v := 164) rfl ?_
            refine am_e_iconst (w := 1) (am_nxt_of (i := (131, 1, .iconst 1, (0, 0, 0), 0)) (by decide +kernel)) rfl ?_
            refine am_e_iconst (w := 0) (am_nxt_of (i := (132, 1, .iconst 0, (0, 0, 0), 0)) (by decide +kernel)) rfl ?_
            refine am_e_iconst (w := 0) (am_nxt_of (i := (133, 1, .iconst 0, (0, 0, 0), 0)) (by decide +kernel)) rfl ?_
            refine am_e_callV (M' := am_m199) (o := 164) (ar := [.int 0, .int 0, .int 1]) (rest := []) (L := lv_args 0 [.ref 164, .int 1, .int 0, .int 0]) (am_nxt_of (i := (134, 3, .invokevirtual 434, (199, 1828, 3), 0)) (by decide +kernel)) rfl rfl rfl rfl ac_o rfl rfl rfl ?_
            refine am_Ev_mono (ac_aSec1 hX hS (o := 0) (p := 0) gI gj (by decide) (by decide) (by decide) (by decide) gs) (fun r ks h3 hq => ?_)
            obtain ⟨rfl, rfl, I3, J3, F3, es3⟩ := hq
            have ea : (s + 1 - s0).toInt = (s - s0).toInt + (1 : Int32).toInt := by rw [ac_sa, ab_iadd (by rw [show (1 : Int32).toInt = 1 by decide]; omega) (by rw [show (1 : Int32).toInt = 1 by decide]; omega)]
            rw [show (1 : Int32).toInt = 1 by decide] at ea
            show am_Ek false am_G0 am_m228 82 _ [] _ _ _ _ _
            refine am_e_goto (am_cur_of (i := (137, 3, .goto (-103), (20, 0, 0), 0)) (by decide +kernel)) (am_tgt_of (by decide +kernel)) ?_
            refine am_Ek_ls (ls' := [(0, .ref 164), (1, .int k), (2, .int n), (3, .int bd), (4, .int wt), (5, .int y)]) ⟨rfl, rfl, rfl, rfl, rfl, rfl, trivial⟩ ?_
            exact ih _ (s + 1) h3 (by omega) (by omega) (by omega) hy I3 J3 (ab_Fr_trans gF (ab_mdle_Fr (by decide) F3)) es3
          · refine am_e_ifT (am_nxt_of (i := (127, 3, .ifCond .ne 13, (83, 0, 0), 0)) (by decide +kernel)) (am_c_neT hz0) (am_tgt_of (by decide +kernel)) ?_
            obtain ⟨u, eu, u_0, u_1⟩ := ac_g69 gI
            refine am_e_aload_n (am_nxt_of (i := (140, 1, .aload_n 0, (0, 0, 0), 0)) (by decide +kernel)) (v := 164) rfl ?_
            refine am_e_getf (v := .int u) (am_nxt_of (i := (141, 3, .getfield 492, (12, 69, 1453), 0)) (by decide +kernel)) ac_o eu ?_
            refine am_e_iload (am_nxt_of (i := (144, 2, .iload 4, (0, 0, 0), 0)) (by decide +kernel)) (v := wt) rfl ?_
            by_cases huw : (u : Int32) = wt
            · refine am_e_cmpF (am_nxt_of (i := (146, 3, .if_icmp .ne 20, (98, 0, 0), 0)) (by decide +kernel)) (am_c_neF huw) ?_
              have ges : g 189 0 = .int s0 := (gF 189 0 rfl).trans es0
              have I2 := ac_p70 (v := s - s0) gI (ab_32 _).1 (ab_32 _).2
              have J2 := ac_JX_fr hX (md := [(164, 71)]) rfl _ (am_up g 164 70 (.int (s - s0))) (ab_Fr_up rfl ab_Fr_refl) gj
              refine am_e_aload_n (am_nxt_of (i := (149, 1, .aload_n 0, (0, 0, 0), 0)) (by decide +kernel)) (v := 164) rfl ?_
              refine am_e_aload_n (am_nxt_of (i := (150, 1, .aload_n 0, (0, 0, 0), 0)) (by decide +kernel)) (v := 164) rfl ?_
              refine am_e_getf (am_nxt_of (i := (151, 3, .getfield 88, (12, 51, 1435), 0)) (by decide +kernel)) ac_o (ac_f51 gI) ?_
              refine am_e_iconst (w := 1) (am_nxt_of (i := (154, 1, .iconst 1, (0, 0, 0), 0)) (by decide +kernel)) rfl ?_
              refine am_e_iaload (v := s) (q := 1) (am_nxt_of (i := (155, 1, .iaload, (0, 0, 0), 0)) (by decide +kernel)) ac_k189 (by decide) (by decide) gs ?_
              refine am_e_aload_n (am_nxt_of (i := (156, 1, .aload_n 0, (0, 0, 0), 0)) (by decide +kernel)) (v := 164) rfl ?_
              refine am_e_getf (am_nxt_of (i := (157, 3, .getfield 88, (12, 51, 1435), 0)) (by decide +kernel)) ac_o (ac_f51 gI) ?_
              refine am_e_iconst (w := 0) (am_nxt_of (i := (160, 1, .iconst 0, (0, 0, 0), 0)) (by decide +kernel)) rfl ?_
              refine am_e_iaload (v := s0) (q := 0) (am_nxt_of (i := (161, 1, .iaload, (0, 0, 0), 0)) (by decide +kernel)) ac_k189 (by decide) (by decide) ges ?_
              refine am_e_isub (w := s - s0) (am_nxt_of (i := (162, 1, .isub, (0, 0, 0), 0)) (by decide +kernel)) rfl ?_
              refine am_e_putf (am_nxt_of (i := (163, 3, .putfield 495, (12, 70, 1454), 0)) (by decide +kernel)) ac_o rfl ?_
              refine am_Ek_ls (ls' := [(0, .ref 164), (1, .int k), (2, .int n), (3, .int bd), (4, .int wt), (5, .int y), (6, .int z)]) ⟨rfl, rfl, rfl, rfl, rfl, rfl, rfl, trivial⟩ ?_
              exact hups z _ I2 J2 (ab_Fr_up rfl gF) gs
            · refine am_e_cmpT (am_nxt_of (i := (146, 3, .if_icmp .ne 20, (98, 0, 0), 0)) (by decide +kernel)) (am_c_neT huw) (am_tgt_of (by decide +kernel)) ?_
              refine am_Ek_ls (ls' := [(0, .ref 164), (1, .int k), (2, .int n), (3, .int bd), (4, .int wt), (5, .int y), (6, .int z)]) ⟨rfl, rfl, rfl, rfl, rfl, rfl, rfl, trivial⟩ ?_
              exact hups z g gI gj gF gs
        refine am_e_aload_n (am_nxt_of (i := (56, 1, .aload_n 0, (0, 0, 0), 0)) (by decide +kernel)) (v := 164) rfl ?_
        refine am_e_iconst (w := 3) (am_nxt_of (i := (57, 1, .iconst 3, (0, 0, 0), 0)) (by decide +kernel)) rfl ?_
        refine am_e_iconst (w := 1) (am_nxt_of (i := (58, 1, .iconst 1, (0, 0, 0), 0)) (by decide +kernel)) rfl ?_
        refine am_e_callV (M' := am_m197) (o := 164) (ar := [.int 1, .int 3]) (rest := []) (L := lv_args 0 [.ref 164, .int 3, .int 1]) (am_nxt_of (i := (59, 3, .invokevirtual 428, (197, 1820, 3), 0)) (by decide +kernel)) rfl rfl rfl rfl ac_o rfl rfl rfl ?_
        refine am_Ev_mono (ac_copy31 hX hI hj) (fun r ks h1 hq => ?_)
        obtain ⟨rfl, rfl, I1, J1, f1⟩ := hq
        have F1 := ab_Fr_trans hF (ab_mdle_Fr (md' := ac_lu) (by decide) f1)
        obtain ⟨s3, es3, -⟩ := ac_r189 I1 (q := 3) (by decide)
        show am_Ek false am_G0 am_m228 37 _ [] _ _ _ _ _
        refine am_e_aload_n (am_nxt_of (i := (62, 1, .aload_n 0, (0, 0, 0), 0)) (by decide +kernel)) (v := 164) rfl ?_
        refine am_e_iconst (w := 3) (am_nxt_of (i := (63, 1, .iconst 3, (0, 0, 0), 0)) (by decide +kernel)) rfl ?_
        refine am_e_iconst (w := 0) (am_nxt_of (i := (64, 1, .iconst 0, (0, 0, 0), 0)) (by decide +kernel)) rfl ?_
        refine am_e_iconst (w := 0) (am_nxt_of (i := (65, 1, .iconst 0, (0, 0, 0), 0)) (by decide +kernel)) rfl ?_
        refine am_e_callV (M' := am_m199) (o := 164) (ar := [.int 0, .int 0, .int 3]) (rest := []) (L := lv_args 0 [.ref 164, .int 3, .int 0, .int 0]) (am_nxt_of (i := (66, 3, .invokevirtual 434, (199, 1828, 3), 0)) (by decide +kernel)) rfl rfl rfl rfl ac_o rfl rfl rfl ?_
        refine am_Ev_mono (ac_aSec3 hX hS (o := 0) (p := 0) I1 J1 (by decide) (by decide) (by decide) (by decide) es3) (fun r ks h2 hq => ?_)
        obtain ⟨rfl, rfl, I2, J2, f2, es4⟩ := hq
        have F2 := ab_Fr_trans F1 (ab_mdle_Fr (md' := ac_lu) (by decide) f2)
        have hs2 : h2 189 1 = .int s := ((f2 189 1 rfl).trans (f1 189 1 rfl)).trans hs
        have es2 : h2 189 0 = .int s0 := (F2 189 0 rfl).trans es0
        obtain ⟨fu3, efu3, -⟩ := ac_r188 I2 (q := 3) (by decide)
        show am_Ek false am_G0 am_m228 42 _ [] _ _ _ _ _
        refine am_e_aload_n (am_nxt_of (i := (69, 1, .aload_n 0, (0, 0, 0), 0)) (by decide +kernel)) (v := 164) rfl ?_
        refine am_e_getf (am_nxt_of (i := (70, 3, .getfield 85, (12, 50, 1434), 0)) (by decide +kernel)) ac_o (ac_f50 I2) ?_
        refine am_e_iconst (w := 3) (am_nxt_of (i := (73, 1, .iconst 3, (0, 0, 0), 0)) (by decide +kernel)) rfl ?_
        refine am_e_iaload (v := fu3) (q := 3) (am_nxt_of (i := (74, 1, .iaload, (0, 0, 0), 0)) (by decide +kernel)) ac_k188 (by decide) (by decide) efu3 ?_
        refine am_e_iload_n (am_nxt_of (i := (75, 1, .iload_n 3, (0, 0, 0), 0)) (by decide +kernel)) (v := bd) rfl ?_
        by_cases hfu3 : (fu3 : Int32) < bd
        · refine am_e_cmpF (am_nxt_of (i := (76, 3, .if_icmp .ge 7, (50, 0, 0), 0)) (by decide +kernel)) (am_c_geF hfu3) ?_
          refine am_e_iconst (w := 1) (am_nxt_of (i := (79, 1, .iconst 1, (0, 0, 0), 0)) (by decide +kernel)) rfl ?_
          refine am_e_goto (am_cur_of (i := (80, 3, .goto 4, (51, 0, 0), 0)) (by decide +kernel)) (am_tgt_of (by decide +kernel)) ?_
          refine am_e_istore (ls' := [(6, .int 1), (0, .ref 164), (1, .int k), (2, .int n), (3, .int bd), (4, .int wt), (5, .int y)]) (am_nxt_of (i := (84, 2, .istore 6, (0, 0, 0), 0)) (by decide +kernel)) (by decide +kernel) rfl ?_
          refine am_e_iload (am_nxt_of (i := (86, 2, .iload 6, (0, 0, 0), 0)) (by decide +kernel)) (v := 1) rfl ?_
          refine am_e_ifT (am_nxt_of (i := (88, 3, .ifCond .ne 37, (75, 0, 0), 0)) (by decide +kernel)) (am_c_neT (by decide)) (am_tgt_of (by decide +kernel)) ?_
          refine am_Ek_ls (ls' := [(0, .ref 164), (1, .int k), (2, .int n), (3, .int bd), (4, .int wt), (5, .int y), (6, .int 1)]) ⟨rfl, rfl, rfl, rfl, rfl, rfl, rfl, trivial⟩ ?_
          exact hnow _ h2 I2 J2 F2 hs2
        · refine am_e_cmpT (am_nxt_of (i := (76, 3, .if_icmp .ge 7, (50, 0, 0), 0)) (by decide +kernel)) (am_c_geT hfu3) (am_tgt_of (by decide +kernel)) ?_
          refine am_e_iconst (w := 0) (am_nxt_of (i := (83, 1, .iconst 0, (0, 0, 0), 0)) (by decide +kernel)) rfl ?_
          refine am_e_istore (ls' := [(6, .int 0), (0, .ref 164), (1, .int k), (2, .int n), (3, .int bd), (4, .int wt), (5, .int y)]) (am_nxt_of (i := (84, 2, .istore 6, (0, 0, 0), 0)) (by decide +kernel)) (by decide +kernel) rfl ?_
          refine am_e_iload (am_nxt_of (i := (86, 2, .iload 6, (0, 0, 0), 0)) (by decide +kernel)) (v := 0) rfl ?_
          refine am_e_ifF (am_nxt_of (i := (88, 3, .ifCond .ne 37, (75, 0, 0), 0)) (by decide +kernel)) (am_c_neF rfl) ?_
          refine am_e_aload_n (am_nxt_of (i := (91, 1, .aload_n 0, (0, 0, 0), 0)) (by decide +kernel)) (v := 164) rfl ?_
          refine am_e_getf (am_nxt_of (i := (92, 3, .getfield 88, (12, 51, 1435), 0)) (by decide +kernel)) ac_o (ac_f51 I2) ?_
          refine am_e_iconst (w := 3) (am_nxt_of (i := (95, 1, .iconst 3, (0, 0, 0), 0)) (by decide +kernel)) rfl ?_
          refine am_e_iaload (v := s3 + 1) (q := 3) (am_nxt_of (i := (96, 1, .iaload, (0, 0, 0), 0)) (by decide +kernel)) ac_k189 (by decide) (by decide) es4 ?_
          refine am_e_aload_n (am_nxt_of (i := (97, 1, .aload_n 0, (0, 0, 0), 0)) (by decide +kernel)) (v := 164) rfl ?_
          refine am_e_getf (am_nxt_of (i := (98, 3, .getfield 88, (12, 51, 1435), 0)) (by decide +kernel)) ac_o (ac_f51 I2) ?_
          refine am_e_iconst (w := 0) (am_nxt_of (i := (101, 1, .iconst 0, (0, 0, 0), 0)) (by decide +kernel)) rfl ?_
          refine am_e_iaload (v := s0) (q := 0) (am_nxt_of (i := (102, 1, .iaload, (0, 0, 0), 0)) (by decide +kernel)) ac_k189 (by decide) (by decide) es2 ?_
          refine am_e_isub (w := (s3 + 1) - s0) (am_nxt_of (i := (103, 1, .isub, (0, 0, 0), 0)) (by decide +kernel)) rfl ?_
          refine am_e_iload_n (am_nxt_of (i := (104, 1, .iload_n 2, (0, 0, 0), 0)) (by decide +kernel)) (v := n) rfl ?_
          by_cases hn3 : ((s3 + 1) - s0 : Int32) < n
          · refine am_e_cmpF (am_nxt_of (i := (105, 3, .if_icmp .ge 20, (75, 0, 0), 0)) (by decide +kernel)) (am_c_geF hn3) ?_
            refine am_e_aload_n (am_nxt_of (i := (108, 1, .aload_n 0, (0, 0, 0), 0)) (by decide +kernel)) (v := 164) rfl ?_
            refine am_e_iconst (w := 3) (am_nxt_of (i := (109, 1, .iconst 3, (0, 0, 0), 0)) (by decide +kernel)) rfl ?_
            refine am_e_iload_n (am_nxt_of (i := (110, 1, .iload_n 1, (0, 0, 0), 0)) (by decide +kernel)) (v := k) rfl ?_
            refine am_e_iload_n (am_nxt_of (i := (111, 1, .iload_n 3, (0, 0, 0), 0)) (by decide +kernel)) (v := bd) rfl ?_
            refine am_e_callV (M' := am_m229) (o := 164) (ar := [.int bd, .int k, .int 3]) (rest := []) (L := lv_args 0 [.ref 164, .int 3, .int k, .int bd]) (am_nxt_of (i := (112, 3, .invokevirtual 498, (229, 1946, 3), 0)) (by decide +kernel)) rfl rfl rfl rfl ac_o rfl rfl rfl ?_
            refine am_Ev_mono (ac_getsUp3 hX hS k0 k3 ((F2 164 12 rfl).trans eb0) hkb I2 J2 es4) (fun r ks h3 hq => ?_)
            obtain ⟨rfl, hr, I3, J3, f3, -⟩ := hq
            have F3 := ab_Fr_trans F2 (ab_mdle_Fr (md' := ac_lu) (by decide) f3)
            have hs3 : h3 189 1 = .int s := (f3 189 1 rfl).trans hs2
            rcases hr with rfl | rfl
            · show am_Ek false am_G0 am_m228 70 _ [.int 0] _ _ _ _ _
              refine am_e_ifF (am_nxt_of (i := (115, 3, .ifCond .ne 7, (73, 0, 0), 0)) (by decide +kernel)) (am_c_neF rfl) ?_
              refine am_e_iconst (w := 1) (am_nxt_of (i := (118, 1, .iconst 1, (0, 0, 0), 0)) (by decide +kernel)) rfl ?_
              refine am_e_goto (am_cur_of (i := (119, 3, .goto 4, (74, 0, 0), 0)) (by decide +kernel)) (am_tgt_of (by decide +kernel)) ?_
              refine am_e_istore (ls' := [(6, .int 1), (0, .ref 164), (1, .int k), (2, .int n), (3, .int bd), (4, .int wt), (5, .int y)]) (am_nxt_of (i := (123, 2, .istore 6, (0, 0, 0), 0)) (by decide +kernel)) (by decide +kernel) rfl ?_
              refine am_Ek_ls (ls' := [(0, .ref 164), (1, .int k), (2, .int n), (3, .int bd), (4, .int wt), (5, .int y), (6, .int 1)]) ⟨rfl, rfl, rfl, rfl, rfl, rfl, rfl, trivial⟩ ?_
              exact hnow _ h3 I3 J3 F3 hs3
            · show am_Ek false am_G0 am_m228 70 _ [.int 1] _ _ _ _ _
              refine am_e_ifT (am_nxt_of (i := (115, 3, .ifCond .ne 7, (73, 0, 0), 0)) (by decide +kernel)) (am_c_neT (by decide)) (am_tgt_of (by decide +kernel)) ?_
              refine am_e_iconst (w := 0) (am_nxt_of (i := (122, 1, .iconst 0, (0, 0, 0), 0)) (by decide +kernel)) rfl ?_
              refine am_e_istore (ls' := [(6, .int 0), (0, .ref 164), (1, .int k), (2, .int n), (3, .int bd), (4, .int wt), (5, .int y)]) (am_nxt_of (i := (123, 2, .istore 6, (0, 0, 0), 0)) (by decide +kernel)) (by decide +kernel) rfl ?_
              refine am_Ek_ls (ls' := [(0, .ref 164), (1, .int k), (2, .int n), (3, .int bd), (4, .int wt), (5, .int y), (6, .int 0)]) ⟨rfl, rfl, rfl, rfl, rfl, rfl, rfl, trivial⟩ ?_
              exact hnow _ h3 I3 J3 F3 hs3
          · refine am_e_cmpT (am_nxt_of (i := (105, 3, .if_icmp .ge 20, (75, 0, 0), 0)) (by decide +kernel)) (am_c_geT hn3) (am_tgt_of (by decide +kernel)) ?_
            refine am_Ek_ls (ls' := [(0, .ref 164), (1, .int k), (2, .int n), (3, .int bd), (4, .int wt), (5, .int y), (6, .int 0)]) ⟨rfl, rfl, rfl, rfl, rfl, rfl, rfl, trivial⟩ ?_
            exact hnow _ h2 I2 J2 F2 hs2
      · refine am_e_cmpT (am_nxt_of (i := (53, 3, .if_icmp .ge 135, (111, 0, 0), 0)) (by decide +kernel)) (am_c_geT hlt) (am_tgt_of (by decide +kernel)) ?_
        exact hend y h hy hI hj hF
theorem ac_layUps (hX : ac_XF X) (hS : ac_SC (ac_JX X)) {h : am_H} {k n bd wt b : Int32} (hI : ab_Inv (ab_hi ab_tab) h) (hj : ac_JX X h) (k0 : 0 ≤ k.toInt) (k3 : k.toInt ≤ 3) (n9 : n.toInt ≤ 3600) (eb : h 164 12 = .int b) (hkb : k.toInt < b.toInt) : am_Ek false am_G0 am_m228 0 (lv_args 0 [.ref 164, .int k, .int n, .int bd, .int wt]) [] am_ks0 h 0 0 (ac_luQ X h) := by
  obtain ⟨s, es, -⟩ := ac_r189 hI (q := 0) (by decide)
  refine am_e_aload_n (am_nxt_of (i := (0, 1, .aload_n 0, (0, 0, 0), 0)) (by decide +kernel)) (v := 164) rfl ?_
  refine am_e_iconst (w := 1) (am_nxt_of (i := (1, 1, .iconst 1, (0, 0, 0), 0)) (by decide +kernel)) rfl ?_
  refine am_e_iconst (w := 0) (am_nxt_of (i := (2, 1, .iconst 0, (0, 0, 0), 0)) (by decide +kernel)) rfl ?_
  refine am_e_callV (M' := am_m197) (o := 164) (ar := [.int 0, .int 1]) (rest := []) (L := lv_args 0 [.ref 164, .int 1, .int 0]) (am_nxt_of (i := (3, 3, .invokevirtual 428, (197, 1820, 3), 0)) (by decide +kernel)) rfl rfl rfl rfl ac_o rfl rfl rfl ?_
  refine am_Ev_mono (ab_copy10 (J := ac_JX X) (ac_JX_fr hX rfl) hI hj es) (fun r ks h1 hq => ?_)
  obtain ⟨rfl, rfl, I1, J1, f1, es1⟩ := hq
  have I2 := ac_p69 (v := 0) I1 (by decide) (by decide)
  have I3 := ac_p70 (v := -2) I2 (by decide) (by decide)
  have J3 := ac_JX_fr hX (md := [(164, 70), (164, 71)]) rfl _ (am_up (am_up h1 164 69 (.int 0)) 164 70 (.int (-2))) (ab_Fr_up rfl (ab_Fr_up rfl ab_Fr_refl)) J1
  have F3 : ab_Fr ac_lu h (am_up (am_up h1 164 69 (.int 0)) 164 70 (.int (-2))) := ab_Fr_up rfl (ab_Fr_up rfl (ab_mdle_Fr (by decide) f1))
  obtain ⟨fu, efu, -⟩ := ac_r188 I3 (q := 1) (by decide)
  have ez : (s - s).toInt = 0 := by rw [ab_isub (by omega) (by omega)]; omega
  show am_Ek false am_G0 am_m228 4 _ [] _ _ _ _ _
  refine am_e_aload_n (am_nxt_of (i := (6, 1, .aload_n 0, (0, 0, 0), 0)) (by decide +kernel)) (v := 164) rfl ?_
  refine am_e_iconst (w := 0) (am_nxt_of (i := (7, 1, .iconst 0, (0, 0, 0), 0)) (by decide +kernel)) rfl ?_
  refine am_e_putf (am_nxt_of (i := (8, 3, .putfield 492, (12, 69, 1453), 0)) (by decide +kernel)) ac_o rfl ?_
  refine am_e_aload_n (am_nxt_of (i := (11, 1, .aload_n 0, (0, 0, 0), 0)) (by decide +kernel)) (v := 164) rfl ?_
  refine am_e_bipush (w := (-2)) (am_nxt_of (i := (12, 2, .bipush (-2), (0, 0, 0), 0)) (by decide +kernel)) (by decide) ?_
  refine am_e_putf (am_nxt_of (i := (14, 3, .putfield 495, (12, 70, 1454), 0)) (by decide +kernel)) ac_o rfl ?_
  refine am_e_aload_n (am_nxt_of (i := (17, 1, .aload_n 0, (0, 0, 0), 0)) (by decide +kernel)) (v := 164) rfl ?_
  refine am_e_getf (am_nxt_of (i := (18, 3, .getfield 85, (12, 50, 1434), 0)) (by decide +kernel)) ac_o (ac_f50 I3) ?_
  refine am_e_iconst (w := 1) (am_nxt_of (i := (21, 1, .iconst 1, (0, 0, 0), 0)) (by decide +kernel)) rfl ?_
  refine am_e_iaload (v := fu) (q := 1) (am_nxt_of (i := (22, 1, .iaload, (0, 0, 0), 0)) (by decide +kernel)) ac_k188 (by decide) (by decide) efu ?_
  refine am_e_iload_n (am_nxt_of (i := (23, 1, .iload_n 3, (0, 0, 0), 0)) (by decide +kernel)) (v := bd) rfl ?_
  by_cases hfu : (fu : Int32) < bd
  · refine am_e_cmpT (am_nxt_of (i := (24, 3, .if_icmp .lt 7, (18, 0, 0), 0)) (by decide +kernel)) (am_c_ltT hfu) (am_tgt_of (by decide +kernel)) ?_
    refine am_e_iconst (w := 0) (am_nxt_of (i := (31, 1, .iconst 0, (0, 0, 0), 0)) (by decide +kernel)) rfl ?_
    refine am_e_istore (ls' := [(5, .int 0), (0, .ref 164), (1, .int k), (2, .int n), (3, .int bd), (4, .int wt)]) (am_nxt_of (i := (32, 2, .istore 5, (0, 0, 0), 0)) (by decide +kernel)) (by decide +kernel) rfl ?_
    refine am_Ek_ls (ls' := [(0, .ref 164), (1, .int k), (2, .int n), (3, .int bd), (4, .int wt), (5, .int 0)]) ⟨rfl, rfl, rfl, rfl, rfl, rfl, trivial⟩ ?_
    exact ac_lu_l hX hS k0 k3 n9 eb hkb es 20000 _ s _ (by omega) (by omega) (by omega) (Or.inl rfl) I3 J3 F3 es1
  · refine am_e_cmpF (am_nxt_of (i := (24, 3, .if_icmp .lt 7, (18, 0, 0), 0)) (by decide +kernel)) (am_c_ltF hfu) ?_
    refine am_e_iconst (w := 1) (am_nxt_of (i := (27, 1, .iconst 1, (0, 0, 0), 0)) (by decide +kernel)) rfl ?_
    refine am_e_goto (am_cur_of (i := (28, 3, .goto 4, (19, 0, 0), 0)) (by decide +kernel)) (am_tgt_of (by decide +kernel)) ?_
    refine am_e_istore (ls' := [(5, .int 1), (0, .ref 164), (1, .int k), (2, .int n), (3, .int bd), (4, .int wt)]) (am_nxt_of (i := (32, 2, .istore 5, (0, 0, 0), 0)) (by decide +kernel)) (by decide +kernel) rfl ?_
    refine am_Ek_ls (ls' := [(0, .ref 164), (1, .int k), (2, .int n), (3, .int bd), (4, .int wt), (5, .int 1)]) ⟨rfl, rfl, rfl, rfl, rfl, rfl, trivial⟩ ?_
    exact ac_lu_l hX hS k0 k3 n9 eb hkb es 20000 _ s _ (by omega) (by omega) (by omega) (Or.inr rfl) I3 J3 F3 es1
theorem ac_isBlower {h : am_H} {k b : Int32} (hI : ab_Inv (ab_hi ab_tab) h) (eb : h 164 12 = .int b) : am_Ek false am_G0 am_m185 0 (lv_args 0 [.ref 164, .int k]) [] am_ks0 h 0 0 (fun r ks h' => ks = am_ks0 ∧ h' = h ∧ (r = some (.int 0) ∨ r = some (.int 1) ∧ 0 ≤ k.toInt ∧ k.toInt < b.toInt)) := by
  refine am_e_iload_n (am_nxt_of (i := (0, 1, .iload_n 1, (0, 0, 0), 0)) (by decide +kernel)) (v := k) rfl ?_
  by_cases hk : (k : Int32) < 0
  · refine am_e_ifT (am_nxt_of (i := (1, 3, .ifCond .lt 15, (8, 0, 0), 0)) (by decide +kernel)) (am_c_ltT hk) (am_tgt_of (by decide +kernel)) ?_
    refine am_e_iconst (w := 0) (am_nxt_of (i := (16, 1, .iconst 0, (0, 0, 0), 0)) (by decide +kernel)) rfl ?_
    exact am_e_iret (ty := .boolean) (am_cur_of (i := (17, 1, .ireturn, (0, 0, 0), 0)) (by decide +kernel)) rfl rfl rfl ⟨rfl, rfl, Or.inl rfl⟩
  · refine am_e_ifF (am_nxt_of (i := (1, 3, .ifCond .lt 15, (8, 0, 0), 0)) (by decide +kernel)) (am_c_ltF hk) ?_
    have kk := ac_nlt' hk
    refine am_e_iload_n (am_nxt_of (i := (4, 1, .iload_n 1, (0, 0, 0), 0)) (by decide +kernel)) (v := k) rfl ?_
    refine am_e_aload_n (am_nxt_of (i := (5, 1, .aload_n 0, (0, 0, 0), 0)) (by decide +kernel)) (v := 164) rfl ?_
    refine am_e_getf (v := .int b) (am_nxt_of (i := (6, 3, .getfield 219, (12, 12, 1396), 0)) (by decide +kernel)) ac_o eb ?_
    by_cases hb : (k : Int32) < b
    · refine am_e_cmpF (am_nxt_of (i := (9, 3, .if_icmp .ge 7, (8, 0, 0), 0)) (by decide +kernel)) (am_c_geF hb) ?_
      have kb := ac_lt' hb
      refine am_e_iconst (w := 1) (am_nxt_of (i := (12, 1, .iconst 1, (0, 0, 0), 0)) (by decide +kernel)) rfl ?_
      refine am_e_goto (am_cur_of (i := (13, 3, .goto 4, (9, 0, 0), 0)) (by decide +kernel)) (am_tgt_of (by decide +kernel)) ?_
      exact am_e_iret (ty := .boolean) (am_cur_of (i := (17, 1, .ireturn, (0, 0, 0), 0)) (by decide +kernel)) rfl rfl rfl ⟨rfl, rfl, Or.inr ⟨rfl, kk, kb⟩⟩
    · refine am_e_cmpT (am_nxt_of (i := (9, 3, .if_icmp .ge 7, (8, 0, 0), 0)) (by decide +kernel)) (am_c_geT hb) (am_tgt_of (by decide +kernel)) ?_
      refine am_e_iconst (w := 0) (am_nxt_of (i := (16, 1, .iconst 0, (0, 0, 0), 0)) (by decide +kernel)) rfl ?_
      exact am_e_iret (ty := .boolean) (am_cur_of (i := (17, 1, .ireturn, (0, 0, 0), 0)) (by decide +kernel)) rfl rfl rfl ⟨rfl, rfl, Or.inl rfl⟩
theorem ac_isUp {h : am_H} {n bd : Int32} (hU : ab_Con ab_tab (ac_JX X) ab_S_isUp_x_x) (hI : ab_Inv (ab_hi ab_tab) h) (hj : ac_JX X h) : am_Ek false am_G0 am_m227 0 (lv_args 0 [.int n, .int bd]) [] am_ks0 h 0 0 (fun r ks h' => ks = am_ks0 ∧ ab_Inv (ab_hi ab_tab) h' ∧ ac_JX X h' ∧ ab_Fr [] h h' ∧ (r = some (.int 0) ∨ r = some (.int 1) ∧ n.toInt ≤ 3600)) := by
  refine am_Ev_mono (ac_use hU rfl ⟨ab_top_ok _, ab_top_ok _, trivial⟩ hI hj ac_p0) (fun r ks h' hq => ?_)
  obtain ⟨q1, q2, q3, q4, c, hc, q5⟩ := hq
  refine ⟨q1, q2, q3, q4, ?_⟩
  rcases List.mem_cons.mp hc with rfl | hc
  · refine Or.inr ⟨ac_g0 q5.1 (v := 1) (by decide), ?_⟩
    obtain ⟨x, g1, g2⟩ := q5.2.1 _ List.mem_cons_self
    have e : some (Value.int n) = some (.int x) := g1
    cases e
    obtain ⟨x2, e2, -, x1⟩ := g2
    cases e2
    exact x1
  · have e := List.mem_singleton.mp hc
    subst e
    exact Or.inl (ac_g0 q5.1 (v := 0) (by decide))
abbrev ac_luO : List (Nat × Nat) := [(164, 3), (164, 50), (164, 70), (164, 71), (186, 1), (186, 2), (186, 3), (186, 4), (186, 5), (186, 6), (187, 0), (188, 0), (189, 2), (189, 4), (190, 0), (191, 0), (192, 0), (193, 0), (194, 0)]
theorem ac_up (hX : ac_XF X) (hS : ac_SC (ac_JX X)) (hU : ab_Con ab_tab (ac_JX X) ab_S_isUp_x_x) {h : am_H} (hI : ab_Inv (ab_hi ab_tab) h) (hj : ac_JX X h) {k n bd : Int32} : am_Ek false am_G0 am_m226 0 (lv_args 0 [.ref 164, .int k, .int n, .int bd]) [] am_ks0 h 0 0 (ac_opQ X ac_luO h) := by
  have I1 := ac_p2 (v := 0) hI (by decide) (by decide)
  have J1 := ac_JX_fr hX (md := [(164, 3)]) rfl _ (am_up h 164 2 (.int 0)) (ab_Fr_up rfl ab_Fr_refl) hj
  have f1 : ab_Fr ac_luO h (am_up h 164 2 (.int 0)) := ab_Fr_up rfl ab_Fr_refl
  obtain ⟨b, eb, b0, b4⟩ := ac_g12 I1
  refine am_e_aload_n (am_nxt_of (i := (0, 1, .aload_n 0, (0, 0, 0), 0)) (by decide +kernel)) (v := 164) rfl ?_
  refine am_e_iconst (w := 0) (am_nxt_of (i := (1, 1, .iconst 0, (0, 0, 0), 0)) (by decide +kernel)) rfl ?_
  refine am_e_putf (am_nxt_of (i := (2, 3, .putfield 139, (12, 2, 1386), 0)) (by decide +kernel)) ac_o rfl ?_
  refine am_e_aload_n (am_nxt_of (i := (5, 1, .aload_n 0, (0, 0, 0), 0)) (by decide +kernel)) (v := 164) rfl ?_
  refine am_e_iload_n (am_nxt_of (i := (6, 1, .iload_n 1, (0, 0, 0), 0)) (by decide +kernel)) (v := k) rfl ?_
  refine am_e_callV (M' := am_m185) (o := 164) (ar := [.int k]) (rest := []) (L := lv_args 0 [.ref 164, .int k]) (am_nxt_of (i := (7, 3, .invokevirtual 420, (185, 1770, 3), 0)) (by decide +kernel)) rfl rfl rfl rfl ac_o rfl rfl rfl ?_
  refine am_Ev_mono (ac_isBlower I1 eb) (fun r ks g hq => ?_)
  obtain ⟨rfl, rfl, hr⟩ := hq
  rcases hr with rfl | ⟨rfl, kk, kb⟩
  · show am_Ek false am_G0 am_m226 6 _ [.int 0] _ _ _ _ _
    refine am_e_ifT (am_nxt_of (i := (10, 3, .ifCond .eq 11, (11, 0, 0), 0)) (by decide +kernel)) (am_c_eqT rfl) (am_tgt_of (by decide +kernel)) ?_
    refine am_e_iconst (w := (-1)) (am_nxt_of (i := (21, 1, .iconst (-1), (0, 0, 0), 0)) (by decide +kernel)) rfl ?_
    exact am_e_iret (ty := .int) (am_cur_of (i := (22, 1, .ireturn, (0, 0, 0), 0)) (by decide +kernel)) rfl rfl rfl ⟨rfl, I1, J1, f1, _, rfl⟩
  · show am_Ek false am_G0 am_m226 6 _ [.int 1] _ _ _ _ _
    refine am_e_ifF (am_nxt_of (i := (10, 3, .ifCond .eq 11, (11, 0, 0), 0)) (by decide +kernel)) (am_c_eqF (by decide)) ?_
    refine am_e_iload_n (am_nxt_of (i := (13, 1, .iload_n 2, (0, 0, 0), 0)) (by decide +kernel)) (v := n) rfl ?_
    refine am_e_iload_n (am_nxt_of (i := (14, 1, .iload_n 3, (0, 0, 0), 0)) (by decide +kernel)) (v := bd) rfl ?_
    refine am_e_callS (M' := am_m227) (ar := [.int bd, .int n]) (rest := []) (L := lv_args 0 [.int n, .int bd]) (am_nxt_of (i := (15, 3, .invokestatic 501, (227, 1939, 3), 0)) (by decide +kernel)) rfl rfl rfl rfl rfl rfl rfl ?_
    refine am_Ev_mono (ac_isUp hU I1 J1) (fun r ks g hq => ?_)
    obtain ⟨rfl, gI, gj, gF, hr⟩ := hq
    have f2 := ab_Fr_trans f1 (ab_mdle_Fr (md' := ac_luO) (by decide) gF)
    have geb : g 164 12 = .int b := (gF 164 12 rfl).trans eb
    rcases hr with rfl | ⟨rfl, n9⟩
    · show am_Ek false am_G0 am_m226 10 _ [.int 0] _ _ _ _ _
      refine am_e_ifF (am_nxt_of (i := (18, 3, .ifCond .ne 5, (13, 0, 0), 0)) (by decide +kernel)) (am_c_neF rfl) ?_
      refine am_e_iconst (w := (-1)) (am_nxt_of (i := (21, 1, .iconst (-1), (0, 0, 0), 0)) (by decide +kernel)) rfl ?_
      exact am_e_iret (ty := .int) (am_cur_of (i := (22, 1, .ireturn, (0, 0, 0), 0)) (by decide +kernel)) rfl rfl rfl ⟨rfl, gI, gj, f2, _, rfl⟩
    · show am_Ek false am_G0 am_m226 10 _ [.int 1] _ _ _ _ _
      refine am_e_ifT (am_nxt_of (i := (18, 3, .ifCond .ne 5, (13, 0, 0), 0)) (by decide +kernel)) (am_c_neT (by decide)) (am_tgt_of (by decide +kernel)) ?_
      refine am_e_aload_n (am_nxt_of (i := (23, 1, .aload_n 0, (0, 0, 0), 0)) (by decide +kernel)) (v := 164) rfl ?_
      refine am_e_iload_n (am_nxt_of (i := (24, 1, .iload_n 1, (0, 0, 0), 0)) (by decide +kernel)) (v := k) rfl ?_
      refine am_e_iload_n (am_nxt_of (i := (25, 1, .iload_n 2, (0, 0, 0), 0)) (by decide +kernel)) (v := n) rfl ?_
      refine am_e_iload_n (am_nxt_of (i := (26, 1, .iload_n 3, (0, 0, 0), 0)) (by decide +kernel)) (v := bd) rfl ?_
      refine am_e_iconst (w := (-1)) (am_nxt_of (i := (27, 1, .iconst (-1), (0, 0, 0), 0)) (by decide +kernel)) rfl ?_
      refine am_e_callV (M' := am_m228) (o := 164) (ar := [.int (-1), .int bd, .int n, .int k]) (rest := []) (L := lv_args 0 [.ref 164, .int k, .int n, .int bd, .int (-1)]) (am_nxt_of (i := (28, 3, .invokevirtual 504, (228, 1942, 3), 0)) (by decide +kernel)) rfl rfl rfl rfl ac_o rfl rfl rfl ?_
      refine am_Ev_mono (ac_layUps hX hS gI gj kk (by omega) n9 geb kb) (fun r ks g2 hq => ?_)
      obtain ⟨rfl, rfl, I2, J2, F2⟩ := hq
      have f3 := ab_Fr_trans f2 (ab_mdle_Fr (md' := ac_luO) (by decide) F2)
      show am_Ek false am_G0 am_m226 19 _ [] _ _ _ _ _
      obtain ⟨u, eu, u_0, u_1⟩ := ac_g69 I2
      refine am_e_aload_n (am_nxt_of (i := (31, 1, .aload_n 0, (0, 0, 0), 0)) (by decide +kernel)) (v := 164) rfl ?_
      refine am_e_getf (v := .int u) (am_nxt_of (i := (32, 3, .getfield 492, (12, 69, 1453), 0)) (by decide +kernel)) ac_o eu ?_
      exact am_e_iret (ty := .int) (am_cur_of (i := (35, 1, .ireturn, (0, 0, 0), 0)) (by decide +kernel)) rfl rfl rfl ⟨rfl, I2, J2, f3, _, rfl⟩
theorem ac_upAt (hX : ac_XF X) (hS : ac_SC (ac_JX X)) (hU : ab_Con ab_tab (ac_JX X) ab_S_isUp_x_x) {h : am_H} (hI : ab_Inv (ab_hi ab_tab) h) (hj : ac_JX X h) {k n bd i : Int32} : am_Ek false am_G0 am_m230 0 (lv_args 0 [.ref 164, .int k, .int n, .int bd, .int i]) [] am_ks0 h 0 0 (ac_opQ X ac_luO h) := by
  have I1 := ac_p2 (v := 0) hI (by decide) (by decide)
  have J1 := ac_JX_fr hX (md := [(164, 3)]) rfl _ (am_up h 164 2 (.int 0)) (ab_Fr_up rfl ab_Fr_refl) hj
  have f1 : ab_Fr ac_luO h (am_up h 164 2 (.int 0)) := ab_Fr_up rfl ab_Fr_refl
  obtain ⟨b, eb, b0, b4⟩ := ac_g12 I1
  refine am_e_aload_n (am_nxt_of (i := (0, 1, .aload_n 0, (0, 0, 0), 0)) (by decide +kernel)) (v := 164) rfl ?_
  refine am_e_iconst (w := 0) (am_nxt_of (i := (1, 1, .iconst 0, (0, 0, 0), 0)) (by decide +kernel)) rfl ?_
  refine am_e_putf (am_nxt_of (i := (2, 3, .putfield 139, (12, 2, 1386), 0)) (by decide +kernel)) ac_o rfl ?_
  refine am_e_aload_n (am_nxt_of (i := (5, 1, .aload_n 0, (0, 0, 0), 0)) (by decide +kernel)) (v := 164) rfl ?_
  refine am_e_iload_n (am_nxt_of (i := (6, 1, .iload_n 1, (0, 0, 0), 0)) (by decide +kernel)) (v := k) rfl ?_
  refine am_e_callV (M' := am_m185) (o := 164) (ar := [.int k]) (rest := []) (L := lv_args 0 [.ref 164, .int k]) (am_nxt_of (i := (7, 3, .invokevirtual 420, (185, 1770, 3), 0)) (by decide +kernel)) rfl rfl rfl rfl ac_o rfl rfl rfl ?_
  refine am_Ev_mono (ac_isBlower I1 eb) (fun r ks g hq => ?_)
  obtain ⟨rfl, rfl, hr⟩ := hq
  rcases hr with rfl | ⟨rfl, kk, kb⟩
  · show am_Ek false am_G0 am_m230 6 _ [.int 0] _ _ _ _ _
    refine am_e_ifT (am_nxt_of (i := (10, 3, .ifCond .eq 16, (13, 0, 0), 0)) (by decide +kernel)) (am_c_eqT rfl) (am_tgt_of (by decide +kernel)) ?_
    refine am_e_iconst (w := (-1)) (am_nxt_of (i := (26, 1, .iconst (-1), (0, 0, 0), 0)) (by decide +kernel)) rfl ?_
    exact am_e_iret (ty := .int) (am_cur_of (i := (27, 1, .ireturn, (0, 0, 0), 0)) (by decide +kernel)) rfl rfl rfl ⟨rfl, I1, J1, f1, _, rfl⟩
  · show am_Ek false am_G0 am_m230 6 _ [.int 1] _ _ _ _ _
    refine am_e_ifF (am_nxt_of (i := (10, 3, .ifCond .eq 16, (13, 0, 0), 0)) (by decide +kernel)) (am_c_eqF (by decide)) ?_
    refine am_e_iload_n (am_nxt_of (i := (13, 1, .iload_n 2, (0, 0, 0), 0)) (by decide +kernel)) (v := n) rfl ?_
    refine am_e_iload_n (am_nxt_of (i := (14, 1, .iload_n 3, (0, 0, 0), 0)) (by decide +kernel)) (v := bd) rfl ?_
    refine am_e_callS (M' := am_m227) (ar := [.int bd, .int n]) (rest := []) (L := lv_args 0 [.int n, .int bd]) (am_nxt_of (i := (15, 3, .invokestatic 501, (227, 1939, 3), 0)) (by decide +kernel)) rfl rfl rfl rfl rfl rfl rfl ?_
    refine am_Ev_mono (ac_isUp hU I1 J1) (fun r ks g hq => ?_)
    obtain ⟨rfl, gI, gj, gF, hr⟩ := hq
    have f2 := ab_Fr_trans f1 (ab_mdle_Fr (md' := ac_luO) (by decide) gF)
    have geb : g 164 12 = .int b := (gF 164 12 rfl).trans eb
    rcases hr with rfl | ⟨rfl, n9⟩
    · show am_Ek false am_G0 am_m230 10 _ [.int 0] _ _ _ _ _
      refine am_e_ifT (am_nxt_of (i := (18, 3, .ifCond .eq 8, (13, 0, 0), 0)) (by decide +kernel)) (am_c_eqT rfl) (am_tgt_of (by decide +kernel)) ?_
      refine am_e_iconst (w := (-1)) (am_nxt_of (i := (26, 1, .iconst (-1), (0, 0, 0), 0)) (by decide +kernel)) rfl ?_
      exact am_e_iret (ty := .int) (am_cur_of (i := (27, 1, .ireturn, (0, 0, 0), 0)) (by decide +kernel)) rfl rfl rfl ⟨rfl, gI, gj, f2, _, rfl⟩
    · show am_Ek false am_G0 am_m230 10 _ [.int 1] _ _ _ _ _
      refine am_e_ifF (am_nxt_of (i := (18, 3, .ifCond .eq 8, (13, 0, 0), 0)) (by decide +kernel)) (am_c_eqF (by decide)) ?_
      refine am_e_iload (am_nxt_of (i := (21, 2, .iload 4, (0, 0, 0), 0)) (by decide +kernel)) (v := i) rfl ?_
      by_cases hi0 : (i : Int32) < 0
      · refine am_e_ifF (am_nxt_of (i := (23, 3, .ifCond .ge 5, (15, 0, 0), 0)) (by decide +kernel)) (am_c_geF hi0) ?_
        refine am_e_iconst (w := (-1)) (am_nxt_of (i := (26, 1, .iconst (-1), (0, 0, 0), 0)) (by decide +kernel)) rfl ?_
        exact am_e_iret (ty := .int) (am_cur_of (i := (27, 1, .ireturn, (0, 0, 0), 0)) (by decide +kernel)) rfl rfl rfl ⟨rfl, gI, gj, f2, _, rfl⟩
      · refine am_e_ifT (am_nxt_of (i := (23, 3, .ifCond .ge 5, (15, 0, 0), 0)) (by decide +kernel)) (am_c_geT hi0) (am_tgt_of (by decide +kernel)) ?_
        refine am_e_aload_n (am_nxt_of (i := (28, 1, .aload_n 0, (0, 0, 0), 0)) (by decide +kernel)) (v := 164) rfl ?_
        refine am_e_iload_n (am_nxt_of (i := (29, 1, .iload_n 1, (0, 0, 0), 0)) (by decide +kernel)) (v := k) rfl ?_
        refine am_e_iload_n (am_nxt_of (i := (30, 1, .iload_n 2, (0, 0, 0), 0)) (by decide +kernel)) (v := n) rfl ?_
        refine am_e_iload_n (am_nxt_of (i := (31, 1, .iload_n 3, (0, 0, 0), 0)) (by decide +kernel)) (v := bd) rfl ?_
        refine am_e_iload (am_nxt_of (i := (32, 2, .iload 4, (0, 0, 0), 0)) (by decide +kernel)) (v := i) rfl ?_
        refine am_e_callV (M' := am_m228) (o := 164) (ar := [.int i, .int bd, .int n, .int k]) (rest := []) (L := lv_args 0 [.ref 164, .int k, .int n, .int bd, .int i]) (am_nxt_of (i := (34, 3, .invokevirtual 504, (228, 1942, 3), 0)) (by decide +kernel)) rfl rfl rfl rfl ac_o rfl rfl rfl ?_
        refine am_Ev_mono (ac_layUps hX hS gI gj kk (by omega) n9 geb kb) (fun r ks g2 hq => ?_)
        obtain ⟨rfl, rfl, I2, J2, F2⟩ := hq
        have f3 := ab_Fr_trans f2 (ab_mdle_Fr (md' := ac_luO) (by decide) F2)
        show am_Ek false am_G0 am_m230 21 _ [] _ _ _ _ _
        obtain ⟨u, eu, u_0, u_1⟩ := ac_g69 I2
        obtain ⟨uw, euw, uw_0, uw_1⟩ := ac_g70 I2
        refine am_e_aload_n (am_nxt_of (i := (37, 1, .aload_n 0, (0, 0, 0), 0)) (by decide +kernel)) (v := 164) rfl ?_
        refine am_e_getf (v := .int u) (am_nxt_of (i := (38, 3, .getfield 492, (12, 69, 1453), 0)) (by decide +kernel)) ac_o eu ?_
        by_cases hu : (u : Int32) < 0
        · refine am_e_ifF (am_nxt_of (i := (41, 3, .ifCond .ge 8, (26, 0, 0), 0)) (by decide +kernel)) (am_c_geF hu) ?_
          refine am_e_bipush (w := (-2)) (am_nxt_of (i := (44, 2, .bipush (-2), (0, 0, 0), 0)) (by decide +kernel)) (by decide) ?_
          refine am_e_goto (am_cur_of (i := (46, 3, .goto 7, (28, 0, 0), 0)) (by decide +kernel)) (am_tgt_of (by decide +kernel)) ?_
          exact am_e_iret (ty := .int) (am_cur_of (i := (53, 1, .ireturn, (0, 0, 0), 0)) (by decide +kernel)) rfl rfl rfl ⟨rfl, I2, J2, f3, _, rfl⟩
        · refine am_e_ifT (am_nxt_of (i := (41, 3, .ifCond .ge 8, (26, 0, 0), 0)) (by decide +kernel)) (am_c_geT hu) (am_tgt_of (by decide +kernel)) ?_
          refine am_e_aload_n (am_nxt_of (i := (49, 1, .aload_n 0, (0, 0, 0), 0)) (by decide +kernel)) (v := 164) rfl ?_
          refine am_e_getf (v := .int uw) (am_nxt_of (i := (50, 3, .getfield 495, (12, 70, 1454), 0)) (by decide +kernel)) ac_o euw ?_
          exact am_e_iret (ty := .int) (am_cur_of (i := (53, 1, .ireturn, (0, 0, 0), 0)) (by decide +kernel)) rfl rfl rfl ⟨rfl, I2, J2, f3, _, rfl⟩
theorem ac_ch_l (hX : ac_XF X) (hS : ac_SC (ac_JX X)) {h0 : am_H} {n bd wh b : Int32} (n9 : n.toInt ≤ 3600) (eb0 : h0 164 12 = .int b) (b4 : b.toInt ≤ 4) : ∀ (d : Nat) (k be le : Int32) (h : am_H), b.toInt - k.toInt ≤ d → 0 ≤ k.toInt → k.toInt ≤ 4 → ab_Inv (ab_hi ab_tab) h → ac_JX X h → ab_Fr ac_luO h0 h → am_Ek false am_G0 am_m231 20 [(0, .ref 164), (1, .int n), (2, .int bd), (3, .int wh), (4, .int be), (5, .int le), (6, .int k)] [] am_ks0 h 0 0 (ac_opQ X ac_luO h0) := by
  have hend : ∀ (k be le : Int32) (h : am_H), ab_Inv (ab_hi ab_tab) h → ac_JX X h → ab_Fr ac_luO h0 h → am_Ek false am_G0 am_m231 57 [(0, .ref 164), (1, .int n), (2, .int bd), (3, .int wh), (4, .int be), (5, .int le), (6, .int k)] [] am_ks0 h 0 0 (ac_opQ X ac_luO h0) := by
    intro k be le h hI hj hF
    refine am_e_iload_n (am_nxt_of (i := (109, 1, .iload_n 3, (0, 0, 0), 0)) (by decide +kernel)) (v := wh) rfl ?_
    by_cases hw : (wh : Int32) = 0
    · refine am_e_ifF (am_nxt_of (i := (110, 3, .ifCond .ne 8, (61, 0, 0), 0)) (by decide +kernel)) (am_c_neF hw) ?_
      refine am_e_iload (am_nxt_of (i := (113, 2, .iload 4, (0, 0, 0), 0)) (by decide +kernel)) (v := be) rfl ?_
      refine am_e_goto (am_cur_of (i := (115, 3, .goto 5, (62, 0, 0), 0)) (by decide +kernel)) (am_tgt_of (by decide +kernel)) ?_
      exact am_e_iret (ty := .int) (am_cur_of (i := (120, 1, .ireturn, (0, 0, 0), 0)) (by decide +kernel)) rfl rfl rfl ⟨rfl, hI, hj, hF, _, rfl⟩
    · refine am_e_ifT (am_nxt_of (i := (110, 3, .ifCond .ne 8, (61, 0, 0), 0)) (by decide +kernel)) (am_c_neT hw) (am_tgt_of (by decide +kernel)) ?_
      refine am_e_iload (am_nxt_of (i := (118, 2, .iload 5, (0, 0, 0), 0)) (by decide +kernel)) (v := le) rfl ?_
      exact am_e_iret (ty := .int) (am_cur_of (i := (120, 1, .ireturn, (0, 0, 0), 0)) (by decide +kernel)) rfl rfl rfl ⟨rfl, hI, hj, hF, _, rfl⟩
  intro d
  induction d with
  | zero =>
    intro k be le h hd k0 k4 hI hj hF
    have eb : h 164 12 = .int b := (hF 164 12 rfl).trans eb0
    refine am_e_iload (am_nxt_of (i := (35, 2, .iload 6, (0, 0, 0), 0)) (by decide +kernel)) (v := k) rfl ?_
    refine am_e_aload_n (am_nxt_of (i := (37, 1, .aload_n 0, (0, 0, 0), 0)) (by decide +kernel)) (v := 164) rfl ?_
    refine am_e_getf (v := .int b) (am_nxt_of (i := (38, 3, .getfield 219, (12, 12, 1396), 0)) (by decide +kernel)) ac_o eb ?_
    refine am_e_cmpT (am_nxt_of (i := (41, 3, .if_icmp .ge 68, (57, 0, 0), 0)) (by decide +kernel)) (am_c_geT (ac_nlt (by omega))) (am_tgt_of (by decide +kernel)) ?_
    exact hend k be le h hI hj hF
  | succ d ih =>
    intro k be le h hd k0 k4 hI hj hF
    have eb : h 164 12 = .int b := (hF 164 12 rfl).trans eb0
    refine am_e_iload (am_nxt_of (i := (35, 2, .iload 6, (0, 0, 0), 0)) (by decide +kernel)) (v := k) rfl ?_
    refine am_e_aload_n (am_nxt_of (i := (37, 1, .aload_n 0, (0, 0, 0), 0)) (by decide +kernel)) (v := 164) rfl ?_
    refine am_e_getf (v := .int b) (am_nxt_of (i := (38, 3, .getfield 219, (12, 12, 1396), 0)) (by decide +kernel)) ac_o eb ?_
    by_cases hk : (k : Int32) < b
    · refine am_e_cmpF (am_nxt_of (i := (41, 3, .if_icmp .ge 68, (57, 0, 0), 0)) (by decide +kernel)) (am_c_geF hk) ?_
      have hkb := ac_lt' hk
      have m6 := ab_m7 (k := k) (c := 6) k0 (by omega) (by decide) (by decide)
      have z6 : (6 : Int32).toInt = 6 := by decide
      have x6 := ab_ix (x := (7 : Int32) * k + 6) (n := 56) (by omega) (by omega)
      have e1 := ab_inc1 k0 (by omega)
      refine am_e_aload_n (am_nxt_of (i := (44, 1, .aload_n 0, (0, 0, 0), 0)) (by decide +kernel)) (v := 164) rfl ?_
      refine am_e_iload (am_nxt_of (i := (45, 2, .iload 6, (0, 0, 0), 0)) (by decide +kernel)) (v := k) rfl ?_
      refine am_e_iload_n (am_nxt_of (i := (47, 1, .iload_n 1, (0, 0, 0), 0)) (by decide +kernel)) (v := n) rfl ?_
      refine am_e_iload_n (am_nxt_of (i := (48, 1, .iload_n 2, (0, 0, 0), 0)) (by decide +kernel)) (v := bd) rfl ?_
      refine am_e_iconst (w := (-1)) (am_nxt_of (i := (49, 1, .iconst (-1), (0, 0, 0), 0)) (by decide +kernel)) rfl ?_
      refine am_e_callV (M' := am_m228) (o := 164) (ar := [.int (-1), .int bd, .int n, .int k]) (rest := []) (L := lv_args 0 [.ref 164, .int k, .int n, .int bd, .int (-1)]) (am_nxt_of (i := (50, 3, .invokevirtual 504, (228, 1942, 3), 0)) (by decide +kernel)) rfl rfl rfl rfl ac_o rfl rfl rfl ?_
      refine am_Ev_mono (ac_layUps hX hS hI hj k0 (by omega) n9 eb hkb) (fun r ks g hq => ?_)
      obtain ⟨rfl, rfl, gI, gj, gf⟩ := hq
      have gF := ab_Fr_trans hF (ab_mdle_Fr (md' := ac_luO) (by decide) gf)
      obtain ⟨v6, ev6, -⟩ := ac_r170 gI (q := ((7 : Int32) * k + 6).toNatClampNeg) (Nat.lt_of_not_le (fun q => x6 (Or.inr q)))
      show am_Ek false am_G0 am_m231 30 _ [] _ _ _ _ _
      obtain ⟨u, eu, u_0, u_1⟩ := ac_g69 gI
      refine am_e_aload_n (am_nxt_of (i := (53, 1, .aload_n 0, (0, 0, 0), 0)) (by decide +kernel)) (v := 164) rfl ?_
      refine am_e_getf (v := .int u) (am_nxt_of (i := (54, 3, .getfield 492, (12, 69, 1453), 0)) (by decide +kernel)) ac_o eu ?_
      refine am_e_aload_n (am_nxt_of (i := (57, 1, .aload_n 0, (0, 0, 0), 0)) (by decide +kernel)) (v := 164) rfl ?_
      refine am_e_getf (am_nxt_of (i := (58, 3, .getfield 30, (12, 25, 1409), 0)) (by decide +kernel)) ac_o (ac_f25 gI) ?_
      refine am_e_bipush (w := 7) (am_nxt_of (i := (61, 2, .bipush 7, (0, 0, 0), 0)) (by decide +kernel)) (by decide) ?_
      refine am_e_iload (am_nxt_of (i := (63, 2, .iload 6, (0, 0, 0), 0)) (by decide +kernel)) (v := k) rfl ?_
      refine am_e_imul (w := 7 * k) (am_nxt_of (i := (65, 1, .imul, (0, 0, 0), 0)) (by decide +kernel)) rfl ?_
      refine am_e_bipush (w := 6) (am_nxt_of (i := (66, 2, .bipush 6, (0, 0, 0), 0)) (by decide +kernel)) (by decide) ?_
      refine am_e_iadd (w := (7 * k) + 6) (am_nxt_of (i := (68, 1, .iadd, (0, 0, 0), 0)) (by decide +kernel)) rfl ?_
      refine am_e_iaload (v := v6) (am_nxt_of (i := (69, 1, .iaload, (0, 0, 0), 0)) (by decide +kernel)) ac_k170 x6 rfl ev6 ?_
      refine am_e_imul (w := u * v6) (am_nxt_of (i := (70, 1, .imul, (0, 0, 0), 0)) (by decide +kernel)) rfl ?_
      refine am_e_istore (ls' := [(7, .int (u * v6)), (0, .ref 164), (1, .int n), (2, .int bd), (3, .int wh), (4, .int be), (5, .int le), (6, .int k)]) (am_nxt_of (i := (71, 2, .istore 7, (0, 0, 0), 0)) (by decide +kernel)) (by decide +kernel) rfl ?_
      refine am_e_aload_n (am_nxt_of (i := (73, 1, .aload_n 0, (0, 0, 0), 0)) (by decide +kernel)) (v := 164) rfl ?_
      refine am_e_getf (v := .int u) (am_nxt_of (i := (74, 3, .getfield 492, (12, 69, 1453), 0)) (by decide +kernel)) ac_o eu ?_
      by_cases hu0 : (u : Int32) < 0
      · refine am_e_ifT (am_nxt_of (i := (77, 3, .ifCond .lt 26, (55, 0, 0), 0)) (by decide +kernel)) (am_c_ltT hu0) (am_tgt_of (by decide +kernel)) ?_
        refine am_e_iinc (w := k + Int32.ofInt 1) (ls' := [(6, .int (k + Int32.ofInt 1)), (7, .int (u * v6)), (0, .ref 164), (1, .int n), (2, .int bd), (3, .int wh), (4, .int be), (5, .int le)]) (am_nxt_of (i := (103, 3, .iinc 6 1, (0, 0, 0), 0)) (by decide +kernel)) (v := k) rfl (by decide +kernel) rfl rfl ?_
        refine am_e_goto (am_cur_of (i := (106, 3, .goto (-71), (20, 0, 0), 0)) (by decide +kernel)) (am_tgt_of (by decide +kernel)) ?_
        refine am_Ek_ls (ls' := [(0, .ref 164), (1, .int n), (2, .int bd), (3, .int wh), (4, .int be), (5, .int le), (6, .int (k + Int32.ofInt 1))]) ⟨rfl, rfl, rfl, rfl, rfl, rfl, rfl, trivial⟩ ?_
        exact ih _ _ _ g (by omega) (by omega) (by omega) gI gj gF
      · refine am_e_ifF (am_nxt_of (i := (77, 3, .ifCond .lt 26, (55, 0, 0), 0)) (by decide +kernel)) (am_c_ltF hu0) ?_
        refine am_e_iload (am_nxt_of (i := (80, 2, .iload 4, (0, 0, 0), 0)) (by decide +kernel)) (v := be) rfl ?_
        by_cases hb0 : (be : Int32) < 0
        · refine am_e_ifT (am_nxt_of (i := (82, 3, .ifCond .lt 13, (51, 0, 0), 0)) (by decide +kernel)) (am_c_ltT hb0) (am_tgt_of (by decide +kernel)) ?_
          refine am_e_iload (am_nxt_of (i := (95, 2, .iload 6, (0, 0, 0), 0)) (by decide +kernel)) (v := k) rfl ?_
          refine am_e_istore (ls' := [(4, .int k), (7, .int (u * v6)), (0, .ref 164), (1, .int n), (2, .int bd), (3, .int wh), (5, .int le), (6, .int k)]) (am_nxt_of (i := (97, 2, .istore 4, (0, 0, 0), 0)) (by decide +kernel)) (by decide +kernel) rfl ?_
          refine am_e_iload (am_nxt_of (i := (99, 2, .iload 7, (0, 0, 0), 0)) (by decide +kernel)) (v := u * v6) rfl ?_
          refine am_e_istore (ls' := [(5, .int (u * v6)), (4, .int k), (7, .int (u * v6)), (0, .ref 164), (1, .int n), (2, .int bd), (3, .int wh), (6, .int k)]) (am_nxt_of (i := (101, 2, .istore 5, (0, 0, 0), 0)) (by decide +kernel)) (by decide +kernel) rfl ?_
          refine am_e_iinc (w := k + Int32.ofInt 1) (ls' := [(6, .int (k + Int32.ofInt 1)), (5, .int (u * v6)), (4, .int k), (7, .int (u * v6)), (0, .ref 164), (1, .int n), (2, .int bd), (3, .int wh)]) (am_nxt_of (i := (103, 3, .iinc 6 1, (0, 0, 0), 0)) (by decide +kernel)) (v := k) rfl (by decide +kernel) rfl rfl ?_
          refine am_e_goto (am_cur_of (i := (106, 3, .goto (-71), (20, 0, 0), 0)) (by decide +kernel)) (am_tgt_of (by decide +kernel)) ?_
          refine am_Ek_ls (ls' := [(0, .ref 164), (1, .int n), (2, .int bd), (3, .int wh), (4, .int k), (5, .int (u * v6)), (6, .int (k + Int32.ofInt 1))]) ⟨rfl, rfl, rfl, rfl, rfl, rfl, rfl, trivial⟩ ?_
          exact ih _ _ _ g (by omega) (by omega) (by omega) gI gj gF
        · refine am_e_ifF (am_nxt_of (i := (82, 3, .ifCond .lt 13, (51, 0, 0), 0)) (by decide +kernel)) (am_c_ltF hb0) ?_
          refine am_e_iload (am_nxt_of (i := (85, 2, .iload 7, (0, 0, 0), 0)) (by decide +kernel)) (v := u * v6) rfl ?_
          refine am_e_iload (am_nxt_of (i := (87, 2, .iload 5, (0, 0, 0), 0)) (by decide +kernel)) (v := le) rfl ?_
          by_cases hc : (u * v6 : Int32) < le
          · refine am_e_cmpT (am_nxt_of (i := (89, 3, .if_icmp .lt 6, (51, 0, 0), 0)) (by decide +kernel)) (am_c_ltT hc) (am_tgt_of (by decide +kernel)) ?_
            refine am_e_iload (am_nxt_of (i := (95, 2, .iload 6, (0, 0, 0), 0)) (by decide +kernel)) (v := k) rfl ?_
            refine am_e_istore (ls' := [(4, .int k), (7, .int (u * v6)), (0, .ref 164), (1, .int n), (2, .int bd), (3, .int wh), (5, .int le), (6, .int k)]) (am_nxt_of (i := (97, 2, .istore 4, (0, 0, 0), 0)) (by decide +kernel)) (by decide +kernel) rfl ?_
            refine am_e_iload (am_nxt_of (i := (99, 2, .iload 7, (0, 0, 0), 0)) (by decide +kernel)) (v := u * v6) rfl ?_
            refine am_e_istore (ls' := [(5, .int (u * v6)), (4, .int k), (7, .int (u * v6)), (0, .ref 164), (1, .int n), (2, .int bd), (3, .int wh), (6, .int k)]) (am_nxt_of (i := (101, 2, .istore 5, (0, 0, 0), 0)) (by decide +kernel)) (by decide +kernel) rfl ?_
            refine am_e_iinc (w := k + Int32.ofInt 1) (ls' := [(6, .int (k + Int32.ofInt 1)), (5, .int (u * v6)), (4, .int k), (7, .int (u * v6)), (0, .ref 164), (1, .int n), (2, .int bd), (3, .int wh)]) (am_nxt_of (i := (103, 3, .iinc 6 1, (0, 0, 0), 0)) (by decide +kernel)) (v := k) rfl (by decide +kernel) rfl rfl ?_
            refine am_e_goto (am_cur_of (i := (106, 3, .goto (-71), (20, 0, 0), 0)) (by decide +kernel)) (am_tgt_of (by decide +kernel)) ?_
            refine am_Ek_ls (ls' := [(0, .ref 164), (1, .int n), (2, .int bd), (3, .int wh), (4, .int k), (5, .int (u * v6)), (6, .int (k + Int32.ofInt 1))]) ⟨rfl, rfl, rfl, rfl, rfl, rfl, rfl, trivial⟩ ?_
            exact ih _ _ _ g (by omega) (by omega) (by omega) gI gj gF
          · refine am_e_cmpF (am_nxt_of (i := (89, 3, .if_icmp .lt 6, (51, 0, 0), 0)) (by decide +kernel)) (am_c_ltF hc) ?_
            refine am_e_goto (am_cur_of (i := (92, 3, .goto 11, (55, 0, 0), 0)) (by decide +kernel)) (am_tgt_of (by decide +kernel)) ?_
            refine am_e_iinc (w := k + Int32.ofInt 1) (ls' := [(6, .int (k + Int32.ofInt 1)), (7, .int (u * v6)), (0, .ref 164), (1, .int n), (2, .int bd), (3, .int wh), (4, .int be), (5, .int le)]) (am_nxt_of (i := (103, 3, .iinc 6 1, (0, 0, 0), 0)) (by decide +kernel)) (v := k) rfl (by decide +kernel) rfl rfl ?_
            refine am_e_goto (am_cur_of (i := (106, 3, .goto (-71), (20, 0, 0), 0)) (by decide +kernel)) (am_tgt_of (by decide +kernel)) ?_
            refine am_Ek_ls (ls' := [(0, .ref 164), (1, .int n), (2, .int bd), (3, .int wh), (4, .int be), (5, .int le), (6, .int (k + Int32.ofInt 1))]) ⟨rfl, rfl, rfl, rfl, rfl, rfl, rfl, trivial⟩ ?_
            exact ih _ _ _ g (by omega) (by omega) (by omega) gI gj gF
    · refine am_e_cmpT (am_nxt_of (i := (41, 3, .if_icmp .ge 68, (57, 0, 0), 0)) (by decide +kernel)) (am_c_geT hk) (am_tgt_of (by decide +kernel)) ?_
      exact hend k be le h hI hj hF
theorem ac_cheapest (hX : ac_XF X) (hS : ac_SC (ac_JX X)) (hU : ab_Con ab_tab (ac_JX X) ab_S_isUp_x_x) {h : am_H} (hI : ab_Inv (ab_hi ab_tab) h) (hj : ac_JX X h) (hN : ab_Con ab_tab (ac_JX X) ab_S_isIn_x_0_1) {n bd wh : Int32} : am_Ek false am_G0 am_m231 0 (lv_args 0 [.ref 164, .int n, .int bd, .int wh]) [] am_ks0 h 0 0 (ac_opQ X ac_luO h) := by
  have I1 := ac_p2 (v := 0) hI (by decide) (by decide)
  have J1 := ac_JX_fr hX (md := [(164, 3)]) rfl _ (am_up h 164 2 (.int 0)) (ab_Fr_up rfl ab_Fr_refl) hj
  have f1 : ab_Fr ac_luO h (am_up h 164 2 (.int 0)) := ab_Fr_up rfl ab_Fr_refl
  obtain ⟨b, eb, b0, b4⟩ := ac_g12 I1
  refine am_e_aload_n (am_nxt_of (i := (0, 1, .aload_n 0, (0, 0, 0), 0)) (by decide +kernel)) (v := 164) rfl ?_
  refine am_e_iconst (w := 0) (am_nxt_of (i := (1, 1, .iconst 0, (0, 0, 0), 0)) (by decide +kernel)) rfl ?_
  refine am_e_putf (am_nxt_of (i := (2, 3, .putfield 139, (12, 2, 1386), 0)) (by decide +kernel)) ac_o rfl ?_
  refine am_e_iload_n (am_nxt_of (i := (5, 1, .iload_n 1, (0, 0, 0), 0)) (by decide +kernel)) (v := n) rfl ?_
  refine am_e_iload_n (am_nxt_of (i := (6, 1, .iload_n 2, (0, 0, 0), 0)) (by decide +kernel)) (v := bd) rfl ?_
  refine am_e_callS (M' := am_m227) (ar := [.int bd, .int n]) (rest := []) (L := lv_args 0 [.int n, .int bd]) (am_nxt_of (i := (7, 3, .invokestatic 501, (227, 1939, 3), 0)) (by decide +kernel)) rfl rfl rfl rfl rfl rfl rfl ?_
  refine am_Ev_mono (ac_isUp hU I1 J1) (fun r ks g hq => ?_)
  obtain ⟨rfl, gI, gj, gF, hr⟩ := hq
  have f2 := ab_Fr_trans f1 (ab_mdle_Fr (md' := ac_luO) (by decide) gF)
  have geb : g 164 12 = .int b := (gF 164 12 rfl).trans eb
  rcases hr with rfl | ⟨rfl, n9⟩
  · show am_Ek false am_G0 am_m231 6 _ [.int 0] _ _ _ _ _
    refine am_e_ifT (am_nxt_of (i := (10, 3, .ifCond .eq 12, (12, 0, 0), 0)) (by decide +kernel)) (am_c_eqT rfl) (am_tgt_of (by decide +kernel)) ?_
    refine am_e_iconst (w := (-1)) (am_nxt_of (i := (22, 1, .iconst (-1), (0, 0, 0), 0)) (by decide +kernel)) rfl ?_
    exact am_e_iret (ty := .int) (am_cur_of (i := (23, 1, .ireturn, (0, 0, 0), 0)) (by decide +kernel)) rfl rfl rfl ⟨rfl, gI, gj, f2, _, rfl⟩
  · show am_Ek false am_G0 am_m231 6 _ [.int 1] _ _ _ _ _
    refine am_e_ifF (am_nxt_of (i := (10, 3, .ifCond .eq 12, (12, 0, 0), 0)) (by decide +kernel)) (am_c_eqF (by decide)) ?_
    refine am_e_iload_n (am_nxt_of (i := (13, 1, .iload_n 3, (0, 0, 0), 0)) (by decide +kernel)) (v := wh) rfl ?_
    refine am_e_iconst (w := 0) (am_nxt_of (i := (14, 1, .iconst 0, (0, 0, 0), 0)) (by decide +kernel)) rfl ?_
    refine am_e_iconst (w := 1) (am_nxt_of (i := (15, 1, .iconst 1, (0, 0, 0), 0)) (by decide +kernel)) rfl ?_
    refine am_e_callS (M' := am_m162) (ar := [.int 1, .int 0, .int wh]) (rest := []) (L := lv_args 0 [.int wh, .int 0, .int 1]) (am_nxt_of (i := (16, 3, .invokestatic 184, (162, 1681, 3), 0)) (by decide +kernel)) rfl rfl rfl rfl rfl rfl rfl ?_
    refine am_Ev_mono (ac_use hN rfl ⟨ab_top_ok _, ab_i_ok (by decide) (by decide), ab_i_ok (by decide) (by decide), trivial⟩ gI gj ac_p0) (fun r ks g2 hq => ?_)
    obtain ⟨rfl, I2, J2, f3, c, hc, hg⟩ := hq
    have hr := ac_01 (s := ab_S_isIn_x_0_1) rfl hc hg.1
    have F2 := ab_Fr_trans f2 (ab_mdle_Fr (md' := ac_luO) (by decide) f3)
    rcases hr with rfl | rfl
    · show am_Ek false am_G0 am_m231 11 _ [.int 0] _ _ _ _ _
      refine am_e_ifF (am_nxt_of (i := (19, 3, .ifCond .ne 5, (14, 0, 0), 0)) (by decide +kernel)) (am_c_neF rfl) ?_
      refine am_e_iconst (w := (-1)) (am_nxt_of (i := (22, 1, .iconst (-1), (0, 0, 0), 0)) (by decide +kernel)) rfl ?_
      exact am_e_iret (ty := .int) (am_cur_of (i := (23, 1, .ireturn, (0, 0, 0), 0)) (by decide +kernel)) rfl rfl rfl ⟨rfl, I2, J2, F2, _, rfl⟩
    · show am_Ek false am_G0 am_m231 11 _ [.int 1] _ _ _ _ _
      refine am_e_ifT (am_nxt_of (i := (19, 3, .ifCond .ne 5, (14, 0, 0), 0)) (by decide +kernel)) (am_c_neT (by decide)) (am_tgt_of (by decide +kernel)) ?_
      refine am_e_bipush (w := (-2)) (am_nxt_of (i := (24, 2, .bipush (-2), (0, 0, 0), 0)) (by decide +kernel)) (by decide) ?_
      refine am_e_istore (ls' := [(4, .int (-2)), (0, .ref 164), (1, .int n), (2, .int bd), (3, .int wh)]) (am_nxt_of (i := (26, 2, .istore 4, (0, 0, 0), 0)) (by decide +kernel)) (by decide +kernel) rfl ?_
      refine am_e_bipush (w := (-2)) (am_nxt_of (i := (28, 2, .bipush (-2), (0, 0, 0), 0)) (by decide +kernel)) (by decide) ?_
      refine am_e_istore (ls' := [(5, .int (-2)), (4, .int (-2)), (0, .ref 164), (1, .int n), (2, .int bd), (3, .int wh)]) (am_nxt_of (i := (30, 2, .istore 5, (0, 0, 0), 0)) (by decide +kernel)) (by decide +kernel) rfl ?_
      refine am_e_iconst (w := 0) (am_nxt_of (i := (32, 1, .iconst 0, (0, 0, 0), 0)) (by decide +kernel)) rfl ?_
      refine am_e_istore (ls' := [(6, .int 0), (5, .int (-2)), (4, .int (-2)), (0, .ref 164), (1, .int n), (2, .int bd), (3, .int wh)]) (am_nxt_of (i := (33, 2, .istore 6, (0, 0, 0), 0)) (by decide +kernel)) (by decide +kernel) rfl ?_
      refine am_Ek_ls (ls' := [(0, .ref 164), (1, .int n), (2, .int bd), (3, .int wh), (4, .int (-2)), (5, .int (-2)), (6, .int 0)]) ⟨rfl, rfl, rfl, rfl, rfl, rfl, rfl, trivial⟩ ?_
      exact ac_ch_l (h0 := h) hX hS n9 (show h 164 12 = .int b from eb) b4 4 0 _ _ g2 (by rw [show (0 : Int32).toInt = 0 by decide]; omega) (by decide) (by decide) I2 J2 F2
end ACL
