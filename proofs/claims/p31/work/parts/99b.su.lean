/-! ===== THE MODEL'S signs, sumRead (wip/s/gen99b.py) ===== -/
section ACG
variable {J : am_H → Prop} {h0 : am_H}
theorem ac_signs (hJ : ac_JP J) (hpk : ab_Con ab_tab (fun _ => True) ab_S_packed_x_x) {m : Int} {h : am_H} (hS : ac_SS J h0 1 m h) (ewa : h 164 45 = .int 0) : am_Ek false am_G0 am_m178 0 (lv_args 0 [.ref 164]) [] am_ks0 h 0 0 (ac_lfQ J h0 m) := by
  obtain ⟨hI, hj, hF, hSk, hMu⟩ := hS
  obtain ⟨hM1, hNp, k, w, ek, ew, kw1, kw3, kw5⟩ := hJ.1 h hj
  obtain ⟨R, C, W, H, B, r1, r2, r3, r4, r5, s1, s2, s3, s4, s5, s6, s7, s8, s9⟩ := id hSk
  obtain ⟨d1, d2, d3, d4, d5⟩ := ab_cnt_nn (h := h) (n := W.toInt.toNat)
  have z0 : (0 : Int32).toInt = 0 := by decide
  have z1 : (1 : Int32).toInt = 1 := by decide
  have z4 : (4 : Int32).toInt = 4 := by decide
  have z5 : (5 : Int32).toInt = 5 := by decide
  have z8 : (8 : Int32).toInt = 8 := by decide
  have hop : ∀ v : Int32, (v = 0 ∨ 3 ≤ v.toInt ∧ v.toInt ≤ 14 ∧ ¬ k.toInt = 0) → am_Ek false am_G0 am_m178 72 [(0, .ref 164)] [.int v] am_ks0 h 0 0 (ac_lfQ J h0 m) := by
    intro v hv
    refine am_e_istore_n (ls' := [(1, .int v), (0, .ref 164)]) (am_nxt_of (i := (147, 1, .istore_n 1, (0, 0, 0), 0)) (by decide +kernel)) (by decide +kernel) rfl ?_
    refine am_e_iload_n (am_nxt_of (i := (148, 1, .iload_n 1, (0, 0, 0), 0)) (by decide +kernel)) (v := v) rfl ?_
    rcases hv with rfl | ⟨v3, v14, hk0⟩
    · refine am_e_ifF (am_nxt_of (i := (149, 3, .ifCond .ne 9, (79, 0, 0), 0)) (by decide +kernel)) (am_c_neF rfl) ?_
      refine am_e_aload_n (am_nxt_of (i := (152, 1, .aload_n 0, (0, 0, 0), 0)) (by decide +kernel)) (v := 164) rfl ?_
      refine am_e_iconst (w := 1) (am_nxt_of (i := (153, 1, .iconst 1, (0, 0, 0), 0)) (by decide +kernel)) rfl ?_
      refine am_e_callV (M' := am_m158) (o := 164) (ar := [.int 1]) (rest := []) (L := lv_args 0 [.ref 164, .int 1]) (am_nxt_of (i := (154, 3, .invokevirtual 181, (158, 1665, 3), 0)) (by decide +kernel)) rfl rfl rfl rfl ac_o rfl rfl rfl ?_
      refine am_Ev_mono (ac_wrong hI (by decide) (by decide)) (fun r ks h' hq => ?_)
      obtain ⟨rfl, rfl, q1, q2⟩ := hq
      show am_Ek false am_G0 am_m178 78 _ [.int 0] _ _ _ _ _
      exact am_e_iret (ty := .boolean) (am_cur_of (i := (157, 1, .ireturn, (0, 0, 0), 0)) (by decide +kernel)) rfl rfl rfl ⟨rfl, Or.inl ⟨rfl, q1, hJ.2.2.1 _ _ (ab_mdle_Fr (by decide) q2) hj, ab_Fr_trans hF (ab_mdle_Fr (by decide) q2)⟩⟩
    · refine am_e_ifT (am_nxt_of (i := (149, 3, .ifCond .ne 9, (79, 0, 0), 0)) (by decide +kernel)) (am_c_neT (fun e => by rw [e, z0] at v3; omega)) (am_tgt_of (by decide +kernel)) ?_
      have hafter : ∀ g : am_H, ac_SS J h0 1 m g → g 164 8 = .int k → am_Ek false am_G0 am_m178 89 [(1, .int v), (0, .ref 164)] [] am_ks0 g 0 0 (ac_lfQ J h0 m) := by
        intro g hSg ekg
        obtain ⟨gI, gj, gF, gSk, gMu⟩ := hSg
        obtain ⟨R, C, W, H, B, r1, r2, r3, r4, r5, s1, s2, s3, s4, s5, s6, s7, s8, s9⟩ := id gSk
        obtain ⟨d1, d2, d3, d4, d5⟩ := ab_cnt_nn (h := g) (n := W.toInt.toNat)
        have eWc : W.toNatClampNeg = W.toInt.toNat := ab_clamp (by omega)
        have hcount : am_Ek false am_G0 am_m178 110 [(1, .int v), (0, .ref 164)] [] am_ks0 g 0 0 (ac_lfQ J h0 m) := by
          refine am_e_aload_n (am_nxt_of (i := (217, 1, .aload_n 0, (0, 0, 0), 0)) (by decide +kernel)) (v := 164) rfl ?_
          refine am_e_callV (M' := am_m175) (o := 164) (ar := []) (rest := []) (L := lv_args 0 [.ref 164]) (am_nxt_of (i := (218, 3, .invokevirtual 309, (175, 1731, 3), 0)) (by decide +kernel)) rfl rfl rfl rfl ac_o rfl rfl rfl ?_
          refine am_Ev_mono (ac_isCounted gI r2) (fun r ks h3 hq => ?_)
          obtain ⟨rfl, ⟨rfl, q1, q2⟩ | ⟨rfl, hC6, rfl⟩⟩ := hq
          · show am_Ek false am_G0 am_m178 112 _ [.int 0] _ _ _ _ _
            refine am_e_ifF (am_nxt_of (i := (221, 3, .ifCond .ne 5, (115, 0, 0), 0)) (by decide +kernel)) (am_c_neF rfl) ?_
            refine am_e_iconst (w := 0) (am_nxt_of (i := (224, 1, .iconst 0, (0, 0, 0), 0)) (by decide +kernel)) rfl ?_
            exact am_e_iret (ty := .boolean) (am_cur_of (i := (225, 1, .ireturn, (0, 0, 0), 0)) (by decide +kernel)) rfl rfl rfl ⟨rfl, Or.inl ⟨rfl, q1, hJ.2.2.1 _ _ (ab_mdle_Fr (by decide) q2) gj, ab_Fr_trans gF (ab_mdle_Fr (by decide) q2)⟩⟩
          · show am_Ek false am_G0 am_m178 112 _ [.int 1] _ _ _ _ _
            refine am_e_ifT (am_nxt_of (i := (221, 3, .ifCond .ne 5, (115, 0, 0), 0)) (by decide +kernel)) (am_c_neT (by decide)) (am_tgt_of (by decide +kernel)) ?_
            refine am_e_aload_n (am_nxt_of (i := (226, 1, .aload_n 0, (0, 0, 0), 0)) (by decide +kernel)) (v := 164) rfl ?_
            refine am_e_iload_n (am_nxt_of (i := (227, 1, .iload_n 1, (0, 0, 0), 0)) (by decide +kernel)) (v := v) rfl ?_
            have eC := ac_c1 (x := C) (by omega) (by omega)
            have I1 := ac_p44 (v := C + 1) gI (by omega) (by omega)
            have eW1 := ac_c1 (x := W) (by omega) (by omega)
            have v0 : ¬ v = 0 := fun e => by rw [e, z0] at v3; omega
            have v2 : ¬ v = 2 := fun e => by rw [e, show (2 : Int32).toInt = 2 by decide] at v3; omega
            have v1 : ¬ v = 1 := fun e => by rw [e, z1] at v3; omega
            refine am_e_callV (M' := am_m173) (o := 164) (ar := [.int v]) (rest := []) (L := lv_args 0 [.ref 164, .int v]) (am_nxt_of (i := (228, 3, .invokevirtual 298, (173, 1723, 3), 0)) (by decide +kernel)) rfl rfl rfl rfl ac_o rfl rfl rfl ?_
            refine am_Ev_mono (ab_waitsFor (w := W) (k := v) I1 r3 s2 (by omega)) (fun r ks h3 hq => ?_)
            obtain ⟨rfl, rfl, e2⟩ := hq
            show am_Ek false am_G0 am_m178 118 _ [] _ _ _ _ _
            have I2 : ab_Inv (ab_hi ab_tab) h3 := by
              rw [e2]
              exact ac_p41 (ac_w184 I1 (by omega) (by omega)) (by omega) (by omega)
            refine am_e_aload_n (am_nxt_of (i := (231, 1, .aload_n 0, (0, 0, 0), 0)) (by decide +kernel)) (v := 164) rfl ?_
            refine am_e_iconst (w := 1) (am_nxt_of (i := (232, 1, .iconst 1, (0, 0, 0), 0)) (by decide +kernel)) rfl ?_
            have I3 := ac_p45 (v := 1) I2 (by decide) (by decide)
            refine am_e_putf (am_nxt_of (i := (233, 3, .putfield 315, (12, 45, 1429), 0)) (by decide +kernel)) ac_o rfl ?_
            refine am_e_aload_n (am_nxt_of (i := (236, 1, .aload_n 0, (0, 0, 0), 0)) (by decide +kernel)) (v := 164) rfl ?_
            refine am_e_iload_n (am_nxt_of (i := (237, 1, .iload_n 1, (0, 0, 0), 0)) (by decide +kernel)) (v := v) rfl ?_
            refine am_e_callS (M' := am_m180) (ar := [.int v]) (rest := [.ref 164]) (L := lv_args 0 [.int v]) (am_nxt_of (i := (238, 3, .invokestatic 283, (180, 1751, 3), 0)) (by decide +kernel)) rfl rfl rfl rfl rfl rfl rfl ?_
            refine am_Ev_mono ab_rank (fun r ks h4 hq => ?_)
            obtain ⟨rfl, rfl, y, rfl, -⟩ := hq
            show am_Ek false am_G0 am_m178 124 _ [.int y, .ref 164] _ _ _ _ _
            refine am_e_iconst (w := 3) (am_nxt_of (i := (241, 1, .iconst 3, (0, 0, 0), 0)) (by decide +kernel)) rfl ?_
            have hend : ∀ u : Int32, (u = 0 ∨ u = 1) → am_Ek false am_G0 am_m178 129 [(1, .int v), (0, .ref 164)] [.int u, .ref 164] am_ks0 (am_up h3 164 45 (.int 1)) 0 0 (ac_lfQ J h0 m) := by
              intro u hu
              have u1 : 0 ≤ u.toInt ∧ u.toInt ≤ 1 := by rcases hu with rfl | rfl <;> decide
              have I4 := ac_p46 (v := u) I3 u1.1 u1.2
              refine am_e_putf (am_nxt_of (i := (250, 3, .putfield 302, (12, 46, 1430), 0)) (by decide +kernel)) ac_o (by rcases hu with rfl | rfl <;> rfl) ?_
              have F3 : ab_Fr ac_sM g (am_up (am_up h3 164 45 (.int 1)) 164 46 (.int u)) := by
                rw [e2]
                exact ab_Fr_up rfl (ab_Fr_up rfl (ab_Fr_up rfl (ab_Fr_up rfl (ab_Fr_up rfl ab_Fr_refl))))
              have J3 := hJ.2.2.1 _ _ F3 gj
              have S3 : ab_Sk 0 (am_up (am_up h3 164 45 (.int 1)) 164 46 (.int u)) := by
                rw [e2]
                exact ac_Sk_push (R := R) (H := H) (k := v) (C' := C + 1) (B' := B) gSk rfl r2 rfl r3 rfl rfl r5 r5 (fun i hi => by
                  show am_up _ 184 W.toNatClampNeg _ 184 i = _
                  rw [am_up_same _ _ _ _ _ (by omega)]
                  rfl) (by
                  show am_up _ 184 W.toNatClampNeg _ 184 W.toInt.toNat = _
                  rw [eWc]
                  exact am_up_self _ _ _ _) (by rw [if_neg v0]; omega) (by omega) (by rw [if_neg v0]; omega) (by omega) (by rw [if_neg v0, if_neg v2]; omega) v1
              have M3 : ac_Mu m (am_up (am_up h3 164 45 (.int 1)) 164 46 (.int u)) := ac_Mu_fr gMu (by rw [e2]; rfl) (by rw [e2]; rfl) (by rw [e2]; rfl)
              refine am_e_aload_n (am_nxt_of (i := (253, 1, .aload_n 0, (0, 0, 0), 0)) (by decide +kernel)) (v := 164) rfl ?_
              refine am_e_callV (M' := am_m151) (o := 164) (ar := []) (rest := []) (L := lv_args 0 [.ref 164]) (am_nxt_of (i := (254, 3, .invokevirtual 191, (151, 1636, 3), 0)) (by decide +kernel)) rfl rfl rfl rfl ac_o rfl rfl rfl ?_
              refine am_Ev_mono (ac_token hpk I4 (hJ.1 _ J3).1 (hJ.1 _ J3).2.1) (fun r ks h4 hq => ?_)
              obtain ⟨rfl, rfl, q3, q4⟩ := hq
              show am_Ek false am_G0 am_m178 132 _ [] _ _ _ _ _
              refine am_e_iconst (w := 1) (am_nxt_of (i := (257, 1, .iconst 1, (0, 0, 0), 0)) (by decide +kernel)) rfl ?_
              exact am_e_iret (ty := .boolean) (am_cur_of (i := (258, 1, .ireturn, (0, 0, 0), 0)) (by decide +kernel)) rfl rfl rfl ⟨rfl, Or.inr ⟨rfl, Or.inl ⟨ac_SS_tk hJ q3 q4 J3 (ab_Fr_trans gF (ab_mdle_Fr (by decide) F3)) S3 M3 (k := k) (by rw [e2]; exact ekg) hk0, by rw [q4.1 164 45 (by decide), am_up_same _ _ _ _ _ (by decide)]; exact am_up_self _ _ _ _⟩⟩⟩
            by_cases hy : (y : Int32) < 3
            · refine am_e_cmpF (am_nxt_of (i := (242, 3, .if_icmp .ge 7, (128, 0, 0), 0)) (by decide +kernel)) (am_c_geF hy) ?_
              refine am_e_iconst (w := 1) (am_nxt_of (i := (245, 1, .iconst 1, (0, 0, 0), 0)) (by decide +kernel)) rfl ?_
              refine am_e_goto (am_cur_of (i := (246, 3, .goto 4, (129, 0, 0), 0)) (by decide +kernel)) (am_tgt_of (by decide +kernel)) ?_
              exact hend _ (Or.inr rfl)
            · refine am_e_cmpT (am_nxt_of (i := (242, 3, .if_icmp .ge 7, (128, 0, 0), 0)) (by decide +kernel)) (am_c_geT hy) (am_tgt_of (by decide +kernel)) ?_
              refine am_e_iconst (w := 0) (am_nxt_of (i := (249, 1, .iconst 0, (0, 0, 0), 0)) (by decide +kernel)) rfl ?_
              exact hend _ (Or.inl rfl)
        refine am_e_iload_n (am_nxt_of (i := (178, 1, .iload_n 1, (0, 0, 0), 0)) (by decide +kernel)) (v := v) rfl ?_
        refine am_e_callS (M' := am_m180) (ar := [.int v]) (rest := []) (L := lv_args 0 [.int v]) (am_nxt_of (i := (179, 3, .invokestatic 283, (180, 1751, 3), 0)) (by decide +kernel)) rfl rfl rfl rfl rfl rfl rfl ?_
        refine am_Ev_mono ab_rank (fun r ks h4 hq => ?_)
        obtain ⟨rfl, rfl, y, rfl, -⟩ := hq
        show am_Ek false am_G0 am_m178 91 _ [.int y] _ _ _ _ _
        refine am_e_iconst (w := 4) (am_nxt_of (i := (182, 1, .iconst 4, (0, 0, 0), 0)) (by decide +kernel)) rfl ?_
        by_cases hy4 : (y : Int32) = 4
        · refine am_e_cmpF (am_nxt_of (i := (183, 3, .if_icmp .ne 34, (110, 0, 0), 0)) (by decide +kernel)) (am_c_neF hy4) ?_
          refine am_e_aload_n (am_nxt_of (i := (186, 1, .aload_n 0, (0, 0, 0), 0)) (by decide +kernel)) (v := 164) rfl ?_
          refine am_e_getf (v := .int W) (am_nxt_of (i := (187, 3, .getfield 280, (12, 41, 1425), 0)) (by decide +kernel)) ac_o r3 ?_
          by_cases hW : (0 : Int32) < W
          · refine am_e_ifF (am_nxt_of (i := (190, 3, .ifCond .le 27, (110, 0, 0), 0)) (by decide +kernel)) (am_c_leF hW) ?_
            have hW := ac_lt' hW
            have eW1 : (W - 1).toInt = W.toInt - 1 := by rw [ab_isub (by omega) (by omega), z1]
            have hix := ab_ix (x := W - 1) (n := 96) (by omega) (by omega)
            obtain ⟨q, eq, -⟩ := ac_r184 gI (q := (W - 1).toNatClampNeg) (Nat.lt_of_not_le (fun q => hix (Or.inr q)))
            refine am_e_aload_n (am_nxt_of (i := (193, 1, .aload_n 0, (0, 0, 0), 0)) (by decide +kernel)) (v := 164) rfl ?_
            refine am_e_getf (am_nxt_of (i := (194, 3, .getfield 72, (12, 39, 1423), 0)) (by decide +kernel)) ac_o (ac_f39 gI) ?_
            refine am_e_aload_n (am_nxt_of (i := (197, 1, .aload_n 0, (0, 0, 0), 0)) (by decide +kernel)) (v := 164) rfl ?_
            refine am_e_getf (v := .int W) (am_nxt_of (i := (198, 3, .getfield 280, (12, 41, 1425), 0)) (by decide +kernel)) ac_o r3 ?_
            refine am_e_iconst (w := 1) (am_nxt_of (i := (201, 1, .iconst 1, (0, 0, 0), 0)) (by decide +kernel)) rfl ?_
            refine am_e_isub (w := W - 1) (am_nxt_of (i := (202, 1, .isub, (0, 0, 0), 0)) (by decide +kernel)) rfl ?_
            refine am_e_iaload (v := q) (am_nxt_of (i := (203, 1, .iaload, (0, 0, 0), 0)) (by decide +kernel)) ac_k184 hix rfl eq ?_
            refine am_e_callS (M' := am_m180) (ar := [.int q]) (rest := []) (L := lv_args 0 [.int q]) (am_nxt_of (i := (204, 3, .invokestatic 283, (180, 1751, 3), 0)) (by decide +kernel)) rfl rfl rfl rfl rfl rfl rfl ?_
            refine am_Ev_mono ab_rank (fun r ks h4 hq => ?_)
            obtain ⟨rfl, rfl, y2, rfl, -⟩ := hq
            show am_Ek false am_G0 am_m178 104 _ [.int y2] _ _ _ _ _
            refine am_e_iconst (w := 4) (am_nxt_of (i := (207, 1, .iconst 4, (0, 0, 0), 0)) (by decide +kernel)) rfl ?_
            by_cases hy2 : (y2 : Int32) = 4
            · refine am_e_cmpF (am_nxt_of (i := (208, 3, .if_icmp .ne 9, (110, 0, 0), 0)) (by decide +kernel)) (am_c_neF hy2) ?_
              refine am_e_aload_n (am_nxt_of (i := (211, 1, .aload_n 0, (0, 0, 0), 0)) (by decide +kernel)) (v := 164) rfl ?_
              refine am_e_iconst (w := 1) (am_nxt_of (i := (212, 1, .iconst 1, (0, 0, 0), 0)) (by decide +kernel)) rfl ?_
              refine am_e_callV (M' := am_m158) (o := 164) (ar := [.int 1]) (rest := []) (L := lv_args 0 [.ref 164, .int 1]) (am_nxt_of (i := (213, 3, .invokevirtual 181, (158, 1665, 3), 0)) (by decide +kernel)) rfl rfl rfl rfl ac_o rfl rfl rfl ?_
              refine am_Ev_mono (ac_wrong gI (by decide) (by decide)) (fun r ks h' hq => ?_)
              obtain ⟨rfl, rfl, q1, q2⟩ := hq
              show am_Ek false am_G0 am_m178 109 _ [.int 0] _ _ _ _ _
              exact am_e_iret (ty := .boolean) (am_cur_of (i := (216, 1, .ireturn, (0, 0, 0), 0)) (by decide +kernel)) rfl rfl rfl ⟨rfl, Or.inl ⟨rfl, q1, hJ.2.2.1 _ _ (ab_mdle_Fr (by decide) q2) gj, ab_Fr_trans gF (ab_mdle_Fr (by decide) q2)⟩⟩
            · refine am_e_cmpT (am_nxt_of (i := (208, 3, .if_icmp .ne 9, (110, 0, 0), 0)) (by decide +kernel)) (am_c_neT hy2) (am_tgt_of (by decide +kernel)) ?_
              exact hcount
          · refine am_e_ifT (am_nxt_of (i := (190, 3, .ifCond .le 27, (110, 0, 0), 0)) (by decide +kernel)) (am_c_leT hW) (am_tgt_of (by decide +kernel)) ?_
            exact hcount
        · refine am_e_cmpT (am_nxt_of (i := (183, 3, .if_icmp .ne 34, (110, 0, 0), 0)) (by decide +kernel)) (am_c_neT hy4) (am_tgt_of (by decide +kernel)) ?_
          exact hcount
      have hbind : ∀ l : Int32, 1 ≤ l.toInt → am_Ek false am_G0 am_m178 88 [(1, .int v), (0, .ref 164)] [.int l, .ref 164] am_ks0 h 0 0 (ac_lfQ J h0 m) := by
        intro l l1
        refine am_e_callV (M' := am_m179) (o := 164) (ar := [.int l]) (rest := []) (L := lv_args 0 [.ref 164, .int l]) (am_nxt_of (i := (175, 3, .invokevirtual 318, (179, 1747, 3), 0)) (by decide +kernel)) rfl rfl rfl rfl ac_o rfl rfl rfl ?_
        refine am_Ev_mono (ab_bind hJ.2.2.2 l1 W.toInt.toNat h (fun w2 e => by rw [r3] at e; cases e; omega) hI hj hSk) (fun r ks g hq => ?_)
        obtain ⟨rfl, rfl, g1, g2, g3, g4, -⟩ := hq
        show am_Ek false am_G0 am_m178 89 _ [] _ _ _ _ _
        exact hafter g ⟨g1, g2, ab_Fr_trans hF (ab_mdle_Fr (by decide) g4), g3, ac_Mu_fr hMu (g4 _ _ (by decide)) (g4 _ _ (by decide)) (g4 _ _ (by decide))⟩ ((g4 _ _ (by decide)).trans ek)
      refine am_e_aload_n (am_nxt_of (i := (158, 1, .aload_n 0, (0, 0, 0), 0)) (by decide +kernel)) (v := 164) rfl ?_
      refine am_e_iload_n (am_nxt_of (i := (159, 1, .iload_n 1, (0, 0, 0), 0)) (by decide +kernel)) (v := v) rfl ?_
      refine am_e_callS (M' := am_m180) (ar := [.int v]) (rest := [.ref 164]) (L := lv_args 0 [.int v]) (am_nxt_of (i := (160, 3, .invokestatic 283, (180, 1751, 3), 0)) (by decide +kernel)) rfl rfl rfl rfl rfl rfl rfl ?_
      refine am_Ev_mono ab_rank (fun r ks h4 hq => ?_)
      obtain ⟨rfl, rfl, y, rfl, -⟩ := hq
      show am_Ek false am_G0 am_m178 82 _ [.int y, .ref 164] _ _ _ _ _
      refine am_e_iconst (w := 4) (am_nxt_of (i := (163, 1, .iconst 4, (0, 0, 0), 0)) (by decide +kernel)) rfl ?_
      by_cases hy : (y : Int32) = 4
      · refine am_e_cmpF (am_nxt_of (i := (164, 3, .if_icmp .ne 7, (86, 0, 0), 0)) (by decide +kernel)) (am_c_neF hy) ?_
        refine am_e_iconst (w := 5) (am_nxt_of (i := (167, 1, .iconst 5, (0, 0, 0), 0)) (by decide +kernel)) rfl ?_
        refine am_e_goto (am_cur_of (i := (168, 3, .goto 7, (88, 0, 0), 0)) (by decide +kernel)) (am_tgt_of (by decide +kernel)) ?_
        exact hbind _ (by decide)
      · refine am_e_cmpT (am_nxt_of (i := (164, 3, .if_icmp .ne 7, (86, 0, 0), 0)) (by decide +kernel)) (am_c_neT hy) (am_tgt_of (by decide +kernel)) ?_
        refine am_e_iload_n (am_nxt_of (i := (171, 1, .iload_n 1, (0, 0, 0), 0)) (by decide +kernel)) (v := v) rfl ?_
        refine am_e_callS (M' := am_m180) (ar := [.int v]) (rest := [.ref 164]) (L := lv_args 0 [.int v]) (am_nxt_of (i := (172, 3, .invokestatic 283, (180, 1751, 3), 0)) (by decide +kernel)) rfl rfl rfl rfl rfl rfl rfl ?_
        refine am_Ev_mono ab_rank (fun r ks h4 hq => ?_)
        obtain ⟨rfl, rfl, y2, rfl, -, hy2⟩ := hq
        show am_Ek false am_G0 am_m178 88 _ [.int y2, .ref 164] _ _ _ _ _
        exact hbind _ (hy2 (by omega))
  have hfind : am_Ek false am_G0 am_m178 26 [(0, .ref 164)] [] am_ks0 h 0 0 (ac_lfQ J h0 m) := by
    refine am_e_aload_n (am_nxt_of (i := (47, 1, .aload_n 0, (0, 0, 0), 0)) (by decide +kernel)) (v := 164) rfl ?_
    refine am_e_bipush (w := 12) (am_nxt_of (i := (48, 2, .bipush 12, (0, 0, 0), 0)) (by decide +kernel)) (by decide) ?_
    refine am_e_callV (M' := am_m174) (o := 164) (ar := [.int 12]) (rest := []) (L := lv_args 0 [.ref 164, .int 12]) (am_nxt_of (i := (50, 3, .invokevirtual 306, (174, 1727, 3), 0)) (by decide +kernel)) rfl rfl rfl rfl ac_o rfl rfl rfl ?_
    refine am_Ev_mono (ac_isKey ek ew) (fun r ks h' hq => ?_)
    obtain ⟨rfl, rfl, ⟨rfl, hk, -⟩ | rfl⟩ := hq
    · show am_Ek false am_G0 am_m178 29 _ [.int 1] _ _ _ _ _
      refine am_e_ifF (am_nxt_of (i := (53, 3, .ifCond .eq 7, (32, 0, 0), 0)) (by decide +kernel)) (am_c_eqF (by decide)) ?_
      refine am_e_iconst (w := 3) (am_nxt_of (i := (56, 1, .iconst 3, (0, 0, 0), 0)) (by decide +kernel)) rfl ?_
      refine am_e_goto (am_cur_of (i := (57, 3, .goto 90, (72, 0, 0), 0)) (by decide +kernel)) (am_tgt_of (by decide +kernel)) ?_
      exact hop _ (Or.inr ⟨by decide, by decide, by rw [hk]; decide⟩)
    · show am_Ek false am_G0 am_m178 29 _ [.int 0] _ _ _ _ _
      refine am_e_ifT (am_nxt_of (i := (53, 3, .ifCond .eq 7, (32, 0, 0), 0)) (by decide +kernel)) (am_c_eqT rfl) (am_tgt_of (by decide +kernel)) ?_
      refine am_e_aload_n (am_nxt_of (i := (60, 1, .aload_n 0, (0, 0, 0), 0)) (by decide +kernel)) (v := 164) rfl ?_
      refine am_e_bipush (w := 13) (am_nxt_of (i := (61, 2, .bipush 13, (0, 0, 0), 0)) (by decide +kernel)) (by decide) ?_
      refine am_e_callV (M' := am_m174) (o := 164) (ar := [.int 13]) (rest := []) (L := lv_args 0 [.ref 164, .int 13]) (am_nxt_of (i := (63, 3, .invokevirtual 306, (174, 1727, 3), 0)) (by decide +kernel)) rfl rfl rfl rfl ac_o rfl rfl rfl ?_
      refine am_Ev_mono (ac_isKey ek ew) (fun r ks h' hq => ?_)
      obtain ⟨rfl, rfl, ⟨rfl, hk, -⟩ | rfl⟩ := hq
      · show am_Ek false am_G0 am_m178 35 _ [.int 1] _ _ _ _ _
        refine am_e_ifF (am_nxt_of (i := (66, 3, .ifCond .eq 7, (38, 0, 0), 0)) (by decide +kernel)) (am_c_eqF (by decide)) ?_
        refine am_e_iconst (w := 4) (am_nxt_of (i := (69, 1, .iconst 4, (0, 0, 0), 0)) (by decide +kernel)) rfl ?_
        refine am_e_goto (am_cur_of (i := (70, 3, .goto 77, (72, 0, 0), 0)) (by decide +kernel)) (am_tgt_of (by decide +kernel)) ?_
        exact hop _ (Or.inr ⟨by decide, by decide, by rw [hk]; decide⟩)
      · show am_Ek false am_G0 am_m178 35 _ [.int 0] _ _ _ _ _
        refine am_e_ifT (am_nxt_of (i := (66, 3, .ifCond .eq 7, (38, 0, 0), 0)) (by decide +kernel)) (am_c_eqT rfl) (am_tgt_of (by decide +kernel)) ?_
        refine am_e_aload_n (am_nxt_of (i := (73, 1, .aload_n 0, (0, 0, 0), 0)) (by decide +kernel)) (v := 164) rfl ?_
        refine am_e_getf (v := .int k) (am_nxt_of (i := (74, 3, .getfield 157, (12, 8, 1392), 0)) (by decide +kernel)) ac_o ek ?_
        refine am_e_iconst (w := 5) (am_nxt_of (i := (77, 1, .iconst 5, (0, 0, 0), 0)) (by decide +kernel)) rfl ?_
        by_cases hk5 : (k : Int32) = 5
        · refine am_e_cmpF (am_nxt_of (i := (78, 3, .if_icmp .ne 12, (47, 0, 0), 0)) (by decide +kernel)) (am_c_neF hk5) ?_
          obtain ⟨w0, w5⟩ := kw5 (by rw [hk5, z5])
          have e5 := ab_iadd (x := 5) (y := w) (by omega) (by omega)
          refine am_e_iconst (w := 5) (am_nxt_of (i := (81, 1, .iconst 5, (0, 0, 0), 0)) (by decide +kernel)) rfl ?_
          refine am_e_aload_n (am_nxt_of (i := (82, 1, .aload_n 0, (0, 0, 0), 0)) (by decide +kernel)) (v := 164) rfl ?_
          refine am_e_getf (v := .int w) (am_nxt_of (i := (83, 3, .getfield 168, (12, 9, 1393), 0)) (by decide +kernel)) ac_o ew ?_
          refine am_e_iadd (w := 5 + w) (am_nxt_of (i := (86, 1, .iadd, (0, 0, 0), 0)) (by decide +kernel)) rfl ?_
          refine am_e_goto (am_cur_of (i := (87, 3, .goto 60, (72, 0, 0), 0)) (by decide +kernel)) (am_tgt_of (by decide +kernel)) ?_
          exact hop _ (Or.inr ⟨by omega, by omega, by rw [hk5]; decide⟩)
        · refine am_e_cmpT (am_nxt_of (i := (78, 3, .if_icmp .ne 12, (47, 0, 0), 0)) (by decide +kernel)) (am_c_neT hk5) (am_tgt_of (by decide +kernel)) ?_
          refine am_e_aload_n (am_nxt_of (i := (90, 1, .aload_n 0, (0, 0, 0), 0)) (by decide +kernel)) (v := 164) rfl ?_
          refine am_e_bipush (w := 43) (am_nxt_of (i := (91, 2, .bipush 43, (0, 0, 0), 0)) (by decide +kernel)) (by decide) ?_
          refine am_e_callV (M' := am_m171) (o := 164) (ar := [.int 43]) (rest := []) (L := lv_args 0 [.ref 164, .int 43]) (am_nxt_of (i := (93, 3, .invokevirtual 194, (171, 1715, 3), 0)) (by decide +kernel)) rfl rfl rfl rfl ac_o rfl rfl rfl ?_
          refine am_Ev_mono (ac_isSign ek ew) (fun r ks h' hq => ?_)
          obtain ⟨rfl, rfl, ⟨rfl, hk, -⟩ | rfl⟩ := hq
          · show am_Ek false am_G0 am_m178 50 _ [.int 1] _ _ _ _ _
            refine am_e_ifF (am_nxt_of (i := (96, 3, .ifCond .eq 8, (53, 0, 0), 0)) (by decide +kernel)) (am_c_eqF (by decide)) ?_
            refine am_e_bipush (w := 11) (am_nxt_of (i := (99, 2, .bipush 11, (0, 0, 0), 0)) (by decide +kernel)) (by decide) ?_
            refine am_e_goto (am_cur_of (i := (101, 3, .goto 46, (72, 0, 0), 0)) (by decide +kernel)) (am_tgt_of (by decide +kernel)) ?_
            exact hop _ (Or.inr ⟨by decide, by decide, by rw [hk]; decide⟩)
          · show am_Ek false am_G0 am_m178 50 _ [.int 0] _ _ _ _ _
            refine am_e_ifT (am_nxt_of (i := (96, 3, .ifCond .eq 8, (53, 0, 0), 0)) (by decide +kernel)) (am_c_eqT rfl) (am_tgt_of (by decide +kernel)) ?_
            refine am_e_aload_n (am_nxt_of (i := (104, 1, .aload_n 0, (0, 0, 0), 0)) (by decide +kernel)) (v := 164) rfl ?_
            refine am_e_bipush (w := 45) (am_nxt_of (i := (105, 2, .bipush 45, (0, 0, 0), 0)) (by decide +kernel)) (by decide) ?_
            refine am_e_callV (M' := am_m171) (o := 164) (ar := [.int 45]) (rest := []) (L := lv_args 0 [.ref 164, .int 45]) (am_nxt_of (i := (107, 3, .invokevirtual 194, (171, 1715, 3), 0)) (by decide +kernel)) rfl rfl rfl rfl ac_o rfl rfl rfl ?_
            refine am_Ev_mono (ac_isSign ek ew) (fun r ks h' hq => ?_)
            obtain ⟨rfl, rfl, ⟨rfl, hk, -⟩ | rfl⟩ := hq
            · show am_Ek false am_G0 am_m178 56 _ [.int 1] _ _ _ _ _
              refine am_e_ifF (am_nxt_of (i := (110, 3, .ifCond .eq 8, (59, 0, 0), 0)) (by decide +kernel)) (am_c_eqF (by decide)) ?_
              refine am_e_bipush (w := 12) (am_nxt_of (i := (113, 2, .bipush 12, (0, 0, 0), 0)) (by decide +kernel)) (by decide) ?_
              refine am_e_goto (am_cur_of (i := (115, 3, .goto 32, (72, 0, 0), 0)) (by decide +kernel)) (am_tgt_of (by decide +kernel)) ?_
              exact hop _ (Or.inr ⟨by decide, by decide, by rw [hk]; decide⟩)
            · show am_Ek false am_G0 am_m178 56 _ [.int 0] _ _ _ _ _
              refine am_e_ifT (am_nxt_of (i := (110, 3, .ifCond .eq 8, (59, 0, 0), 0)) (by decide +kernel)) (am_c_eqT rfl) (am_tgt_of (by decide +kernel)) ?_
              refine am_e_aload_n (am_nxt_of (i := (118, 1, .aload_n 0, (0, 0, 0), 0)) (by decide +kernel)) (v := 164) rfl ?_
              refine am_e_bipush (w := 42) (am_nxt_of (i := (119, 2, .bipush 42, (0, 0, 0), 0)) (by decide +kernel)) (by decide) ?_
              refine am_e_callV (M' := am_m171) (o := 164) (ar := [.int 42]) (rest := []) (L := lv_args 0 [.ref 164, .int 42]) (am_nxt_of (i := (121, 3, .invokevirtual 194, (171, 1715, 3), 0)) (by decide +kernel)) rfl rfl rfl rfl ac_o rfl rfl rfl ?_
              refine am_Ev_mono (ac_isSign ek ew) (fun r ks h' hq => ?_)
              obtain ⟨rfl, rfl, ⟨rfl, hk, -⟩ | rfl⟩ := hq
              · show am_Ek false am_G0 am_m178 62 _ [.int 1] _ _ _ _ _
                refine am_e_ifF (am_nxt_of (i := (124, 3, .ifCond .eq 8, (65, 0, 0), 0)) (by decide +kernel)) (am_c_eqF (by decide)) ?_
                refine am_e_bipush (w := 13) (am_nxt_of (i := (127, 2, .bipush 13, (0, 0, 0), 0)) (by decide +kernel)) (by decide) ?_
                refine am_e_goto (am_cur_of (i := (129, 3, .goto 18, (72, 0, 0), 0)) (by decide +kernel)) (am_tgt_of (by decide +kernel)) ?_
                exact hop _ (Or.inr ⟨by decide, by decide, by rw [hk]; decide⟩)
              · show am_Ek false am_G0 am_m178 62 _ [.int 0] _ _ _ _ _
                refine am_e_ifT (am_nxt_of (i := (124, 3, .ifCond .eq 8, (65, 0, 0), 0)) (by decide +kernel)) (am_c_eqT rfl) (am_tgt_of (by decide +kernel)) ?_
                refine am_e_aload_n (am_nxt_of (i := (132, 1, .aload_n 0, (0, 0, 0), 0)) (by decide +kernel)) (v := 164) rfl ?_
                refine am_e_bipush (w := 47) (am_nxt_of (i := (133, 2, .bipush 47, (0, 0, 0), 0)) (by decide +kernel)) (by decide) ?_
                refine am_e_callV (M' := am_m171) (o := 164) (ar := [.int 47]) (rest := []) (L := lv_args 0 [.ref 164, .int 47]) (am_nxt_of (i := (135, 3, .invokevirtual 194, (171, 1715, 3), 0)) (by decide +kernel)) rfl rfl rfl rfl ac_o rfl rfl rfl ?_
                refine am_Ev_mono (ac_isSign ek ew) (fun r ks h' hq => ?_)
                obtain ⟨rfl, rfl, ⟨rfl, hk, -⟩ | rfl⟩ := hq
                · show am_Ek false am_G0 am_m178 68 _ [.int 1] _ _ _ _ _
                  refine am_e_ifF (am_nxt_of (i := (138, 3, .ifCond .eq 8, (71, 0, 0), 0)) (by decide +kernel)) (am_c_eqF (by decide)) ?_
                  refine am_e_bipush (w := 14) (am_nxt_of (i := (141, 2, .bipush 14, (0, 0, 0), 0)) (by decide +kernel)) (by decide) ?_
                  refine am_e_goto (am_cur_of (i := (143, 3, .goto 4, (72, 0, 0), 0)) (by decide +kernel)) (am_tgt_of (by decide +kernel)) ?_
                  exact hop _ (Or.inr ⟨by decide, by decide, by rw [hk]; decide⟩)
                · show am_Ek false am_G0 am_m178 68 _ [.int 0] _ _ _ _ _
                  refine am_e_ifT (am_nxt_of (i := (138, 3, .ifCond .eq 8, (71, 0, 0), 0)) (by decide +kernel)) (am_c_eqT rfl) (am_tgt_of (by decide +kernel)) ?_
                  refine am_e_iconst (w := 0) (am_nxt_of (i := (146, 1, .iconst 0, (0, 0, 0), 0)) (by decide +kernel)) rfl ?_
                  exact hop _ (Or.inl rfl)
  refine am_e_aload_n (am_nxt_of (i := (0, 1, .aload_n 0, (0, 0, 0), 0)) (by decide +kernel)) (v := 164) rfl ?_
  refine am_e_bipush (w := 41) (am_nxt_of (i := (1, 2, .bipush 41, (0, 0, 0), 0)) (by decide +kernel)) (by decide) ?_
  refine am_e_callV (M' := am_m171) (o := 164) (ar := [.int 41]) (rest := []) (L := lv_args 0 [.ref 164, .int 41]) (am_nxt_of (i := (3, 3, .invokevirtual 194, (171, 1715, 3), 0)) (by decide +kernel)) rfl rfl rfl rfl ac_o rfl rfl rfl ?_
  refine am_Ev_mono (ac_isSign ek ew) (fun r ks h' hq => ?_)
  obtain ⟨rfl, rfl, ⟨rfl, hk4, -⟩ | rfl⟩ := hq
  · show am_Ek false am_G0 am_m178 3 _ [.int 1] _ _ _ _ _
    refine am_e_ifF (am_nxt_of (i := (6, 3, .ifCond .eq 41, (26, 0, 0), 0)) (by decide +kernel)) (am_c_eqF (by decide)) ?_
    refine am_e_aload_n (am_nxt_of (i := (9, 1, .aload_n 0, (0, 0, 0), 0)) (by decide +kernel)) (v := 164) rfl ?_
    refine am_e_getf (v := .int B) (am_nxt_of (i := (10, 3, .getfield 295, (12, 43, 1427), 0)) (by decide +kernel)) ac_o r5 ?_
    by_cases hB : (0 : Int32) < B
    · refine am_e_ifF (am_nxt_of (i := (13, 3, .ifCond .le 34, (26, 0, 0), 0)) (by decide +kernel)) (am_c_leF hB) ?_
      have hB := ac_lt' hB
      refine am_e_aload_n (am_nxt_of (i := (16, 1, .aload_n 0, (0, 0, 0), 0)) (by decide +kernel)) (v := 164) rfl ?_
      refine am_e_iconst (w := 1) (am_nxt_of (i := (17, 1, .iconst 1, (0, 0, 0), 0)) (by decide +kernel)) rfl ?_
      refine am_e_callV (M' := am_m179) (o := 164) (ar := [.int 1]) (rest := []) (L := lv_args 0 [.ref 164, .int 1]) (am_nxt_of (i := (18, 3, .invokevirtual 318, (179, 1747, 3), 0)) (by decide +kernel)) rfl rfl rfl rfl ac_o rfl rfl rfl ?_
      refine am_Ev_mono (ab_bind hJ.2.2.2 (l := 1) (by decide) W.toInt.toNat h' (fun w2 e => by rw [r3] at e; cases e; omega) hI hj hSk) (fun r ks g hq => ?_)
      obtain ⟨rfl, rfl, g1, g2, g3, g4, g5⟩ := hq
      show am_Ek false am_G0 am_m178 10 _ [] _ _ _ _ _
      have g5 := g5 rfl
      obtain ⟨R', C', W', H', B', r1', r2', r3', r4', r5', s1', s2', s3', s4', s5', s6', s7', s8', s9'⟩ := id g3
      have eB : B' = B := by
        have e := g4 164 43 (by decide)
        rw [r5, r5'] at e
        cases e
        rfl
      subst eB
      obtain ⟨d1', d2', d3', d4', d5'⟩ := ab_cnt_nn (h := g) (n := W'.toInt.toNat)
      have hW1 : 1 ≤ W'.toInt := by omega
      have htop := g5 W' r3' hW1
      obtain ⟨n, hn⟩ : ∃ n : Nat, W'.toInt.toNat = n + 1 := ⟨W'.toInt.toNat - 1, by omega⟩
      rw [show W'.toInt.toNat - 1 = n by omega] at htop
      rw [hn] at s3' s5' s7' s9' d5'
      have c1 : ab_nz g (n + 1) = ab_nz g n := by
        show ab_nz g n + (if ab_wv g n = 0 then 0 else 1) = _
        rw [if_pos htop]; omega
      have c2 : ab_zr g (n + 1) = ab_zr g n + 1 := by
        show ab_zr g n + (if ab_wv g n = 0 then 1 else 0) = _
        rw [if_pos htop]
      have c3 : ab_bj g (n + 1) = ab_bj g n := by
        show ab_bj g n + (if ab_wv g n = 0 then 0 else _) = _
        rw [if_pos htop]; omega
      obtain ⟨t1, t2, t3, t4, t5⟩ := ab_cnt_nn (h := g) (n := n)
      have eW1 : (W' - 1).toInt = W'.toInt - 1 := by rw [ab_isub (by omega) (by omega), z1]
      have eB1 : (B' - 1).toInt = B'.toInt - 1 := by rw [ab_isub (by omega) (by omega), z1]
      refine am_e_aload_n (am_nxt_of (i := (21, 1, .aload_n 0, (0, 0, 0), 0)) (by decide +kernel)) (v := 164) rfl ?_
      refine am_e_dup (am_nxt_of (i := (22, 1, .dup, (0, 0, 0), 0)) (by decide +kernel)) rfl ?_
      refine am_e_getf (v := .int W') (am_nxt_of (i := (23, 3, .getfield 280, (12, 41, 1425), 0)) (by decide +kernel)) ac_o r3' ?_
      refine am_e_iconst (w := 1) (am_nxt_of (i := (26, 1, .iconst 1, (0, 0, 0), 0)) (by decide +kernel)) rfl ?_
      refine am_e_isub (w := W' - 1) (am_nxt_of (i := (27, 1, .isub, (0, 0, 0), 0)) (by decide +kernel)) rfl ?_
      have I1 := ac_p41 (v := W' - 1) g1 (by omega) (by omega)
      refine am_e_putf (am_nxt_of (i := (28, 3, .putfield 280, (12, 41, 1425), 0)) (by decide +kernel)) ac_o rfl ?_
      refine am_e_aload_n (am_nxt_of (i := (31, 1, .aload_n 0, (0, 0, 0), 0)) (by decide +kernel)) (v := 164) rfl ?_
      refine am_e_dup (am_nxt_of (i := (32, 1, .dup, (0, 0, 0), 0)) (by decide +kernel)) rfl ?_
      refine am_e_getf (v := .int B') (am_nxt_of (i := (33, 3, .getfield 295, (12, 43, 1427), 0)) (by decide +kernel)) ac_o r5' ?_
      refine am_e_iconst (w := 1) (am_nxt_of (i := (36, 1, .iconst 1, (0, 0, 0), 0)) (by decide +kernel)) rfl ?_
      refine am_e_isub (w := B' - 1) (am_nxt_of (i := (37, 1, .isub, (0, 0, 0), 0)) (by decide +kernel)) rfl ?_
      have I2 := ac_p43 (v := B' - 1) I1 (by omega) (by omega)
      refine am_e_putf (am_nxt_of (i := (38, 3, .putfield 295, (12, 43, 1427), 0)) (by decide +kernel)) ac_o rfl ?_
      have F3 : ab_Fr ac_sM g (am_up (am_up g 164 41 (.int (W' - 1))) 164 43 (.int (B' - 1))) := ab_Fr_up rfl (ab_Fr_up rfl ab_Fr_refl)
      have J3 := hJ.2.2.1 _ _ F3 g2
      have S3 : ab_Sk 1 (am_up (am_up g 164 41 (.int (W' - 1))) 164 43 (.int (B' - 1))) := by
        have hc := ab_cnt_same (h := g) (h' := am_up (am_up g 164 41 (.int (W' - 1))) 164 43 (.int (B' - 1))) (n := n) (fun i _ => rfl)
        have en : (W' - 1).toInt.toNat = n := by omega
        refine ⟨R', C', W' - 1, H', B' - 1, r1', r2', rfl, r4', rfl, s1', by omega, by rw [en, hc.1]; omega, s4', by rw [en, hc.2.1]; omega, by omega, by rw [en, hc.2.2]; omega, s8', fun i hi => ?_⟩
        rw [en] at hi
        exact s9' i (by omega)
      have M3 : ac_Mu m (am_up (am_up g 164 41 (.int (W' - 1))) 164 43 (.int (B' - 1))) := ac_Mu_fr hMu (g4 _ _ (by decide)) (g4 _ _ (by decide)) (g4 _ _ (by decide))
      refine am_e_aload_n (am_nxt_of (i := (41, 1, .aload_n 0, (0, 0, 0), 0)) (by decide +kernel)) (v := 164) rfl ?_
      refine am_e_callV (M' := am_m151) (o := 164) (ar := []) (rest := []) (L := lv_args 0 [.ref 164]) (am_nxt_of (i := (42, 3, .invokevirtual 191, (151, 1636, 3), 0)) (by decide +kernel)) rfl rfl rfl rfl ac_o rfl rfl rfl ?_
      refine am_Ev_mono (ac_token hpk I2 (hJ.1 _ J3).1 (hJ.1 _ J3).2.1) (fun r ks h4 hq => ?_)
      obtain ⟨rfl, rfl, q3, q4⟩ := hq
      show am_Ek false am_G0 am_m178 24 _ [] _ _ _ _ _
      refine am_e_iconst (w := 1) (am_nxt_of (i := (45, 1, .iconst 1, (0, 0, 0), 0)) (by decide +kernel)) rfl ?_
      exact am_e_iret (ty := .boolean) (am_cur_of (i := (46, 1, .ireturn, (0, 0, 0), 0)) (by decide +kernel)) rfl rfl rfl ⟨rfl, Or.inr ⟨rfl, Or.inr ⟨ac_SS_tk hJ q3 q4 J3 (ab_Fr_trans hF (ab_Fr_trans (ab_mdle_Fr (by decide) g4) (ab_mdle_Fr (by decide) F3))) S3 M3 (k := k) ((g4 164 8 (by decide)).trans ek) (by rw [hk4]; decide), by rw [q4.1 164 45 (by decide)]; exact (g4 164 45 (by decide)).trans ewa⟩⟩⟩
    · refine am_e_ifT (am_nxt_of (i := (13, 3, .ifCond .le 34, (26, 0, 0), 0)) (by decide +kernel)) (am_c_leT hB) (am_tgt_of (by decide +kernel)) ?_
      exact hfind
  · show am_Ek false am_G0 am_m178 3 _ [.int 0] _ _ _ _ _
    refine am_e_ifT (am_nxt_of (i := (6, 3, .ifCond .eq 41, (26, 0, 0), 0)) (by decide +kernel)) (am_c_eqT rfl) (am_tgt_of (by decide +kernel)) ?_
    exact hfind
abbrev ac_suQ (J : am_H → Prop) (h0 : am_H) (m : Int) : Option Value → List am_k → am_H → Prop := fun r ks h' => ks = am_ks0 ∧ ab_Inv (ab_hi ab_tab) h' ∧ J h' ∧ ab_Fr ac_suM h0 h' ∧ (r = some (.int 0) ∨ r = some (.int 1) ∧ ac_Mu m h' ∧ ∃ R : Int32, h' 164 21 = .int R ∧ h' 164 44 = .int R ∧ 1 ≤ R.toInt ∧ R.toInt ≤ 64)
theorem ac_su_loop (hJ : ac_JP J) (hpk : ab_Con ab_tab (fun _ => True) ab_S_packed_x_x) : ∀ (m : Nat) (M : Int) (h : am_H), (m : Int) ≤ M → (ac_SS J h0 0 m h ∧ h 164 45 = .int 1 ∨ ac_SS J h0 1 m h ∧ h 164 45 = .int 0) → am_Ek false am_G0 am_m170 15 [(0, .ref 164)] [] am_ks0 h 0 0 (ac_suQ J h0 M) := by
  have key : ∀ (m : Nat), (∀ (M : Int) (h : am_H), (m : Int) - 1 ≤ M → (ac_SS J h0 0 ((m : Int) - 1) h ∧ h 164 45 = .int 1 ∨ ac_SS J h0 1 ((m : Int) - 1) h ∧ h 164 45 = .int 0) → am_Ek false am_G0 am_m170 15 [(0, .ref 164)] [] am_ks0 h 0 0 (ac_suQ J h0 M)) → ∀ (M : Int) (h : am_H), (m : Int) ≤ M → (ac_SS J h0 0 m h ∧ h 164 45 = .int 1 ∨ ac_SS J h0 1 m h ∧ h 164 45 = .int 0) → am_Ek false am_G0 am_m170 15 [(0, .ref 164)] [] am_ks0 h 0 0 (ac_suQ J h0 M) := by
    intro m ih M h hmM hS
    obtain ⟨x, wa, hS, ewa, hxw⟩ : ∃ (x : Int) (wa : Int32), ac_SS J h0 x m h ∧ h 164 45 = .int wa ∧ (x = 0 ∧ wa = 1 ∨ x = 1 ∧ wa = 0) := by
      rcases hS with ⟨q1, q2⟩ | ⟨q1, q2⟩
      · exact ⟨0, 1, q1, q2, Or.inl ⟨rfl, rfl⟩⟩
      · exact ⟨1, 0, q1, q2, Or.inr ⟨rfl, rfl⟩⟩
    obtain ⟨hI, hj, hF, hSk, hMu⟩ := id hS
    obtain ⟨hM1, hNp, k, w, ek, ew, kw1, kw3, kw5⟩ := hJ.1 h hj
    obtain ⟨R, C, W, H, B, r1, r2, r3, r4, r5, s1, s2, s3, s4, s5, s6, s7, s8, s9⟩ := id hSk
    obtain ⟨d1, d2, d3, d4, d5⟩ := ab_cnt_nn (h := h) (n := W.toInt.toNat)
    have hstep : am_Ek false am_G0 am_m170 25 [(0, .ref 164)] [] am_ks0 h 0 0 (ac_suQ J h0 M) := by
      refine am_e_aload_n (am_nxt_of (i := (48, 1, .aload_n 0, (0, 0, 0), 0)) (by decide +kernel)) (v := 164) rfl ?_
      refine am_e_getf (v := .int wa) (am_nxt_of (i := (49, 3, .getfield 315, (12, 45, 1429), 0)) (by decide +kernel)) ac_o ewa ?_
      rcases hxw with ⟨rfl, rfl⟩ | ⟨rfl, rfl⟩
      · refine am_e_ifF (am_nxt_of (i := (52, 3, .ifCond .eq 13, (32, 0, 0), 0)) (by decide +kernel)) (am_c_eqF (by decide)) ?_
        refine am_e_aload_n (am_nxt_of (i := (55, 1, .aload_n 0, (0, 0, 0), 0)) (by decide +kernel)) (v := 164) rfl ?_
        refine am_e_callV (M' := am_m172) (o := 164) (ar := []) (rest := []) (L := lv_args 0 [.ref 164]) (am_nxt_of (i := (56, 3, .invokevirtual 321, (172, 1719, 3), 0)) (by decide +kernel)) rfl rfl rfl rfl ac_o rfl rfl rfl ?_
        refine am_Ev_mono (ac_leafRead hJ hpk hS ewa) (fun r ks h' hq => ?_)
        obtain ⟨rfl, ⟨rfl, q1, q2, q3⟩ | ⟨rfl, q⟩⟩ := hq
        · show am_Ek false am_G0 am_m170 30 _ [.int 0] _ _ _ _ _
          refine am_e_ifT (am_nxt_of (i := (59, 3, .ifCond .eq 13, (35, 0, 0), 0)) (by decide +kernel)) (am_c_eqT rfl) (am_tgt_of (by decide +kernel)) ?_
          refine am_e_iconst (w := 0) (am_nxt_of (i := (72, 1, .iconst 0, (0, 0, 0), 0)) (by decide +kernel)) rfl ?_
          exact am_e_iret (ty := .boolean) (am_cur_of (i := (73, 1, .ireturn, (0, 0, 0), 0)) (by decide +kernel)) rfl rfl rfl ⟨rfl, q1, q2, q3, Or.inl rfl⟩
        · show am_Ek false am_G0 am_m170 30 _ [.int 1] _ _ _ _ _
          refine am_e_ifF (am_nxt_of (i := (59, 3, .ifCond .eq 13, (35, 0, 0), 0)) (by decide +kernel)) (am_c_eqF (by decide)) ?_
          refine am_e_goto (am_cur_of (i := (62, 3, .goto (-37), (15, 0, 0), 0)) (by decide +kernel)) (am_tgt_of (by decide +kernel)) ?_
          exact ih M h' (by omega) q
      · refine am_e_ifT (am_nxt_of (i := (52, 3, .ifCond .eq 13, (32, 0, 0), 0)) (by decide +kernel)) (am_c_eqT rfl) (am_tgt_of (by decide +kernel)) ?_
        refine am_e_aload_n (am_nxt_of (i := (65, 1, .aload_n 0, (0, 0, 0), 0)) (by decide +kernel)) (v := 164) rfl ?_
        refine am_e_callV (M' := am_m178) (o := 164) (ar := []) (rest := []) (L := lv_args 0 [.ref 164]) (am_nxt_of (i := (66, 3, .invokevirtual 324, (178, 1743, 3), 0)) (by decide +kernel)) rfl rfl rfl rfl ac_o rfl rfl rfl ?_
        refine am_Ev_mono (ac_signs hJ hpk hS ewa) (fun r ks h' hq => ?_)
        obtain ⟨rfl, ⟨rfl, q1, q2, q3⟩ | ⟨rfl, q⟩⟩ := hq
        · show am_Ek false am_G0 am_m170 34 _ [.int 0] _ _ _ _ _
          refine am_e_ifF (am_nxt_of (i := (69, 3, .ifCond .ne (-44), (15, 0, 0), 0)) (by decide +kernel)) (am_c_neF rfl) ?_
          refine am_e_iconst (w := 0) (am_nxt_of (i := (72, 1, .iconst 0, (0, 0, 0), 0)) (by decide +kernel)) rfl ?_
          exact am_e_iret (ty := .boolean) (am_cur_of (i := (73, 1, .ireturn, (0, 0, 0), 0)) (by decide +kernel)) rfl rfl rfl ⟨rfl, q1, q2, q3, Or.inl rfl⟩
        · show am_Ek false am_G0 am_m170 34 _ [.int 1] _ _ _ _ _
          refine am_e_ifT (am_nxt_of (i := (69, 3, .ifCond .ne (-44), (15, 0, 0), 0)) (by decide +kernel)) (am_c_neT (by decide)) (am_tgt_of (by decide +kernel)) ?_
          exact ih M h' (by omega) q
    refine am_e_aload_n (am_nxt_of (i := (25, 1, .aload_n 0, (0, 0, 0), 0)) (by decide +kernel)) (v := 164) rfl ?_
    refine am_e_bipush (w := 59) (am_nxt_of (i := (26, 2, .bipush 59, (0, 0, 0), 0)) (by decide +kernel)) (by decide) ?_
    refine am_e_callV (M' := am_m171) (o := 164) (ar := [.int 59]) (rest := []) (L := lv_args 0 [.ref 164, .int 59]) (am_nxt_of (i := (28, 3, .invokevirtual 194, (171, 1715, 3), 0)) (by decide +kernel)) rfl rfl rfl rfl ac_o rfl rfl rfl ?_
    refine am_Ev_mono (ac_isSign ek ew) (fun r ks h' hq => ?_)
    obtain ⟨rfl, rfl, ⟨rfl, hk4, -⟩ | rfl⟩ := hq
    · show am_Ek false am_G0 am_m170 18 _ [.int 1] _ _ _ _ _
      refine am_e_ifF (am_nxt_of (i := (31, 3, .ifCond .eq 17, (25, 0, 0), 0)) (by decide +kernel)) (am_c_eqF (by decide)) ?_
      refine am_e_aload_n (am_nxt_of (i := (34, 1, .aload_n 0, (0, 0, 0), 0)) (by decide +kernel)) (v := 164) rfl ?_
      refine am_e_getf (v := .int wa) (am_nxt_of (i := (35, 3, .getfield 315, (12, 45, 1429), 0)) (by decide +kernel)) ac_o ewa ?_
      by_cases hwa : (wa : Int32) = 0
      · refine am_e_ifF (am_nxt_of (i := (38, 3, .ifCond .ne 10, (25, 0, 0), 0)) (by decide +kernel)) (am_c_neF hwa) ?_
        refine am_e_aload_n (am_nxt_of (i := (41, 1, .aload_n 0, (0, 0, 0), 0)) (by decide +kernel)) (v := 164) rfl ?_
        refine am_e_getf (v := .int B) (am_nxt_of (i := (42, 3, .getfield 295, (12, 43, 1427), 0)) (by decide +kernel)) ac_o r5 ?_
        by_cases hB : (0 : Int32) < B
        · refine am_e_ifF (am_nxt_of (i := (45, 3, .ifCond .le 29, (37, 0, 0), 0)) (by decide +kernel)) (am_c_leF hB) ?_
          exact hstep
        · refine am_e_ifT (am_nxt_of (i := (45, 3, .ifCond .le 29, (37, 0, 0), 0)) (by decide +kernel)) (am_c_leT hB) (am_tgt_of (by decide +kernel)) ?_
          refine am_e_aload_n (am_nxt_of (i := (74, 1, .aload_n 0, (0, 0, 0), 0)) (by decide +kernel)) (v := 164) rfl ?_
          refine am_e_iconst (w := 1) (am_nxt_of (i := (75, 1, .iconst 1, (0, 0, 0), 0)) (by decide +kernel)) rfl ?_
          refine am_e_callV (M' := am_m179) (o := 164) (ar := [.int 1]) (rest := []) (L := lv_args 0 [.ref 164, .int 1]) (am_nxt_of (i := (76, 3, .invokevirtual 318, (179, 1747, 3), 0)) (by decide +kernel)) rfl rfl rfl rfl ac_o rfl rfl rfl ?_
          have hx1 : x = 1 := by
            rcases hxw with ⟨-, q⟩ | ⟨q, -⟩
            · rw [hwa] at q; exact absurd q (by decide)
            · exact q
          subst hx1
          refine am_Ev_mono (ab_bind hJ.2.2.2 (l := 1) (by decide) W.toInt.toNat h' (fun w2 e => by rw [r3] at e; cases e; omega) hI hj hSk) (fun r ks g hq => ?_)
          obtain ⟨rfl, rfl, g1, g2, g3, g4, g5⟩ := hq
          show am_Ek false am_G0 am_m170 40 _ [] _ _ _ _ _
          obtain ⟨R', C', W', H', B', r1', r2', r3', r4', r5', s1', s2', s3', s4', s5', s6', s7', s8', s9'⟩ := id g3
          obtain ⟨e1, e2, e3, e4, e5⟩ := ab_cnt_nn (h := g) (n := W'.toInt.toNat)
          obtain ⟨nn, ns, nk, m1, m2, m3, m4⟩ := hMu
          have hB := ac_nlt' hB
          have eB : B' = B := by
            have e := g4 164 43 (by decide)
            rw [r5, r5'] at e
            cases e
            rfl
          subst eB
          have hW0 : W'.toInt = 0 := by
            by_cases hW1 : 1 ≤ W'.toInt
            · have htop := g5 rfl W' r3' hW1
              obtain ⟨n, hn⟩ : ∃ n : Nat, W'.toInt.toNat = n + 1 := ⟨W'.toInt.toNat - 1, by omega⟩
              rw [show W'.toInt.toNat - 1 = n by omega] at htop
              rw [hn] at s5'
              have c2 : ab_zr g (n + 1) = ab_zr g n + 1 := by
                show ab_zr g n + (if ab_wv g n = 0 then 1 else 0) = _
                rw [if_pos htop]
              obtain ⟨t1, t2, t3, t4, t5⟩ := ab_cnt_nn (h := g) (n := n)
              have z0 : (0 : Int32).toInt = 0 := by decide
              omega
            · omega
          have eRC : C' = R' := by
            rw [hW0] at s3'
            have z : ab_nz g (0 : Int).toNat = 0 := rfl
            rw [z] at s3'
            exact Int32.toInt_inj.mp (by omega)
          subst eRC
          refine am_e_iconst (w := 1) (am_nxt_of (i := (79, 1, .iconst 1, (0, 0, 0), 0)) (by decide +kernel)) rfl ?_
          exact am_e_iret (ty := .boolean) (am_cur_of (i := (80, 1, .ireturn, (0, 0, 0), 0)) (by decide +kernel)) rfl rfl rfl ⟨rfl, g1, g2, ab_Fr_trans hF (ab_mdle_Fr (by decide) g4), Or.inr ⟨rfl, ⟨nn, ns, nk, (g4 _ _ (by decide)).trans m1, (g4 _ _ (by decide)).trans m2, (g4 _ _ (by decide)).trans m3, by omega⟩, C', r1', r2', by omega, by omega⟩⟩
      · refine am_e_ifT (am_nxt_of (i := (38, 3, .ifCond .ne 10, (25, 0, 0), 0)) (by decide +kernel)) (am_c_neT hwa) (am_tgt_of (by decide +kernel)) ?_
        exact hstep
    · show am_Ek false am_G0 am_m170 18 _ [.int 0] _ _ _ _ _
      refine am_e_ifT (am_nxt_of (i := (31, 3, .ifCond .eq 17, (25, 0, 0), 0)) (by decide +kernel)) (am_c_eqT rfl) (am_tgt_of (by decide +kernel)) ?_
      exact hstep
  intro m
  induction m with
  | zero =>
    refine key 0 (fun M h _ hS => ?_)
    exfalso
    obtain ⟨x, hS⟩ : ∃ x : Int, ac_SS J h0 x ((0 : Nat) - 1 : Int) h := by
      rcases hS with ⟨q, -⟩ | ⟨q, -⟩
      · exact ⟨0, q⟩
      · exact ⟨1, q⟩
    obtain ⟨hI, hj, hF, hSk, nn, ns, nk, m1, m2, m3, m4⟩ := hS
    obtain ⟨-, ⟨n1, s1, e1, e2, e3⟩, -⟩ := hJ.1 h hj
    rw [m1] at e1
    rw [m2] at e2
    cases e1
    cases e2
    have : (0 : Int) ≤ (if nk.toInt = 0 then 0 else 1) := by split <;> decide
    omega
  | succ m ih =>
    refine key (m + 1) (fun M h hM hS => ?_)
    rw [show ((m + 1 : Nat) : Int) - 1 = m by omega] at hM hS
    exact ih M h hM hS
theorem ac_sumRead (hJ : ac_JP J) (hpk : ab_Con ab_tab (fun _ => True) ab_S_packed_x_x) {m : Int} {h : am_H} (hI : ab_Inv (ab_hi ab_tab) h) (hj : J h) (hMu : ac_Mu m h) (hRC : ∃ R : Int32, h 164 21 = .int R ∧ h 164 44 = .int R) : am_Ek false am_G0 am_m170 0 (lv_args 0 [.ref 164]) [] am_ks0 h 0 0 (ac_suQ J h m) := by
  refine am_e_aload_n (am_nxt_of (i := (0, 1, .aload_n 0, (0, 0, 0), 0)) (by decide +kernel)) (v := 164) rfl ?_
  refine am_e_iconst (w := 0) (am_nxt_of (i := (1, 1, .iconst 0, (0, 0, 0), 0)) (by decide +kernel)) rfl ?_
  have I0 := ac_p41 (v := 0) hI (by decide) (by decide)
  refine am_e_putf (am_nxt_of (i := (2, 3, .putfield 280, (12, 41, 1425), 0)) (by decide +kernel)) ac_o rfl ?_
  refine am_e_aload_n (am_nxt_of (i := (5, 1, .aload_n 0, (0, 0, 0), 0)) (by decide +kernel)) (v := 164) rfl ?_
  refine am_e_iconst (w := 0) (am_nxt_of (i := (6, 1, .iconst 0, (0, 0, 0), 0)) (by decide +kernel)) rfl ?_
  have I1 := ac_p42 (v := 0) I0 (by decide) (by decide)
  refine am_e_putf (am_nxt_of (i := (7, 3, .putfield 277, (12, 42, 1426), 0)) (by decide +kernel)) ac_o rfl ?_
  refine am_e_aload_n (am_nxt_of (i := (10, 1, .aload_n 0, (0, 0, 0), 0)) (by decide +kernel)) (v := 164) rfl ?_
  refine am_e_iconst (w := 0) (am_nxt_of (i := (11, 1, .iconst 0, (0, 0, 0), 0)) (by decide +kernel)) rfl ?_
  have I2 := ac_p43 (v := 0) I1 (by decide) (by decide)
  refine am_e_putf (am_nxt_of (i := (12, 3, .putfield 295, (12, 43, 1427), 0)) (by decide +kernel)) ac_o rfl ?_
  refine am_e_aload_n (am_nxt_of (i := (15, 1, .aload_n 0, (0, 0, 0), 0)) (by decide +kernel)) (v := 164) rfl ?_
  refine am_e_iconst (w := 1) (am_nxt_of (i := (16, 1, .iconst 1, (0, 0, 0), 0)) (by decide +kernel)) rfl ?_
  have I3 := ac_p45 (v := 1) I2 (by decide) (by decide)
  refine am_e_putf (am_nxt_of (i := (17, 3, .putfield 315, (12, 45, 1429), 0)) (by decide +kernel)) ac_o rfl ?_
  refine am_e_aload_n (am_nxt_of (i := (20, 1, .aload_n 0, (0, 0, 0), 0)) (by decide +kernel)) (v := 164) rfl ?_
  refine am_e_iconst (w := 1) (am_nxt_of (i := (21, 1, .iconst 1, (0, 0, 0), 0)) (by decide +kernel)) rfl ?_
  have I4 := ac_p46 (v := 1) I3 (by decide) (by decide)
  refine am_e_putf (am_nxt_of (i := (22, 3, .putfield 302, (12, 46, 1430), 0)) (by decide +kernel)) ac_o rfl ?_
  obtain ⟨R, e21, e44⟩ := hRC
  obtain ⟨R', e21', R0, R1⟩ := ac_g21 hI
  rw [e21] at e21'
  cases e21'
  have hF : ab_Fr ac_sM h (am_up (am_up (am_up (am_up (am_up h 164 41 (.int 0)) 164 42 (.int 0)) 164 43 (.int 0)) 164 45 (.int 1)) 164 46 (.int 1)) := ab_Fr_up rfl (ab_Fr_up rfl (ab_Fr_up rfl (ab_Fr_up rfl (ab_Fr_up rfl ab_Fr_refl))))
  have hS : ab_Sk 0 (am_up (am_up (am_up (am_up (am_up h 164 41 (.int 0)) 164 42 (.int 0)) 164 43 (.int 0)) 164 45 (.int 1)) 164 46 (.int 1)) := ⟨R, R, 0, 0, 0, e21, e44, rfl, rfl, rfl, R0, by decide, by show R.toInt + 0 = R.toInt; omega, R1, rfl, by decide, rfl, R0, fun i hi => absurd hi (Nat.not_lt_zero i)⟩
  have hm0 : 0 ≤ m := by
    obtain ⟨nn, ns, nk, m1, m2, m3, m4⟩ := hMu
    obtain ⟨-, ⟨n1, s1, e1, e2, e3⟩, -⟩ := hJ.1 h hj
    rw [m1] at e1
    rw [m2] at e2
    cases e1
    cases e2
    have : (0 : Int) ≤ (if nk.toInt = 0 then 0 else 1) := by split <;> decide
    omega
  refine ac_su_loop hJ hpk m.toNat m _ (by omega) (Or.inl ⟨⟨I4, hJ.2.2.1 _ _ hF hj, ab_mdle_Fr (by decide) hF, hS, ?_⟩, rfl⟩)
  rw [Int.toNat_of_nonneg hm0]
  exact ac_Mu_fr hMu rfl rfl rfl
end ACG
