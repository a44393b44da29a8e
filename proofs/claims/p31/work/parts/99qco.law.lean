/-! ===== THE LAW'S CASES AND ITS LOOP (wip/s/gen99q.py) ===== -/
/-- what the law's look does on good heaps -/
def ag_LK (lk : List Value → List am_k → am_H → Option am_O) : Prop := ∀ (t : Int32) (h : am_H) (a b : Int32), ag_G t h → ∃ (v : Int32) (h' : am_H), lk [.ref 0, .int a, .int b, .ref 202] am_ks0 h = some (some (.int v), am_ks0, h') ∧ ag_G t h' ∧ ab_Fr ag_mdL h h' ∧ (rg_Gd h → rg_Gd h')
section AGL
variable {Rel : am_H → Prop} {lk : List Value → List am_k → am_H → Option am_O} {L j nc ns : Nat} {xs : Nat → Int32} {i t : Int32} {h : am_H} {Q : Option Value → List am_k → am_H → Prop}
/-- how the case goes on -/
def ag_K1 (Rel : am_H → Prop) (lk : List Value → List am_k → am_H → Option am_O) (L nc ns : Nat) (xs : Nat → Int32) (i : Int32) (Q : Option Value → List am_k → am_H → Prop) : Prop := ∀ (t' : Int32) (h' : am_H) (nc' ns' : Nat), nc' ≤ nc + 4 → ns' ≤ ns + 40 → ag_G t' h' → rg_Gd h' → Rel h' → am_Ek false (am_P1 (some (L, xs)) lk) am_m254 823 [(4, .int i), (3, .ref 202), (2, .ref 164), (1, .ref 0), (0, .retAddr 0)] [] am_ks0 h' nc' ns' Q
theorem ag_case0 (hG : ag_G t h) (hD : rg_Gd h) (hR : Rel h) (hi_z : i.toInt = (6 * j : Nat)) (hb_z : 6 * j + 6 ≤ L) (hL : L ≤ 3072) (hc_z : nc ≤ 9000) (hs_z : ns ≤ 90000) (K : ag_K1 Rel lk L nc ns xs i Q) (X : ax_feed Rel) : am_Ek false (am_P1 (some (L, xs)) lk) am_m254 25 [(4, .int i), (3, .ref 202), (2, .ref 164), (1, .ref 0), (0, .retAddr 0)] [] am_ks0 h nc ns Q := by
  refine am_e_aload_n (am_nxt_of (i := (188, 1, .aload_n 1, (0, 0, 0), 0)) (by decide +kernel)) rfl ?_
  refine am_e_sload_n (am_nxt_of (i := (189, 1, .aload_n 0, (0, 0, 0), 0)) (by decide +kernel)) rfl ?_
  refine am_e_iload (am_nxt_of (i := (190, 2, .iload 4, (0, 0, 0), 0)) (by decide +kernel)) rfl ?_
  refine am_e_iconst (w := 1) (am_nxt_of (i := (192, 1, .iconst 1, (0, 0, 0), 0)) (by decide +kernel)) rfl ?_
  refine am_e_iadd (w := i + 1) (am_nxt_of (i := (193, 1, .iadd, (0, 0, 0), 0)) (by decide +kernel)) rfl ?_
  refine am_e_sald (q := 6 * j + 1) (am_nxt_of (i := (194, 1, .iaload, (0, 0, 0), 0)) (by decide +kernel)) rfl (ag_i (n := 1) hi_z (by decide) (by omega) hL).1 (ag_i (n := 1) hi_z (by decide) (by omega) hL).2 ?_
  refine am_e_sload_n (am_nxt_of (i := (195, 1, .aload_n 0, (0, 0, 0), 0)) (by decide +kernel)) rfl ?_
  refine am_e_iload (am_nxt_of (i := (196, 2, .iload 4, (0, 0, 0), 0)) (by decide +kernel)) rfl ?_
  refine am_e_iconst (w := 2) (am_nxt_of (i := (198, 1, .iconst 2, (0, 0, 0), 0)) (by decide +kernel)) rfl ?_
  refine am_e_iadd (w := i + 2) (am_nxt_of (i := (199, 1, .iadd, (0, 0, 0), 0)) (by decide +kernel)) rfl ?_
  refine am_e_sald (q := 6 * j + 2) (am_nxt_of (i := (200, 1, .iaload, (0, 0, 0), 0)) (by decide +kernel)) rfl (ag_i (n := 2) hi_z (by decide) (by omega) hL).1 (ag_i (n := 2) hi_z (by decide) (by omega) hL).2 ?_
  refine am_e_sload_n (am_nxt_of (i := (201, 1, .aload_n 0, (0, 0, 0), 0)) (by decide +kernel)) rfl ?_
  refine am_e_iload (am_nxt_of (i := (202, 2, .iload 4, (0, 0, 0), 0)) (by decide +kernel)) rfl ?_
  refine am_e_iconst (w := 3) (am_nxt_of (i := (204, 1, .iconst 3, (0, 0, 0), 0)) (by decide +kernel)) rfl ?_
  refine am_e_iadd (w := i + 3) (am_nxt_of (i := (205, 1, .iadd, (0, 0, 0), 0)) (by decide +kernel)) rfl ?_
  refine am_e_sald (q := 6 * j + 3) (am_nxt_of (i := (206, 1, .iaload, (0, 0, 0), 0)) (by decide +kernel)) rfl (ag_i (n := 3) hi_z (by decide) (by omega) hL).1 (ag_i (n := 3) hi_z (by decide) (by omega) hL).2 ?_
  refine am_e_sload_n (am_nxt_of (i := (207, 1, .aload_n 0, (0, 0, 0), 0)) (by decide +kernel)) rfl ?_
  refine am_e_iload (am_nxt_of (i := (208, 2, .iload 4, (0, 0, 0), 0)) (by decide +kernel)) rfl ?_
  refine am_e_iconst (w := 4) (am_nxt_of (i := (210, 1, .iconst 4, (0, 0, 0), 0)) (by decide +kernel)) rfl ?_
  refine am_e_iadd (w := i + 4) (am_nxt_of (i := (211, 1, .iadd, (0, 0, 0), 0)) (by decide +kernel)) rfl ?_
  refine am_e_sald (q := 6 * j + 4) (am_nxt_of (i := (212, 1, .iaload, (0, 0, 0), 0)) (by decide +kernel)) rfl (ag_i (n := 4) hi_z (by decide) (by omega) hL).1 (ag_i (n := 4) hi_z (by decide) (by omega) hL).2 ?_
  refine am_e_sload_n (am_nxt_of (i := (213, 1, .aload_n 0, (0, 0, 0), 0)) (by decide +kernel)) rfl ?_
  refine am_e_iload (am_nxt_of (i := (214, 2, .iload 4, (0, 0, 0), 0)) (by decide +kernel)) rfl ?_
  refine am_e_iconst (w := 5) (am_nxt_of (i := (216, 1, .iconst 5, (0, 0, 0), 0)) (by decide +kernel)) rfl ?_
  refine am_e_iadd (w := i + 5) (am_nxt_of (i := (217, 1, .iadd, (0, 0, 0), 0)) (by decide +kernel)) rfl ?_
  refine am_e_sald (q := 6 * j + 5) (am_nxt_of (i := (218, 1, .iaload, (0, 0, 0), 0)) (by decide +kernel)) rfl (ag_i (n := 5) hi_z (by decide) (by omega) hL).1 (ag_i (n := 5) hi_z (by decide) (by omega) hL).2 ?_
  obtain ⟨g1_z, g2_z, g3_z, g4_z, g5_z⟩ := id hG
  refine am_e_callV (M' := am_m15) (o := 0) (ar := [.int (xs (6 * j + 5)), .int (xs (6 * j + 4)), .int (xs (6 * j + 3)), .int (xs (6 * j + 2)), .int (xs (6 * j + 1))]) (rest := []) (L := lv_args 0 [.ref 0, .int (xs (6 * j + 1)), .int (xs (6 * j + 2)), .int (xs (6 * j + 3)), .int (xs (6 * j + 4)), .int (xs (6 * j + 5))]) (am_nxt_of (i := (219, 3, .invokevirtual 21, (15, 710, 3), 0)) (by decide +kernel)) rfl rfl rfl rfl ac_o0 (ag_okC rfl (by decide) (by omega) (by omega)) rfl rfl ?_
  refine am_Ev_mono (ek_rn (rn_KM (a := 15) (by decide) rfl) hD (ac_cfeed (X := ag_X t) (ag_XF t) g1_z ⟨g2_z, g3_z, g5_z⟩ g4_z)) (fun r ks h1_z hq_z => ?_)
  obtain ⟨⟨rfl, I1, J1, Fh1, hr1_z⟩, nh1_z, rnh1⟩ := hq_z
  obtain ⟨t1_z, e1_z, r1_z, hv1_z⟩ : ∃ t1_z : Int32, h1_z 0 1 = .int t1_z ∧ ∃ x : Int32, r = some (.int x) ∧ (680 < t.toInt ∧ x = -1 ∧ t1_z = t ∨ t.toInt ≤ 680 ∧ t1_z.toInt = t.toInt + 20 ∧ x = t1_z) := by
    rcases hr1_z with ⟨a1_z, a2_z, a3_z⟩ | ⟨a1_z, t', a2_z, a3_z, a4_z⟩
    · exact ⟨t, a3_z, -1, a2_z, Or.inl ⟨a1_z, rfl, rfl⟩⟩
    · exact ⟨t', a4_z, t', a3_z, Or.inr ⟨a1_z, a2_z, rfl⟩⟩
  obtain ⟨hx1_z, hv1_z⟩ := hv1_z
  subst hx1_z
  show am_Ek false (am_P1 (some (L, xs)) lk) am_m254 52 [(4, .int i), (3, .ref 202), (2, .ref 164), (1, .ref 0), (0, .retAddr 0)] [.int r1_z] am_ks0 _ nc ns Q
  refine am_e_pop (am_nxt_of (i := (222, 1, .pop, (0, 0, 0), 0)) (by decide +kernel)) rfl ?_
  refine am_e_aload_n (am_nxt_of (i := (223, 1, .aload_n 2, (0, 0, 0), 0)) (by decide +kernel)) rfl ?_
  refine am_e_sload_n (am_nxt_of (i := (224, 1, .aload_n 0, (0, 0, 0), 0)) (by decide +kernel)) rfl ?_
  refine am_e_iload (am_nxt_of (i := (225, 2, .iload 4, (0, 0, 0), 0)) (by decide +kernel)) rfl ?_
  refine am_e_iconst (w := 1) (am_nxt_of (i := (227, 1, .iconst 1, (0, 0, 0), 0)) (by decide +kernel)) rfl ?_
  refine am_e_iadd (w := i + 1) (am_nxt_of (i := (228, 1, .iadd, (0, 0, 0), 0)) (by decide +kernel)) rfl ?_
  refine am_e_sald (q := 6 * j + 1) (am_nxt_of (i := (229, 1, .iaload, (0, 0, 0), 0)) (by decide +kernel)) rfl (ag_i (n := 1) hi_z (by decide) (by omega) hL).1 (ag_i (n := 1) hi_z (by decide) (by omega) hL).2 ?_
  refine am_e_sload_n (am_nxt_of (i := (230, 1, .aload_n 0, (0, 0, 0), 0)) (by decide +kernel)) rfl ?_
  refine am_e_iload (am_nxt_of (i := (231, 2, .iload 4, (0, 0, 0), 0)) (by decide +kernel)) rfl ?_
  refine am_e_iconst (w := 2) (am_nxt_of (i := (233, 1, .iconst 2, (0, 0, 0), 0)) (by decide +kernel)) rfl ?_
  refine am_e_iadd (w := i + 2) (am_nxt_of (i := (234, 1, .iadd, (0, 0, 0), 0)) (by decide +kernel)) rfl ?_
  refine am_e_sald (q := 6 * j + 2) (am_nxt_of (i := (235, 1, .iaload, (0, 0, 0), 0)) (by decide +kernel)) rfl (ag_i (n := 2) hi_z (by decide) (by omega) hL).1 (ag_i (n := 2) hi_z (by decide) (by omega) hL).2 ?_
  refine am_e_sload_n (am_nxt_of (i := (236, 1, .aload_n 0, (0, 0, 0), 0)) (by decide +kernel)) rfl ?_
  refine am_e_iload (am_nxt_of (i := (237, 2, .iload 4, (0, 0, 0), 0)) (by decide +kernel)) rfl ?_
  refine am_e_iconst (w := 3) (am_nxt_of (i := (239, 1, .iconst 3, (0, 0, 0), 0)) (by decide +kernel)) rfl ?_
  refine am_e_iadd (w := i + 3) (am_nxt_of (i := (240, 1, .iadd, (0, 0, 0), 0)) (by decide +kernel)) rfl ?_
  refine am_e_sald (q := 6 * j + 3) (am_nxt_of (i := (241, 1, .iaload, (0, 0, 0), 0)) (by decide +kernel)) rfl (ag_i (n := 3) hi_z (by decide) (by omega) hL).1 (ag_i (n := 3) hi_z (by decide) (by omega) hL).2 ?_
  refine am_e_sload_n (am_nxt_of (i := (242, 1, .aload_n 0, (0, 0, 0), 0)) (by decide +kernel)) rfl ?_
  refine am_e_iload (am_nxt_of (i := (243, 2, .iload 4, (0, 0, 0), 0)) (by decide +kernel)) rfl ?_
  refine am_e_iconst (w := 4) (am_nxt_of (i := (245, 1, .iconst 4, (0, 0, 0), 0)) (by decide +kernel)) rfl ?_
  refine am_e_iadd (w := i + 4) (am_nxt_of (i := (246, 1, .iadd, (0, 0, 0), 0)) (by decide +kernel)) rfl ?_
  refine am_e_sald (q := 6 * j + 4) (am_nxt_of (i := (247, 1, .iaload, (0, 0, 0), 0)) (by decide +kernel)) rfl (ag_i (n := 4) hi_z (by decide) (by omega) hL).1 (ag_i (n := 4) hi_z (by decide) (by omega) hL).2 ?_
  refine am_e_sload_n (am_nxt_of (i := (248, 1, .aload_n 0, (0, 0, 0), 0)) (by decide +kernel)) rfl ?_
  refine am_e_iload (am_nxt_of (i := (249, 2, .iload 4, (0, 0, 0), 0)) (by decide +kernel)) rfl ?_
  refine am_e_iconst (w := 5) (am_nxt_of (i := (251, 1, .iconst 5, (0, 0, 0), 0)) (by decide +kernel)) rfl ?_
  refine am_e_iadd (w := i + 5) (am_nxt_of (i := (252, 1, .iadd, (0, 0, 0), 0)) (by decide +kernel)) rfl ?_
  refine am_e_sald (q := 6 * j + 5) (am_nxt_of (i := (253, 1, .iaload, (0, 0, 0), 0)) (by decide +kernel)) rfl (ag_i (n := 5) hi_z (by decide) (by omega) hL).1 (ag_i (n := 5) hi_z (by decide) (by omega) hL).2 ?_
  refine am_e_callV (M' := am_m149) (o := 164) (ar := [.int (xs (6 * j + 5)), .int (xs (6 * j + 4)), .int (xs (6 * j + 3)), .int (xs (6 * j + 2)), .int (xs (6 * j + 1))]) (rest := []) (L := lv_args 0 [.ref 164, .int (xs (6 * j + 1)), .int (xs (6 * j + 2)), .int (xs (6 * j + 3)), .int (xs (6 * j + 4)), .int (xs (6 * j + 5))]) (am_nxt_of (i := (254, 3, .invokevirtual 25, (149, 1628, 3), 0)) (by decide +kernel)) rfl rfl rfl rfl ac_o (ag_okC rfl (by decide) (by omega) (by omega)) rfl rfl ?_
  refine am_Ev_mono (ek_rn (rn_KM (a := 149) (by decide) rfl) (rn_D rnh1) (ac_mfeed (X := ag_Y t1_z) (ag_mX t1_z) I1 ⟨J1.2.1, J1.1, e1_z⟩ J1.2.2)) (fun r ks h2_z hq_z => ?_)
  obtain ⟨⟨rfl, I2, J2, Fh2, hr2_z⟩, nh2_z, rnh2⟩ := hq_z
  obtain ⟨t2_z, e2_z, r2_z, hx2_z, hv2_z⟩ : ∃ t2_z : Int32, h2_z 164 1 = .int t2_z ∧ ∃ x : Int32, r = some (.int x) ∧ (680 < t.toInt ∧ x = -1 ∧ t2_z = t ∨ t.toInt ≤ 680 ∧ t2_z.toInt = t.toInt + 20 ∧ x = t2_z) := by
    rcases hr2_z with ⟨a1_z, a2_z, a3_z⟩ | ⟨a1_z, t', a2_z, a3_z, a4_z⟩
    · exact ⟨t, a3_z, -1, a2_z, Or.inl ⟨a1_z, rfl, rfl⟩⟩
    · exact ⟨t', a4_z, t', a3_z, Or.inr ⟨a1_z, a2_z, rfl⟩⟩
  have hh : r1_z = r2_z ∧ t1_z = t2_z := by
    rcases hv1_z with ⟨a1_z, rfl, rfl⟩ | ⟨a1_z, a2_z, rfl⟩
    · rcases hv2_z with ⟨b1_z, rfl, rfl⟩ | ⟨b1_z, b2_z, rfl⟩
      · exact ⟨rfl, rfl⟩
      · omega
    · rcases hv2_z with ⟨b1_z, rfl, rfl⟩ | ⟨b1_z, b2_z, rfl⟩
      · omega
      · have e : r1_z = r2_z := Int32.toInt_inj.mp (by omega)
        exact ⟨e, e⟩
  obtain ⟨-, rfl⟩ := hh
  subst hx2_z
  have hG2 : ag_G t1_z h2_z := ⟨I2, J2.2.1, J2.1, J2.2.2, e2_z⟩
  show am_Ek false (am_P1 (some (L, xs)) lk) am_m254 80 [(4, .int i), (3, .ref 202), (2, .ref 164), (1, .ref 0), (0, .retAddr 0)] [.int r2_z] am_ks0 _ nc ns Q
  refine am_e_pop (am_nxt_of (i := (257, 1, .pop, (0, 0, 0), 0)) (by decide +kernel)) rfl ?_
  refine am_e_goto (am_cur_of (i := (258, 3, .goto 1054, (823, 0, 0), 0)) (by decide +kernel)) (am_tgt_of (by decide +kernel)) ?_
  exact K t1_z h2_z _ _ (by omega) (by omega) hG2 (rn_D rnh2) (X _ _ _ _ _ _ _ _ _ _ _ _ _ _ hR hG hG2 Fh1 Fh2 rnh1 rnh2)
theorem ag_case1 (hG : ag_G t h) (hD : rg_Gd h) (hR : Rel h) (hi_z : i.toInt = (6 * j : Nat)) (hb_z : 6 * j + 6 ≤ L) (hL : L ≤ 3072) (hc_z : nc ≤ 9000) (hs_z : ns ≤ 90000) (K : ag_K1 Rel lk L nc ns xs i Q) (X : ax_text Rel) : am_Ek false (am_P1 (some (L, xs)) lk) am_m254 82 [(4, .int i), (3, .ref 202), (2, .ref 164), (1, .ref 0), (0, .retAddr 0)] [] am_ks0 h nc ns Q := by
  refine am_e_aload_n (am_nxt_of (i := (261, 1, .aload_n 1, (0, 0, 0), 0)) (by decide +kernel)) rfl ?_
  refine am_e_sload_n (am_nxt_of (i := (262, 1, .aload_n 0, (0, 0, 0), 0)) (by decide +kernel)) rfl ?_
  refine am_e_iload (am_nxt_of (i := (263, 2, .iload 4, (0, 0, 0), 0)) (by decide +kernel)) rfl ?_
  refine am_e_iconst (w := 1) (am_nxt_of (i := (265, 1, .iconst 1, (0, 0, 0), 0)) (by decide +kernel)) rfl ?_
  refine am_e_iadd (w := i + 1) (am_nxt_of (i := (266, 1, .iadd, (0, 0, 0), 0)) (by decide +kernel)) rfl ?_
  refine am_e_sald (q := 6 * j + 1) (am_nxt_of (i := (267, 1, .iaload, (0, 0, 0), 0)) (by decide +kernel)) rfl (ag_i (n := 1) hi_z (by decide) (by omega) hL).1 (ag_i (n := 1) hi_z (by decide) (by omega) hL).2 ?_
  obtain ⟨g1_z, g2_z, g3_z, g4_z, g5_z⟩ := id hG
  refine am_e_callV (M' := am_m17) (o := 0) (ar := [.int (xs (6 * j + 1))]) (rest := []) (L := lv_args 0 [.ref 0, .int (xs (6 * j + 1))]) (am_nxt_of (i := (268, 3, .invokevirtual 26, (17, 718, 3), 0)) (by decide +kernel)) rfl rfl rfl rfl ac_o0 (ag_okC rfl (by decide) (by omega) (by omega)) rfl rfl ?_
  refine am_Ev_mono (ek_rn (rn_KM (a := 17) (by decide) rfl) hD (ac_ctext (X := ag_X t) (ag_XF t) g1_z ⟨g2_z, g3_z, g5_z⟩ g4_z)) (fun r ks h1_z hq_z => ?_)
  obtain ⟨⟨rfl, I1, J1, Fh1, ⟨x1_z, hx1_z⟩, hr1_z⟩, nh1_z, rnh1⟩ := hq_z
  obtain ⟨t1_z, e1_z, hv1_z⟩ : ∃ t1_z : Int32, h1_z 0 1 = .int t1_z ∧ ((xs (6 * j + 1) < 0 ∨ t < xs (6 * j + 1)) ∧ t1_z = t ∨ ¬ (xs (6 * j + 1) < 0 ∨ t < xs (6 * j + 1)) ∧ t1_z = 0) := by
    rcases hr1_z with ⟨a1_z, a2_z⟩ | ⟨a1_z, a2_z⟩
    · exact ⟨t, a2_z, Or.inl ⟨a1_z, rfl⟩⟩
    · exact ⟨0, a2_z, Or.inr ⟨a1_z, rfl⟩⟩
  subst hx1_z
  show am_Ek false (am_P1 (some (L, xs)) lk) am_m254 89 [(4, .int i), (3, .ref 202), (2, .ref 164), (1, .ref 0), (0, .retAddr 0)] [.int x1_z] am_ks0 _ nc ns Q
  refine am_e_pop (am_nxt_of (i := (271, 1, .pop, (0, 0, 0), 0)) (by decide +kernel)) rfl ?_
  refine am_e_aload_n (am_nxt_of (i := (272, 1, .aload_n 2, (0, 0, 0), 0)) (by decide +kernel)) rfl ?_
  refine am_e_sload_n (am_nxt_of (i := (273, 1, .aload_n 0, (0, 0, 0), 0)) (by decide +kernel)) rfl ?_
  refine am_e_iload (am_nxt_of (i := (274, 2, .iload 4, (0, 0, 0), 0)) (by decide +kernel)) rfl ?_
  refine am_e_iconst (w := 1) (am_nxt_of (i := (276, 1, .iconst 1, (0, 0, 0), 0)) (by decide +kernel)) rfl ?_
  refine am_e_iadd (w := i + 1) (am_nxt_of (i := (277, 1, .iadd, (0, 0, 0), 0)) (by decide +kernel)) rfl ?_
  refine am_e_sald (q := 6 * j + 1) (am_nxt_of (i := (278, 1, .iaload, (0, 0, 0), 0)) (by decide +kernel)) rfl (ag_i (n := 1) hi_z (by decide) (by omega) hL).1 (ag_i (n := 1) hi_z (by decide) (by omega) hL).2 ?_
  refine am_e_callV (M' := am_m150) (o := 164) (ar := [.int (xs (6 * j + 1))]) (rest := []) (L := lv_args 0 [.ref 164, .int (xs (6 * j + 1))]) (am_nxt_of (i := (279, 3, .invokevirtual 30, (150, 1632, 3), 0)) (by decide +kernel)) rfl rfl rfl rfl ac_o (ag_okC rfl (by decide) (by omega) (by omega)) rfl rfl ?_
  refine am_Ev_mono (ek_rn (rn_KM (a := 150) (by decide) rfl) (rn_D rnh1) (ac_text (Y := ag_Y t1_z) (ag_YF t1_z) ac_pk (fun X hX => ac_LCs hX) (ac_h355 (ag_mX t1_z)) I1 ⟨J1.2.1, J1.1, e1_z⟩ J1.2.2)) (fun r ks h2_z hq_z => ?_)
  obtain ⟨⟨rfl, I2, J2, Fh2, ⟨r2_z, hx2_z⟩, hr2_z⟩, nh2_z, rnh2⟩ := hq_z
  have e2_z : h2_z 164 1 = .int t1_z := by
    rcases hv1_z with ⟨a1_z, rfl⟩ | ⟨a1_z, rfl⟩
    · rcases hr2_z with ⟨b1_z, b2_z⟩ | ⟨b1_z, b2_z⟩
      · exact b2_z
      · exact absurd a1_z b1_z
    · rcases hr2_z with ⟨b1_z, b2_z⟩ | ⟨b1_z, b2_z⟩
      · exact absurd b1_z a1_z
      · exact b2_z
  subst hx2_z
  have hG2 : ag_G t1_z h2_z := ⟨I2, J2.2.1, J2.1, J2.2.2, e2_z⟩
  show am_Ek false (am_P1 (some (L, xs)) lk) am_m254 97 [(4, .int i), (3, .ref 202), (2, .ref 164), (1, .ref 0), (0, .retAddr 0)] [.int r2_z] am_ks0 _ nc ns Q
  refine am_e_pop (am_nxt_of (i := (282, 1, .pop, (0, 0, 0), 0)) (by decide +kernel)) rfl ?_
  refine am_e_goto (am_cur_of (i := (283, 3, .goto 1029, (823, 0, 0), 0)) (by decide +kernel)) (am_tgt_of (by decide +kernel)) ?_
  exact K t1_z h2_z _ _ (by omega) (by omega) hG2 (rn_D rnh2) (X _ _ _ _ _ _ _ _ _ _ hR hG hG2 (hv1_z.imp And.right And.right) Fh1 Fh2 rnh1 rnh2)
theorem ag_case2 (hG : ag_G t h) (hD : rg_Gd h) (hR : Rel h) (hi_z : i.toInt = (6 * j : Nat)) (hb_z : 6 * j + 6 ≤ L) (hL : L ≤ 3072) (hc_z : nc ≤ 9000) (hs_z : ns ≤ 90000) (K : ag_K1 Rel lk L nc ns xs i Q) (X : ax_fault Rel) : am_Ek false (am_P1 (some (L, xs)) lk) am_m254 99 [(4, .int i), (3, .ref 202), (2, .ref 164), (1, .ref 0), (0, .retAddr 0)] [] am_ks0 h nc ns Q := by
  refine am_e_aload_n (am_nxt_of (i := (286, 1, .aload_n 1, (0, 0, 0), 0)) (by decide +kernel)) rfl ?_
  refine am_e_sload_n (am_nxt_of (i := (287, 1, .aload_n 0, (0, 0, 0), 0)) (by decide +kernel)) rfl ?_
  refine am_e_iload (am_nxt_of (i := (288, 2, .iload 4, (0, 0, 0), 0)) (by decide +kernel)) rfl ?_
  refine am_e_iconst (w := 1) (am_nxt_of (i := (290, 1, .iconst 1, (0, 0, 0), 0)) (by decide +kernel)) rfl ?_
  refine am_e_iadd (w := i + 1) (am_nxt_of (i := (291, 1, .iadd, (0, 0, 0), 0)) (by decide +kernel)) rfl ?_
  refine am_e_sald (q := 6 * j + 1) (am_nxt_of (i := (292, 1, .iaload, (0, 0, 0), 0)) (by decide +kernel)) rfl (ag_i (n := 1) hi_z (by decide) (by omega) hL).1 (ag_i (n := 1) hi_z (by decide) (by omega) hL).2 ?_
  refine am_e_callV (M' := am_m59) (o := 0) (ar := [.int (xs (6 * j + 1))]) (rest := []) (L := lv_args 0 [.ref 0, .int (xs (6 * j + 1))]) (am_nxt_of (i := (293, 3, .invokevirtual 31, (59, 894, 3), 0)) (by decide +kernel)) rfl rfl rfl rfl ac_o0 (ag_okC rfl (by decide) (by omega) (by omega)) rfl rfl ?_
  refine am_Ev_mono (ag_c_fault hG hD) (fun r ks h1_z hq_z => ?_)
  obtain ⟨⟨rfl, hG1, ⟨xh1_z, rfl⟩, Fh1⟩, nh1_z, rnh1⟩ := hq_z
  have hD1 := rn_D rnh1
  show am_Ek false (am_P1 (some (L, xs)) lk) am_m254 106 [(4, .int i), (3, .ref 202), (2, .ref 164), (1, .ref 0), (0, .retAddr 0)] [.int xh1_z] am_ks0 _ nc ns Q
  refine am_e_pop (am_nxt_of (i := (296, 1, .pop, (0, 0, 0), 0)) (by decide +kernel)) rfl ?_
  refine am_e_aload_n (am_nxt_of (i := (297, 1, .aload_n 2, (0, 0, 0), 0)) (by decide +kernel)) rfl ?_
  refine am_e_sload_n (am_nxt_of (i := (298, 1, .aload_n 0, (0, 0, 0), 0)) (by decide +kernel)) rfl ?_
  refine am_e_iload (am_nxt_of (i := (299, 2, .iload 4, (0, 0, 0), 0)) (by decide +kernel)) rfl ?_
  refine am_e_iconst (w := 1) (am_nxt_of (i := (301, 1, .iconst 1, (0, 0, 0), 0)) (by decide +kernel)) rfl ?_
  refine am_e_iadd (w := i + 1) (am_nxt_of (i := (302, 1, .iadd, (0, 0, 0), 0)) (by decide +kernel)) rfl ?_
  refine am_e_sald (q := 6 * j + 1) (am_nxt_of (i := (303, 1, .iaload, (0, 0, 0), 0)) (by decide +kernel)) rfl (ag_i (n := 1) hi_z (by decide) (by omega) hL).1 (ag_i (n := 1) hi_z (by decide) (by omega) hL).2 ?_
  refine am_e_callV (M' := am_m182) (o := 164) (ar := [.int (xs (6 * j + 1))]) (rest := []) (L := lv_args 0 [.ref 164, .int (xs (6 * j + 1))]) (am_nxt_of (i := (304, 3, .invokevirtual 34, (182, 1758, 3), 0)) (by decide +kernel)) rfl rfl rfl rfl ac_o (ag_okC rfl (by decide) (by omega) (by omega)) rfl rfl ?_
  refine am_Ev_mono (ag_m_fault hG1 hD1) (fun r ks h2_z hq_z => ?_)
  obtain ⟨⟨rfl, hG2, ⟨xh2_z, rfl⟩, Fh2⟩, nh2_z, rnh2⟩ := hq_z
  have hD2 := rn_D rnh2
  show am_Ek false (am_P1 (some (L, xs)) lk) am_m254 114 [(4, .int i), (3, .ref 202), (2, .ref 164), (1, .ref 0), (0, .retAddr 0)] [.int xh2_z] am_ks0 _ nc ns Q
  refine am_e_pop (am_nxt_of (i := (307, 1, .pop, (0, 0, 0), 0)) (by decide +kernel)) rfl ?_
  refine am_e_goto (am_cur_of (i := (308, 3, .goto 1004, (823, 0, 0), 0)) (by decide +kernel)) (am_tgt_of (by decide +kernel)) ?_
  exact K _ h2_z _ _ (by omega) (by omega) hG2 hD2 (X _ _ _ _ _ _ _ _ _ hR hG hG1 hG2 Fh1 Fh2 rnh1 rnh2)
theorem ag_case3 (hG : ag_G t h) (hD : rg_Gd h) (hR : Rel h) (hi_z : i.toInt = (6 * j : Nat)) (hb_z : 6 * j + 6 ≤ L) (hL : L ≤ 3072) (hc_z : nc ≤ 9000) (hs_z : ns ≤ 90000) (K : ag_K1 Rel lk L nc ns xs i Q) (X : ax_named Rel) : am_Ek false (am_P1 (some (L, xs)) lk) am_m254 116 [(4, .int i), (3, .ref 202), (2, .ref 164), (1, .ref 0), (0, .retAddr 0)] [] am_ks0 h nc ns Q := by
  refine am_e_aload_n (am_nxt_of (i := (311, 1, .aload_n 1, (0, 0, 0), 0)) (by decide +kernel)) rfl ?_
  refine am_e_sload_n (am_nxt_of (i := (312, 1, .aload_n 0, (0, 0, 0), 0)) (by decide +kernel)) rfl ?_
  refine am_e_iload (am_nxt_of (i := (313, 2, .iload 4, (0, 0, 0), 0)) (by decide +kernel)) rfl ?_
  refine am_e_iconst (w := 1) (am_nxt_of (i := (315, 1, .iconst 1, (0, 0, 0), 0)) (by decide +kernel)) rfl ?_
  refine am_e_iadd (w := i + 1) (am_nxt_of (i := (316, 1, .iadd, (0, 0, 0), 0)) (by decide +kernel)) rfl ?_
  refine am_e_sald (q := 6 * j + 1) (am_nxt_of (i := (317, 1, .iaload, (0, 0, 0), 0)) (by decide +kernel)) rfl (ag_i (n := 1) hi_z (by decide) (by omega) hL).1 (ag_i (n := 1) hi_z (by decide) (by omega) hL).2 ?_
  refine am_e_sload_n (am_nxt_of (i := (318, 1, .aload_n 0, (0, 0, 0), 0)) (by decide +kernel)) rfl ?_
  refine am_e_iload (am_nxt_of (i := (319, 2, .iload 4, (0, 0, 0), 0)) (by decide +kernel)) rfl ?_
  refine am_e_iconst (w := 2) (am_nxt_of (i := (321, 1, .iconst 2, (0, 0, 0), 0)) (by decide +kernel)) rfl ?_
  refine am_e_iadd (w := i + 2) (am_nxt_of (i := (322, 1, .iadd, (0, 0, 0), 0)) (by decide +kernel)) rfl ?_
  refine am_e_sald (q := 6 * j + 2) (am_nxt_of (i := (323, 1, .iaload, (0, 0, 0), 0)) (by decide +kernel)) rfl (ag_i (n := 2) hi_z (by decide) (by omega) hL).1 (ag_i (n := 2) hi_z (by decide) (by omega) hL).2 ?_
  refine am_e_callV (M' := am_m60) (o := 0) (ar := [.int (xs (6 * j + 2)), .int (xs (6 * j + 1))]) (rest := []) (L := lv_args 0 [.ref 0, .int (xs (6 * j + 1)), .int (xs (6 * j + 2))]) (am_nxt_of (i := (324, 3, .invokevirtual 35, (60, 898, 3), 0)) (by decide +kernel)) rfl rfl rfl rfl ac_o0 (ag_okC rfl (by decide) (by omega) (by omega)) rfl rfl ?_
  refine am_Ev_mono (ag_c_named hG hD) (fun r ks h1_z hq_z => ?_)
  obtain ⟨⟨rfl, hG1, ⟨xh1_z, rfl⟩, Fh1⟩, nh1_z, rnh1⟩ := hq_z
  have hD1 := rn_D rnh1
  show am_Ek false (am_P1 (some (L, xs)) lk) am_m254 128 [(4, .int i), (3, .ref 202), (2, .ref 164), (1, .ref 0), (0, .retAddr 0)] [.int xh1_z] am_ks0 _ nc ns Q
  refine am_e_pop (am_nxt_of (i := (327, 1, .pop, (0, 0, 0), 0)) (by decide +kernel)) rfl ?_
  refine am_e_aload_n (am_nxt_of (i := (328, 1, .aload_n 2, (0, 0, 0), 0)) (by decide +kernel)) rfl ?_
  refine am_e_sload_n (am_nxt_of (i := (329, 1, .aload_n 0, (0, 0, 0), 0)) (by decide +kernel)) rfl ?_
  refine am_e_iload (am_nxt_of (i := (330, 2, .iload 4, (0, 0, 0), 0)) (by decide +kernel)) rfl ?_
  refine am_e_iconst (w := 1) (am_nxt_of (i := (332, 1, .iconst 1, (0, 0, 0), 0)) (by decide +kernel)) rfl ?_
  refine am_e_iadd (w := i + 1) (am_nxt_of (i := (333, 1, .iadd, (0, 0, 0), 0)) (by decide +kernel)) rfl ?_
  refine am_e_sald (q := 6 * j + 1) (am_nxt_of (i := (334, 1, .iaload, (0, 0, 0), 0)) (by decide +kernel)) rfl (ag_i (n := 1) hi_z (by decide) (by omega) hL).1 (ag_i (n := 1) hi_z (by decide) (by omega) hL).2 ?_
  refine am_e_sload_n (am_nxt_of (i := (335, 1, .aload_n 0, (0, 0, 0), 0)) (by decide +kernel)) rfl ?_
  refine am_e_iload (am_nxt_of (i := (336, 2, .iload 4, (0, 0, 0), 0)) (by decide +kernel)) rfl ?_
  refine am_e_iconst (w := 2) (am_nxt_of (i := (338, 1, .iconst 2, (0, 0, 0), 0)) (by decide +kernel)) rfl ?_
  refine am_e_iadd (w := i + 2) (am_nxt_of (i := (339, 1, .iadd, (0, 0, 0), 0)) (by decide +kernel)) rfl ?_
  refine am_e_sald (q := 6 * j + 2) (am_nxt_of (i := (340, 1, .iaload, (0, 0, 0), 0)) (by decide +kernel)) rfl (ag_i (n := 2) hi_z (by decide) (by omega) hL).1 (ag_i (n := 2) hi_z (by decide) (by omega) hL).2 ?_
  refine am_e_callV (M' := am_m183) (o := 164) (ar := [.int (xs (6 * j + 2)), .int (xs (6 * j + 1))]) (rest := []) (L := lv_args 0 [.ref 164, .int (xs (6 * j + 1)), .int (xs (6 * j + 2))]) (am_nxt_of (i := (341, 3, .invokevirtual 38, (183, 1762, 3), 0)) (by decide +kernel)) rfl rfl rfl rfl ac_o (ag_okC rfl (by decide) (by omega) (by omega)) rfl rfl ?_
  refine am_Ev_mono (ag_m_named hG1 hD1) (fun r ks h2_z hq_z => ?_)
  obtain ⟨⟨rfl, hG2, ⟨xh2_z, rfl⟩, Fh2⟩, nh2_z, rnh2⟩ := hq_z
  have hD2 := rn_D rnh2
  show am_Ek false (am_P1 (some (L, xs)) lk) am_m254 141 [(4, .int i), (3, .ref 202), (2, .ref 164), (1, .ref 0), (0, .retAddr 0)] [.int xh2_z] am_ks0 _ nc ns Q
  refine am_e_pop (am_nxt_of (i := (344, 1, .pop, (0, 0, 0), 0)) (by decide +kernel)) rfl ?_
  refine am_e_goto (am_cur_of (i := (345, 3, .goto 967, (823, 0, 0), 0)) (by decide +kernel)) (am_tgt_of (by decide +kernel)) ?_
  exact K _ h2_z _ _ (by omega) (by omega) hG2 hD2 (X _ _ _ _ _ _ _ _ _ _ hR hG hG1 hG2 Fh1 Fh2 rnh1 rnh2)
theorem ag_case4 (hG : ag_G t h) (hD : rg_Gd h) (hR : Rel h) (hi_z : i.toInt = (6 * j : Nat)) (hb_z : 6 * j + 6 ≤ L) (hL : L ≤ 3072) (hc_z : nc ≤ 9000) (hs_z : ns ≤ 90000) (K : ag_K1 Rel lk L nc ns xs i Q) (hlk : ag_LK lk) (X : ax_look Rel) : am_Ek false (am_P1 (some (L, xs)) lk) am_m254 143 [(4, .int i), (3, .ref 202), (2, .ref 164), (1, .ref 0), (0, .retAddr 0)] [] am_ks0 h nc ns Q := by
  refine am_e_aload_n (am_nxt_of (i := (348, 1, .aload_n 1, (0, 0, 0), 0)) (by decide +kernel)) rfl ?_
  refine am_e_sload_n (am_nxt_of (i := (349, 1, .aload_n 0, (0, 0, 0), 0)) (by decide +kernel)) rfl ?_
  refine am_e_iload (am_nxt_of (i := (350, 2, .iload 4, (0, 0, 0), 0)) (by decide +kernel)) rfl ?_
  refine am_e_iconst (w := 1) (am_nxt_of (i := (352, 1, .iconst 1, (0, 0, 0), 0)) (by decide +kernel)) rfl ?_
  refine am_e_iadd (w := i + 1) (am_nxt_of (i := (353, 1, .iadd, (0, 0, 0), 0)) (by decide +kernel)) rfl ?_
  refine am_e_sald (q := 6 * j + 1) (am_nxt_of (i := (354, 1, .iaload, (0, 0, 0), 0)) (by decide +kernel)) rfl (ag_i (n := 1) hi_z (by decide) (by omega) hL).1 (ag_i (n := 1) hi_z (by decide) (by omega) hL).2 ?_
  refine am_e_sload_n (am_nxt_of (i := (355, 1, .aload_n 0, (0, 0, 0), 0)) (by decide +kernel)) rfl ?_
  refine am_e_iload (am_nxt_of (i := (356, 2, .iload 4, (0, 0, 0), 0)) (by decide +kernel)) rfl ?_
  refine am_e_iconst (w := 2) (am_nxt_of (i := (358, 1, .iconst 2, (0, 0, 0), 0)) (by decide +kernel)) rfl ?_
  refine am_e_iadd (w := i + 2) (am_nxt_of (i := (359, 1, .iadd, (0, 0, 0), 0)) (by decide +kernel)) rfl ?_
  refine am_e_sald (q := 6 * j + 2) (am_nxt_of (i := (360, 1, .iaload, (0, 0, 0), 0)) (by decide +kernel)) rfl (ag_i (n := 2) hi_z (by decide) (by omega) hL).1 (ag_i (n := 2) hi_z (by decide) (by omega) hL).2 ?_
  refine am_e_aload_n (am_nxt_of (i := (361, 1, .aload_n 3, (0, 0, 0), 0)) (by decide +kernel)) rfl ?_
  obtain ⟨v, h1_z, ev_z, hG1, Fh1, hD1⟩ := hlk t h (xs (6 * j + 1)) (xs (6 * j + 2)) hG
  refine ag_e_look (v := .int v) (h' := h1_z) (ar := [.ref 202, .int (xs (6 * j + 2)), .int (xs (6 * j + 1)), .ref 0]) (rest := []) (am_nxt_of (i := (362, 3, .invokestatic 39, (998, 1256, 0), 0)) (by decide +kernel)) rfl rfl rfl (ag_okC rfl (by decide) (by omega) (by omega)) ev_z ?_
  refine am_e_istore (ls' := [(5, .int v), (4, .int i), (3, .ref 202), (2, .ref 164), (1, .ref 0), (0, .retAddr 0)]) (am_nxt_of (i := (365, 2, .istore 5, (0, 0, 0), 0)) (by decide +kernel)) rfl rfl ?_
  refine am_e_aload_n (am_nxt_of (i := (367, 1, .aload_n 2, (0, 0, 0), 0)) (by decide +kernel)) rfl ?_
  refine am_e_sload_n (am_nxt_of (i := (368, 1, .aload_n 0, (0, 0, 0), 0)) (by decide +kernel)) rfl ?_
  refine am_e_iload (am_nxt_of (i := (369, 2, .iload 4, (0, 0, 0), 0)) (by decide +kernel)) rfl ?_
  refine am_e_iconst (w := 1) (am_nxt_of (i := (371, 1, .iconst 1, (0, 0, 0), 0)) (by decide +kernel)) rfl ?_
  refine am_e_iadd (w := i + 1) (am_nxt_of (i := (372, 1, .iadd, (0, 0, 0), 0)) (by decide +kernel)) rfl ?_
  refine am_e_sald (q := 6 * j + 1) (am_nxt_of (i := (373, 1, .iaload, (0, 0, 0), 0)) (by decide +kernel)) rfl (ag_i (n := 1) hi_z (by decide) (by omega) hL).1 (ag_i (n := 1) hi_z (by decide) (by omega) hL).2 ?_
  refine am_e_sload_n (am_nxt_of (i := (374, 1, .aload_n 0, (0, 0, 0), 0)) (by decide +kernel)) rfl ?_
  refine am_e_iload (am_nxt_of (i := (375, 2, .iload 4, (0, 0, 0), 0)) (by decide +kernel)) rfl ?_
  refine am_e_iconst (w := 2) (am_nxt_of (i := (377, 1, .iconst 2, (0, 0, 0), 0)) (by decide +kernel)) rfl ?_
  refine am_e_iadd (w := i + 2) (am_nxt_of (i := (378, 1, .iadd, (0, 0, 0), 0)) (by decide +kernel)) rfl ?_
  refine am_e_sald (q := 6 * j + 2) (am_nxt_of (i := (379, 1, .iaload, (0, 0, 0), 0)) (by decide +kernel)) rfl (ag_i (n := 2) hi_z (by decide) (by omega) hL).1 (ag_i (n := 2) hi_z (by decide) (by omega) hL).2 ?_
  refine am_e_callV (M' := am_m184) (o := 164) (ar := [.int (xs (6 * j + 2)), .int (xs (6 * j + 1))]) (rest := []) (L := lv_args 0 [.ref 164, .int (xs (6 * j + 1)), .int (xs (6 * j + 2))]) (am_nxt_of (i := (380, 3, .invokevirtual 44, (184, 1766, 3), 0)) (by decide +kernel)) rfl rfl rfl rfl ac_o (ag_okC rfl (by decide) (by omega) (by omega)) rfl rfl ?_
  refine am_Ev_mono (ag_m_look hG1 (hD1 hD)) (fun r ks h2_z hq_z => ?_)
  obtain ⟨⟨rfl, hG2, ⟨w, rfl⟩, Fh2⟩, nh2_z, rnh2⟩ := hq_z
  show am_Ek false (am_P1 (some (L, xs)) lk) am_m254 169 [(5, .int v), (4, .int i), (3, .ref 202), (2, .ref 164), (1, .ref 0), (0, .retAddr 0)] [.int w] am_ks0 h2_z (nc + 4) (ns + 40) Q
  refine am_e_istore (ls' := [(6, .int w), (5, .int v), (4, .int i), (3, .ref 202), (2, .ref 164), (1, .ref 0), (0, .retAddr 0)]) (am_nxt_of (i := (383, 2, .istore 6, (0, 0, 0), 0)) (by decide +kernel)) rfl rfl ?_
  refine am_e_goto (am_cur_of (i := (385, 3, .goto 927, (823, 0, 0), 0)) (by decide +kernel)) (am_tgt_of (by decide +kernel)) ?_
  refine am_Ek_ls (ls' := [(4, .int i), (3, .ref 202), (2, .ref 164), (1, .ref 0), (0, .retAddr 0)]) ⟨rfl, rfl, rfl, rfl, rfl, trivial⟩ ?_
  exact K t h2_z _ _ (by omega) (by omega) hG2 (rn_D rnh2) (X t _ _ _ _ _ _ _ hR hG hG1 hG2 Fh1 Fh2 rnh2)
theorem ag_case5 (hG : ag_G t h) (hD : rg_Gd h) (hR : Rel h) (hi_z : i.toInt = (6 * j : Nat)) (hb_z : 6 * j + 6 ≤ L) (hL : L ≤ 3072) (hc_z : nc ≤ 9000) (hs_z : ns ≤ 90000) (K : ag_K1 Rel lk L nc ns xs i Q) (X : ax_law Rel) : am_Ek false (am_P1 (some (L, xs)) lk) am_m254 171 [(4, .int i), (3, .ref 202), (2, .ref 164), (1, .ref 0), (0, .retAddr 0)] [] am_ks0 h nc ns Q := by
  refine am_e_aload_n (am_nxt_of (i := (388, 1, .aload_n 1, (0, 0, 0), 0)) (by decide +kernel)) rfl ?_
  refine am_e_sload_n (am_nxt_of (i := (389, 1, .aload_n 0, (0, 0, 0), 0)) (by decide +kernel)) rfl ?_
  refine am_e_iload (am_nxt_of (i := (390, 2, .iload 4, (0, 0, 0), 0)) (by decide +kernel)) rfl ?_
  refine am_e_iconst (w := 1) (am_nxt_of (i := (392, 1, .iconst 1, (0, 0, 0), 0)) (by decide +kernel)) rfl ?_
  refine am_e_iadd (w := i + 1) (am_nxt_of (i := (393, 1, .iadd, (0, 0, 0), 0)) (by decide +kernel)) rfl ?_
  refine am_e_sald (q := 6 * j + 1) (am_nxt_of (i := (394, 1, .iaload, (0, 0, 0), 0)) (by decide +kernel)) rfl (ag_i (n := 1) hi_z (by decide) (by omega) hL).1 (ag_i (n := 1) hi_z (by decide) (by omega) hL).2 ?_
  refine am_e_sload_n (am_nxt_of (i := (395, 1, .aload_n 0, (0, 0, 0), 0)) (by decide +kernel)) rfl ?_
  refine am_e_iload (am_nxt_of (i := (396, 2, .iload 4, (0, 0, 0), 0)) (by decide +kernel)) rfl ?_
  refine am_e_iconst (w := 2) (am_nxt_of (i := (398, 1, .iconst 2, (0, 0, 0), 0)) (by decide +kernel)) rfl ?_
  refine am_e_iadd (w := i + 2) (am_nxt_of (i := (399, 1, .iadd, (0, 0, 0), 0)) (by decide +kernel)) rfl ?_
  refine am_e_sald (q := 6 * j + 2) (am_nxt_of (i := (400, 1, .iaload, (0, 0, 0), 0)) (by decide +kernel)) rfl (ag_i (n := 2) hi_z (by decide) (by omega) hL).1 (ag_i (n := 2) hi_z (by decide) (by omega) hL).2 ?_
  refine am_e_callV (M' := am_m61) (o := 0) (ar := [.int (xs (6 * j + 2)), .int (xs (6 * j + 1))]) (rest := []) (L := lv_args 0 [.ref 0, .int (xs (6 * j + 1)), .int (xs (6 * j + 2))]) (am_nxt_of (i := (401, 3, .invokevirtual 45, (61, 904, 3), 0)) (by decide +kernel)) rfl rfl rfl rfl ac_o0 (ag_okC rfl (by decide) (by omega) (by omega)) rfl rfl ?_
  refine am_Ev_mono (ag_c_law hG hD) (fun r ks h1_z hq_z => ?_)
  obtain ⟨⟨rfl, hG1, ⟨xh1_z, rfl⟩, Fh1⟩, nh1_z, rnh1⟩ := hq_z
  have hD1 := rn_D rnh1
  show am_Ek false (am_P1 (some (L, xs)) lk) am_m254 183 [(4, .int i), (3, .ref 202), (2, .ref 164), (1, .ref 0), (0, .retAddr 0)] [.long xh1_z] am_ks0 _ nc ns Q
  refine am_e_pop2 (am_nxt_of (i := (404, 1, .pop2, (0, 0, 0), 0)) (by decide +kernel)) rfl ?_
  refine am_e_aload_n (am_nxt_of (i := (405, 1, .aload_n 2, (0, 0, 0), 0)) (by decide +kernel)) rfl ?_
  refine am_e_sload_n (am_nxt_of (i := (406, 1, .aload_n 0, (0, 0, 0), 0)) (by decide +kernel)) rfl ?_
  refine am_e_iload (am_nxt_of (i := (407, 2, .iload 4, (0, 0, 0), 0)) (by decide +kernel)) rfl ?_
  refine am_e_iconst (w := 1) (am_nxt_of (i := (409, 1, .iconst 1, (0, 0, 0), 0)) (by decide +kernel)) rfl ?_
  refine am_e_iadd (w := i + 1) (am_nxt_of (i := (410, 1, .iadd, (0, 0, 0), 0)) (by decide +kernel)) rfl ?_
  refine am_e_sald (q := 6 * j + 1) (am_nxt_of (i := (411, 1, .iaload, (0, 0, 0), 0)) (by decide +kernel)) rfl (ag_i (n := 1) hi_z (by decide) (by omega) hL).1 (ag_i (n := 1) hi_z (by decide) (by omega) hL).2 ?_
  refine am_e_sload_n (am_nxt_of (i := (412, 1, .aload_n 0, (0, 0, 0), 0)) (by decide +kernel)) rfl ?_
  refine am_e_iload (am_nxt_of (i := (413, 2, .iload 4, (0, 0, 0), 0)) (by decide +kernel)) rfl ?_
  refine am_e_iconst (w := 2) (am_nxt_of (i := (415, 1, .iconst 2, (0, 0, 0), 0)) (by decide +kernel)) rfl ?_
  refine am_e_iadd (w := i + 2) (am_nxt_of (i := (416, 1, .iadd, (0, 0, 0), 0)) (by decide +kernel)) rfl ?_
  refine am_e_sald (q := 6 * j + 2) (am_nxt_of (i := (417, 1, .iaload, (0, 0, 0), 0)) (by decide +kernel)) rfl (ag_i (n := 2) hi_z (by decide) (by omega) hL).1 (ag_i (n := 2) hi_z (by decide) (by omega) hL).2 ?_
  refine am_e_callV (M' := am_m187) (o := 164) (ar := [.int (xs (6 * j + 2)), .int (xs (6 * j + 1))]) (rest := []) (L := lv_args 0 [.ref 164, .int (xs (6 * j + 1)), .int (xs (6 * j + 2))]) (am_nxt_of (i := (418, 3, .invokevirtual 49, (187, 1778, 3), 0)) (by decide +kernel)) rfl rfl rfl rfl ac_o (ag_okC rfl (by decide) (by omega) (by omega)) rfl rfl ?_
  refine am_Ev_mono (ag_m_law hG1 hD1) (fun r ks h2_z hq_z => ?_)
  obtain ⟨⟨rfl, hG2, ⟨xh2_z, rfl⟩, Fh2⟩, nh2_z, rnh2⟩ := hq_z
  have hD2 := rn_D rnh2
  show am_Ek false (am_P1 (some (L, xs)) lk) am_m254 196 [(4, .int i), (3, .ref 202), (2, .ref 164), (1, .ref 0), (0, .retAddr 0)] [.long xh2_z] am_ks0 _ nc ns Q
  refine am_e_pop2 (am_nxt_of (i := (421, 1, .pop2, (0, 0, 0), 0)) (by decide +kernel)) rfl ?_
  refine am_e_goto (am_cur_of (i := (422, 3, .goto 890, (823, 0, 0), 0)) (by decide +kernel)) (am_tgt_of (by decide +kernel)) ?_
  exact K _ h2_z _ _ (by omega) (by omega) hG2 hD2 (X _ _ _ _ _ _ _ _ _ _ hR hG hG1 hG2 Fh1 Fh2 rnh1 rnh2)
theorem ag_case6 (hG : ag_G t h) (hD : rg_Gd h) (hR : Rel h) (hi_z : i.toInt = (6 * j : Nat)) (hb_z : 6 * j + 6 ≤ L) (hL : L ≤ 3072) (hc_z : nc ≤ 9000) (hs_z : ns ≤ 90000) (K : ag_K1 Rel lk L nc ns xs i Q) (X : ax_blow Rel) : am_Ek false (am_P1 (some (L, xs)) lk) am_m254 198 [(4, .int i), (3, .ref 202), (2, .ref 164), (1, .ref 0), (0, .retAddr 0)] [] am_ks0 h nc ns Q := by
  refine am_e_aload_n (am_nxt_of (i := (425, 1, .aload_n 1, (0, 0, 0), 0)) (by decide +kernel)) rfl ?_
  refine am_e_sload_n (am_nxt_of (i := (426, 1, .aload_n 0, (0, 0, 0), 0)) (by decide +kernel)) rfl ?_
  refine am_e_iload (am_nxt_of (i := (427, 2, .iload 4, (0, 0, 0), 0)) (by decide +kernel)) rfl ?_
  refine am_e_iconst (w := 1) (am_nxt_of (i := (429, 1, .iconst 1, (0, 0, 0), 0)) (by decide +kernel)) rfl ?_
  refine am_e_iadd (w := i + 1) (am_nxt_of (i := (430, 1, .iadd, (0, 0, 0), 0)) (by decide +kernel)) rfl ?_
  refine am_e_sald (q := 6 * j + 1) (am_nxt_of (i := (431, 1, .iaload, (0, 0, 0), 0)) (by decide +kernel)) rfl (ag_i (n := 1) hi_z (by decide) (by omega) hL).1 (ag_i (n := 1) hi_z (by decide) (by omega) hL).2 ?_
  refine am_e_sload_n (am_nxt_of (i := (432, 1, .aload_n 0, (0, 0, 0), 0)) (by decide +kernel)) rfl ?_
  refine am_e_iload (am_nxt_of (i := (433, 2, .iload 4, (0, 0, 0), 0)) (by decide +kernel)) rfl ?_
  refine am_e_iconst (w := 2) (am_nxt_of (i := (435, 1, .iconst 2, (0, 0, 0), 0)) (by decide +kernel)) rfl ?_
  refine am_e_iadd (w := i + 2) (am_nxt_of (i := (436, 1, .iadd, (0, 0, 0), 0)) (by decide +kernel)) rfl ?_
  refine am_e_sald (q := 6 * j + 2) (am_nxt_of (i := (437, 1, .iaload, (0, 0, 0), 0)) (by decide +kernel)) rfl (ag_i (n := 2) hi_z (by decide) (by omega) hL).1 (ag_i (n := 2) hi_z (by decide) (by omega) hL).2 ?_
  refine am_e_callV (M' := am_m69) (o := 0) (ar := [.int (xs (6 * j + 2)), .int (xs (6 * j + 1))]) (rest := []) (L := lv_args 0 [.ref 0, .int (xs (6 * j + 1)), .int (xs (6 * j + 2))]) (am_nxt_of (i := (438, 3, .invokevirtual 50, (69, 939, 3), 0)) (by decide +kernel)) rfl rfl rfl rfl ac_o0 (ag_okC rfl (by decide) (by omega) (by omega)) rfl rfl ?_
  refine am_Ev_mono (ag_c_blow hG hD) (fun r ks h1_z hq_z => ?_)
  obtain ⟨⟨rfl, hG1, ⟨xh1_z, rfl⟩, Fh1⟩, nh1_z, rnh1⟩ := hq_z
  have hD1 := rn_D rnh1
  show am_Ek false (am_P1 (some (L, xs)) lk) am_m254 210 [(4, .int i), (3, .ref 202), (2, .ref 164), (1, .ref 0), (0, .retAddr 0)] [.int xh1_z] am_ks0 _ nc ns Q
  refine am_e_pop (am_nxt_of (i := (441, 1, .pop, (0, 0, 0), 0)) (by decide +kernel)) rfl ?_
  refine am_e_aload_n (am_nxt_of (i := (442, 1, .aload_n 2, (0, 0, 0), 0)) (by decide +kernel)) rfl ?_
  refine am_e_sload_n (am_nxt_of (i := (443, 1, .aload_n 0, (0, 0, 0), 0)) (by decide +kernel)) rfl ?_
  refine am_e_iload (am_nxt_of (i := (444, 2, .iload 4, (0, 0, 0), 0)) (by decide +kernel)) rfl ?_
  refine am_e_iconst (w := 1) (am_nxt_of (i := (446, 1, .iconst 1, (0, 0, 0), 0)) (by decide +kernel)) rfl ?_
  refine am_e_iadd (w := i + 1) (am_nxt_of (i := (447, 1, .iadd, (0, 0, 0), 0)) (by decide +kernel)) rfl ?_
  refine am_e_sald (q := 6 * j + 1) (am_nxt_of (i := (448, 1, .iaload, (0, 0, 0), 0)) (by decide +kernel)) rfl (ag_i (n := 1) hi_z (by decide) (by omega) hL).1 (ag_i (n := 1) hi_z (by decide) (by omega) hL).2 ?_
  refine am_e_sload_n (am_nxt_of (i := (449, 1, .aload_n 0, (0, 0, 0), 0)) (by decide +kernel)) rfl ?_
  refine am_e_iload (am_nxt_of (i := (450, 2, .iload 4, (0, 0, 0), 0)) (by decide +kernel)) rfl ?_
  refine am_e_iconst (w := 2) (am_nxt_of (i := (452, 1, .iconst 2, (0, 0, 0), 0)) (by decide +kernel)) rfl ?_
  refine am_e_iadd (w := i + 2) (am_nxt_of (i := (453, 1, .iadd, (0, 0, 0), 0)) (by decide +kernel)) rfl ?_
  refine am_e_sald (q := 6 * j + 2) (am_nxt_of (i := (454, 1, .iaload, (0, 0, 0), 0)) (by decide +kernel)) rfl (ag_i (n := 2) hi_z (by decide) (by omega) hL).1 (ag_i (n := 2) hi_z (by decide) (by omega) hL).2 ?_
  refine am_e_callV (M' := am_m196) (o := 164) (ar := [.int (xs (6 * j + 2)), .int (xs (6 * j + 1))]) (rest := []) (L := lv_args 0 [.ref 164, .int (xs (6 * j + 1)), .int (xs (6 * j + 2))]) (am_nxt_of (i := (455, 3, .invokevirtual 53, (196, 1816, 3), 0)) (by decide +kernel)) rfl rfl rfl rfl ac_o (ag_okC rfl (by decide) (by omega) (by omega)) rfl rfl ?_
  refine am_Ev_mono (ag_m_blow hG1 hD1) (fun r ks h2_z hq_z => ?_)
  obtain ⟨⟨rfl, hG2, ⟨xh2_z, rfl⟩, Fh2⟩, nh2_z, rnh2⟩ := hq_z
  have hD2 := rn_D rnh2
  show am_Ek false (am_P1 (some (L, xs)) lk) am_m254 223 [(4, .int i), (3, .ref 202), (2, .ref 164), (1, .ref 0), (0, .retAddr 0)] [.int xh2_z] am_ks0 _ nc ns Q
  refine am_e_pop (am_nxt_of (i := (458, 1, .pop, (0, 0, 0), 0)) (by decide +kernel)) rfl ?_
  refine am_e_goto (am_cur_of (i := (459, 3, .goto 853, (823, 0, 0), 0)) (by decide +kernel)) (am_tgt_of (by decide +kernel)) ?_
  exact K _ h2_z _ _ (by omega) (by omega) hG2 hD2 (X _ _ _ _ _ _ _ _ _ _ hR hG hG1 hG2 Fh1 Fh2 rnh1 rnh2)
theorem ag_case7 (hG : ag_G t h) (hD : rg_Gd h) (hR : Rel h) (hi_z : i.toInt = (6 * j : Nat)) (hb_z : 6 * j + 6 ≤ L) (hL : L ≤ 3072) (hc_z : nc ≤ 9000) (hs_z : ns ≤ 90000) (K : ag_K1 Rel lk L nc ns xs i Q) (X : ax_waits Rel) : am_Ek false (am_P1 (some (L, xs)) lk) am_m254 225 [(4, .int i), (3, .ref 202), (2, .ref 164), (1, .ref 0), (0, .retAddr 0)] [] am_ks0 h nc ns Q := by
  refine am_e_aload_n (am_nxt_of (i := (462, 1, .aload_n 1, (0, 0, 0), 0)) (by decide +kernel)) rfl ?_
  refine am_e_sload_n (am_nxt_of (i := (463, 1, .aload_n 0, (0, 0, 0), 0)) (by decide +kernel)) rfl ?_
  refine am_e_iload (am_nxt_of (i := (464, 2, .iload 4, (0, 0, 0), 0)) (by decide +kernel)) rfl ?_
  refine am_e_iconst (w := 1) (am_nxt_of (i := (466, 1, .iconst 1, (0, 0, 0), 0)) (by decide +kernel)) rfl ?_
  refine am_e_iadd (w := i + 1) (am_nxt_of (i := (467, 1, .iadd, (0, 0, 0), 0)) (by decide +kernel)) rfl ?_
  refine am_e_sald (q := 6 * j + 1) (am_nxt_of (i := (468, 1, .iaload, (0, 0, 0), 0)) (by decide +kernel)) rfl (ag_i (n := 1) hi_z (by decide) (by omega) hL).1 (ag_i (n := 1) hi_z (by decide) (by omega) hL).2 ?_
  refine am_e_sload_n (am_nxt_of (i := (469, 1, .aload_n 0, (0, 0, 0), 0)) (by decide +kernel)) rfl ?_
  refine am_e_iload (am_nxt_of (i := (470, 2, .iload 4, (0, 0, 0), 0)) (by decide +kernel)) rfl ?_
  refine am_e_iconst (w := 2) (am_nxt_of (i := (472, 1, .iconst 2, (0, 0, 0), 0)) (by decide +kernel)) rfl ?_
  refine am_e_iadd (w := i + 2) (am_nxt_of (i := (473, 1, .iadd, (0, 0, 0), 0)) (by decide +kernel)) rfl ?_
  refine am_e_sald (q := 6 * j + 2) (am_nxt_of (i := (474, 1, .iaload, (0, 0, 0), 0)) (by decide +kernel)) rfl (ag_i (n := 2) hi_z (by decide) (by omega) hL).1 (ag_i (n := 2) hi_z (by decide) (by omega) hL).2 ?_
  by_cases hz236_z : (xs (6 * j + 2) : Int32) = 0
  · refine am_e_ifT (am_nxt_of (i := (475, 3, .ifCond .eq 7, (239, 0, 0), 0)) (by decide +kernel)) (am_c_eqT hz236_z) (am_tgt_of (by decide +kernel)) ?_
    refine am_e_iconst (w := 0) (am_nxt_of (i := (482, 1, .iconst 0, (0, 0, 0), 0)) (by decide +kernel)) rfl ?_
    refine am_e_callV (M' := am_m83) (o := 0) (ar := [.int 0, .int (xs (6 * j + 1))]) (rest := []) (L := lv_args 0 [.ref 0, .int (xs (6 * j + 1)), .int 0]) (am_nxt_of (i := (483, 3, .invokevirtual 54, (83, 1003, 3), 0)) (by decide +kernel)) rfl rfl rfl rfl ac_o0 (ag_okC rfl (by decide) (by omega) (by omega)) rfl rfl ?_
    refine am_Ev_mono (ag_c_waits hG hD (by decide) (by decide)) (fun r ks h1_z hq_z => ?_)
    obtain ⟨⟨rfl, hG1, ⟨xh1_z, rfl⟩, Fh1⟩, nh1_z, rnh1⟩ := hq_z
    have hD1 := rn_D rnh1
    show am_Ek false (am_P1 (some (L, xs)) lk) am_m254 241 [(4, .int i), (3, .ref 202), (2, .ref 164), (1, .ref 0), (0, .retAddr 0)] [.int xh1_z] am_ks0 _ nc ns Q
    refine am_e_pop (am_nxt_of (i := (486, 1, .pop, (0, 0, 0), 0)) (by decide +kernel)) rfl ?_
    refine am_e_aload_n (am_nxt_of (i := (487, 1, .aload_n 2, (0, 0, 0), 0)) (by decide +kernel)) rfl ?_
    refine am_e_sload_n (am_nxt_of (i := (488, 1, .aload_n 0, (0, 0, 0), 0)) (by decide +kernel)) rfl ?_
    refine am_e_iload (am_nxt_of (i := (489, 2, .iload 4, (0, 0, 0), 0)) (by decide +kernel)) rfl ?_
    refine am_e_iconst (w := 1) (am_nxt_of (i := (491, 1, .iconst 1, (0, 0, 0), 0)) (by decide +kernel)) rfl ?_
    refine am_e_iadd (w := i + 1) (am_nxt_of (i := (492, 1, .iadd, (0, 0, 0), 0)) (by decide +kernel)) rfl ?_
    refine am_e_sald (q := 6 * j + 1) (am_nxt_of (i := (493, 1, .iaload, (0, 0, 0), 0)) (by decide +kernel)) rfl (ag_i (n := 1) hi_z (by decide) (by omega) hL).1 (ag_i (n := 1) hi_z (by decide) (by omega) hL).2 ?_
    refine am_e_sload_n (am_nxt_of (i := (494, 1, .aload_n 0, (0, 0, 0), 0)) (by decide +kernel)) rfl ?_
    refine am_e_iload (am_nxt_of (i := (495, 2, .iload 4, (0, 0, 0), 0)) (by decide +kernel)) rfl ?_
    refine am_e_iconst (w := 2) (am_nxt_of (i := (497, 1, .iconst 2, (0, 0, 0), 0)) (by decide +kernel)) rfl ?_
    refine am_e_iadd (w := i + 2) (am_nxt_of (i := (498, 1, .iadd, (0, 0, 0), 0)) (by decide +kernel)) rfl ?_
    refine am_e_sald (q := 6 * j + 2) (am_nxt_of (i := (499, 1, .iaload, (0, 0, 0), 0)) (by decide +kernel)) rfl (ag_i (n := 2) hi_z (by decide) (by omega) hL).1 (ag_i (n := 2) hi_z (by decide) (by omega) hL).2 ?_
    have hz253_z := hz236_z
    refine am_e_ifT (am_nxt_of (i := (500, 3, .ifCond .eq 7, (256, 0, 0), 0)) (by decide +kernel)) (am_c_eqT hz253_z) (am_tgt_of (by decide +kernel)) ?_
    refine am_e_iconst (w := 0) (am_nxt_of (i := (507, 1, .iconst 0, (0, 0, 0), 0)) (by decide +kernel)) rfl ?_
    refine am_e_callV (M' := am_m209) (o := 164) (ar := [.int 0, .int (xs (6 * j + 1))]) (rest := []) (L := lv_args 0 [.ref 164, .int (xs (6 * j + 1)), .int 0]) (am_nxt_of (i := (508, 3, .invokevirtual 58, (209, 1867, 3), 0)) (by decide +kernel)) rfl rfl rfl rfl ac_o (ag_okC rfl (by decide) (by omega) (by omega)) rfl rfl ?_
    refine am_Ev_mono (ag_m_waits hG1 hD1 (by decide) (by decide)) (fun r ks h2_z hq_z => ?_)
    obtain ⟨⟨rfl, hG2, ⟨xh2_z, rfl⟩, Fh2⟩, nh2_z, rnh2⟩ := hq_z
    have hD2 := rn_D rnh2
    show am_Ek false (am_P1 (some (L, xs)) lk) am_m254 258 [(4, .int i), (3, .ref 202), (2, .ref 164), (1, .ref 0), (0, .retAddr 0)] [.int xh2_z] am_ks0 _ nc ns Q
    refine am_e_pop (am_nxt_of (i := (511, 1, .pop, (0, 0, 0), 0)) (by decide +kernel)) rfl ?_
    refine am_e_goto (am_cur_of (i := (512, 3, .goto 800, (823, 0, 0), 0)) (by decide +kernel)) (am_tgt_of (by decide +kernel)) ?_
    exact K _ h2_z _ _ (by omega) (by omega) hG2 hD2 (X _ _ _ _ _ _ _ _ _ _ hR hG hG1 hG2 (by decide) (by decide) Fh1 Fh2 rnh1 rnh2)
  · refine am_e_ifF (am_nxt_of (i := (475, 3, .ifCond .eq 7, (239, 0, 0), 0)) (by decide +kernel)) (am_c_eqF hz236_z) ?_
    refine am_e_iconst (w := 1) (am_nxt_of (i := (478, 1, .iconst 1, (0, 0, 0), 0)) (by decide +kernel)) rfl ?_
    refine am_e_goto (am_cur_of (i := (479, 3, .goto 4, (240, 0, 0), 0)) (by decide +kernel)) (am_tgt_of (by decide +kernel)) ?_
    refine am_e_callV (M' := am_m83) (o := 0) (ar := [.int 1, .int (xs (6 * j + 1))]) (rest := []) (L := lv_args 0 [.ref 0, .int (xs (6 * j + 1)), .int 1]) (am_nxt_of (i := (483, 3, .invokevirtual 54, (83, 1003, 3), 0)) (by decide +kernel)) rfl rfl rfl rfl ac_o0 (ag_okC rfl (by decide) (by omega) (by omega)) rfl rfl ?_
    refine am_Ev_mono (ag_c_waits hG hD (by decide) (by decide)) (fun r ks h1_z hq_z => ?_)
    obtain ⟨⟨rfl, hG1, ⟨xh1_z, rfl⟩, Fh1⟩, nh1_z, rnh1⟩ := hq_z
    have hD1 := rn_D rnh1
    show am_Ek false (am_P1 (some (L, xs)) lk) am_m254 241 [(4, .int i), (3, .ref 202), (2, .ref 164), (1, .ref 0), (0, .retAddr 0)] [.int xh1_z] am_ks0 _ nc ns Q
    refine am_e_pop (am_nxt_of (i := (486, 1, .pop, (0, 0, 0), 0)) (by decide +kernel)) rfl ?_
    refine am_e_aload_n (am_nxt_of (i := (487, 1, .aload_n 2, (0, 0, 0), 0)) (by decide +kernel)) rfl ?_
    refine am_e_sload_n (am_nxt_of (i := (488, 1, .aload_n 0, (0, 0, 0), 0)) (by decide +kernel)) rfl ?_
    refine am_e_iload (am_nxt_of (i := (489, 2, .iload 4, (0, 0, 0), 0)) (by decide +kernel)) rfl ?_
    refine am_e_iconst (w := 1) (am_nxt_of (i := (491, 1, .iconst 1, (0, 0, 0), 0)) (by decide +kernel)) rfl ?_
    refine am_e_iadd (w := i + 1) (am_nxt_of (i := (492, 1, .iadd, (0, 0, 0), 0)) (by decide +kernel)) rfl ?_
    refine am_e_sald (q := 6 * j + 1) (am_nxt_of (i := (493, 1, .iaload, (0, 0, 0), 0)) (by decide +kernel)) rfl (ag_i (n := 1) hi_z (by decide) (by omega) hL).1 (ag_i (n := 1) hi_z (by decide) (by omega) hL).2 ?_
    refine am_e_sload_n (am_nxt_of (i := (494, 1, .aload_n 0, (0, 0, 0), 0)) (by decide +kernel)) rfl ?_
    refine am_e_iload (am_nxt_of (i := (495, 2, .iload 4, (0, 0, 0), 0)) (by decide +kernel)) rfl ?_
    refine am_e_iconst (w := 2) (am_nxt_of (i := (497, 1, .iconst 2, (0, 0, 0), 0)) (by decide +kernel)) rfl ?_
    refine am_e_iadd (w := i + 2) (am_nxt_of (i := (498, 1, .iadd, (0, 0, 0), 0)) (by decide +kernel)) rfl ?_
    refine am_e_sald (q := 6 * j + 2) (am_nxt_of (i := (499, 1, .iaload, (0, 0, 0), 0)) (by decide +kernel)) rfl (ag_i (n := 2) hi_z (by decide) (by omega) hL).1 (ag_i (n := 2) hi_z (by decide) (by omega) hL).2 ?_
    have hz253_z := hz236_z
    refine am_e_ifF (am_nxt_of (i := (500, 3, .ifCond .eq 7, (256, 0, 0), 0)) (by decide +kernel)) (am_c_eqF hz253_z) ?_
    refine am_e_iconst (w := 1) (am_nxt_of (i := (503, 1, .iconst 1, (0, 0, 0), 0)) (by decide +kernel)) rfl ?_
    refine am_e_goto (am_cur_of (i := (504, 3, .goto 4, (257, 0, 0), 0)) (by decide +kernel)) (am_tgt_of (by decide +kernel)) ?_
    refine am_e_callV (M' := am_m209) (o := 164) (ar := [.int 1, .int (xs (6 * j + 1))]) (rest := []) (L := lv_args 0 [.ref 164, .int (xs (6 * j + 1)), .int 1]) (am_nxt_of (i := (508, 3, .invokevirtual 58, (209, 1867, 3), 0)) (by decide +kernel)) rfl rfl rfl rfl ac_o (ag_okC rfl (by decide) (by omega) (by omega)) rfl rfl ?_
    refine am_Ev_mono (ag_m_waits hG1 hD1 (by decide) (by decide)) (fun r ks h2_z hq_z => ?_)
    obtain ⟨⟨rfl, hG2, ⟨xh2_z, rfl⟩, Fh2⟩, nh2_z, rnh2⟩ := hq_z
    have hD2 := rn_D rnh2
    show am_Ek false (am_P1 (some (L, xs)) lk) am_m254 258 [(4, .int i), (3, .ref 202), (2, .ref 164), (1, .ref 0), (0, .retAddr 0)] [.int xh2_z] am_ks0 _ nc ns Q
    refine am_e_pop (am_nxt_of (i := (511, 1, .pop, (0, 0, 0), 0)) (by decide +kernel)) rfl ?_
    refine am_e_goto (am_cur_of (i := (512, 3, .goto 800, (823, 0, 0), 0)) (by decide +kernel)) (am_tgt_of (by decide +kernel)) ?_
    exact K _ h2_z _ _ (by omega) (by omega) hG2 hD2 (X _ _ _ _ _ _ _ _ _ _ hR hG hG1 hG2 (by decide) (by decide) Fh1 Fh2 rnh1 rnh2)
theorem ag_case8 (hG : ag_G t h) (hD : rg_Gd h) (hR : Rel h) (hi_z : i.toInt = (6 * j : Nat)) (hb_z : 6 * j + 6 ≤ L) (hL : L ≤ 3072) (hc_z : nc ≤ 9000) (hs_z : ns ≤ 90000) (K : ag_K1 Rel lk L nc ns xs i Q) (X : ax_pump Rel) : am_Ek false (am_P1 (some (L, xs)) lk) am_m254 260 [(4, .int i), (3, .ref 202), (2, .ref 164), (1, .ref 0), (0, .retAddr 0)] [] am_ks0 h nc ns Q := by
  refine am_e_aload_n (am_nxt_of (i := (515, 1, .aload_n 1, (0, 0, 0), 0)) (by decide +kernel)) rfl ?_
  refine am_e_sload_n (am_nxt_of (i := (516, 1, .aload_n 0, (0, 0, 0), 0)) (by decide +kernel)) rfl ?_
  refine am_e_iload (am_nxt_of (i := (517, 2, .iload 4, (0, 0, 0), 0)) (by decide +kernel)) rfl ?_
  refine am_e_iconst (w := 1) (am_nxt_of (i := (519, 1, .iconst 1, (0, 0, 0), 0)) (by decide +kernel)) rfl ?_
  refine am_e_iadd (w := i + 1) (am_nxt_of (i := (520, 1, .iadd, (0, 0, 0), 0)) (by decide +kernel)) rfl ?_
  refine am_e_sald (q := 6 * j + 1) (am_nxt_of (i := (521, 1, .iaload, (0, 0, 0), 0)) (by decide +kernel)) rfl (ag_i (n := 1) hi_z (by decide) (by omega) hL).1 (ag_i (n := 1) hi_z (by decide) (by omega) hL).2 ?_
  refine am_e_callV (M' := am_m84) (o := 0) (ar := [.int (xs (6 * j + 1))]) (rest := []) (L := lv_args 0 [.ref 0, .int (xs (6 * j + 1))]) (am_nxt_of (i := (522, 3, .invokevirtual 59, (84, 1008, 3), 0)) (by decide +kernel)) rfl rfl rfl rfl ac_o0 (ag_okC rfl (by decide) (by omega) (by omega)) rfl rfl ?_
  refine am_Ev_mono (ag_c_pump hG hD) (fun r ks h1_z hq_z => ?_)
  obtain ⟨⟨rfl, hG1, ⟨xh1_z, rfl⟩, Fh1⟩, nh1_z, rnh1⟩ := hq_z
  have hD1 := rn_D rnh1
  show am_Ek false (am_P1 (some (L, xs)) lk) am_m254 267 [(4, .int i), (3, .ref 202), (2, .ref 164), (1, .ref 0), (0, .retAddr 0)] [.int xh1_z] am_ks0 _ nc ns Q
  refine am_e_pop (am_nxt_of (i := (525, 1, .pop, (0, 0, 0), 0)) (by decide +kernel)) rfl ?_
  refine am_e_aload_n (am_nxt_of (i := (526, 1, .aload_n 2, (0, 0, 0), 0)) (by decide +kernel)) rfl ?_
  refine am_e_sload_n (am_nxt_of (i := (527, 1, .aload_n 0, (0, 0, 0), 0)) (by decide +kernel)) rfl ?_
  refine am_e_iload (am_nxt_of (i := (528, 2, .iload 4, (0, 0, 0), 0)) (by decide +kernel)) rfl ?_
  refine am_e_iconst (w := 1) (am_nxt_of (i := (530, 1, .iconst 1, (0, 0, 0), 0)) (by decide +kernel)) rfl ?_
  refine am_e_iadd (w := i + 1) (am_nxt_of (i := (531, 1, .iadd, (0, 0, 0), 0)) (by decide +kernel)) rfl ?_
  refine am_e_sald (q := 6 * j + 1) (am_nxt_of (i := (532, 1, .iaload, (0, 0, 0), 0)) (by decide +kernel)) rfl (ag_i (n := 1) hi_z (by decide) (by omega) hL).1 (ag_i (n := 1) hi_z (by decide) (by omega) hL).2 ?_
  refine am_e_callV (M' := am_m210) (o := 164) (ar := [.int (xs (6 * j + 1))]) (rest := []) (L := lv_args 0 [.ref 164, .int (xs (6 * j + 1))]) (am_nxt_of (i := (533, 3, .invokevirtual 62, (210, 1871, 3), 0)) (by decide +kernel)) rfl rfl rfl rfl ac_o (ag_okC rfl (by decide) (by omega) (by omega)) rfl rfl ?_
  refine am_Ev_mono (ag_m_pump hG1 hD1) (fun r ks h2_z hq_z => ?_)
  obtain ⟨⟨rfl, hG2, ⟨xh2_z, rfl⟩, Fh2⟩, nh2_z, rnh2⟩ := hq_z
  have hD2 := rn_D rnh2
  show am_Ek false (am_P1 (some (L, xs)) lk) am_m254 275 [(4, .int i), (3, .ref 202), (2, .ref 164), (1, .ref 0), (0, .retAddr 0)] [.int xh2_z] am_ks0 _ nc ns Q
  refine am_e_pop (am_nxt_of (i := (536, 1, .pop, (0, 0, 0), 0)) (by decide +kernel)) rfl ?_
  refine am_e_goto (am_cur_of (i := (537, 3, .goto 775, (823, 0, 0), 0)) (by decide +kernel)) (am_tgt_of (by decide +kernel)) ?_
  exact K _ h2_z _ _ (by omega) (by omega) hG2 hD2 (X _ _ _ _ _ _ _ _ _ hR hG hG1 hG2 Fh1 Fh2 rnh1 rnh2)
theorem ag_case9 (hG : ag_G t h) (hD : rg_Gd h) (hR : Rel h) (hi_z : i.toInt = (6 * j : Nat)) (hb_z : 6 * j + 6 ≤ L) (hL : L ≤ 3072) (hc_z : nc ≤ 9000) (hs_z : ns ≤ 90000) (K : ag_K1 Rel lk L nc ns xs i Q) (X : ax_patch Rel) : am_Ek false (am_P1 (some (L, xs)) lk) am_m254 277 [(4, .int i), (3, .ref 202), (2, .ref 164), (1, .ref 0), (0, .retAddr 0)] [] am_ks0 h nc ns Q := by
  refine am_e_aload_n (am_nxt_of (i := (540, 1, .aload_n 1, (0, 0, 0), 0)) (by decide +kernel)) rfl ?_
  refine am_e_sload_n (am_nxt_of (i := (541, 1, .aload_n 0, (0, 0, 0), 0)) (by decide +kernel)) rfl ?_
  refine am_e_iload (am_nxt_of (i := (542, 2, .iload 4, (0, 0, 0), 0)) (by decide +kernel)) rfl ?_
  refine am_e_iconst (w := 1) (am_nxt_of (i := (544, 1, .iconst 1, (0, 0, 0), 0)) (by decide +kernel)) rfl ?_
  refine am_e_iadd (w := i + 1) (am_nxt_of (i := (545, 1, .iadd, (0, 0, 0), 0)) (by decide +kernel)) rfl ?_
  refine am_e_sald (q := 6 * j + 1) (am_nxt_of (i := (546, 1, .iaload, (0, 0, 0), 0)) (by decide +kernel)) rfl (ag_i (n := 1) hi_z (by decide) (by omega) hL).1 (ag_i (n := 1) hi_z (by decide) (by omega) hL).2 ?_
  refine am_e_callV (M' := am_m85) (o := 0) (ar := [.int (xs (6 * j + 1))]) (rest := []) (L := lv_args 0 [.ref 0, .int (xs (6 * j + 1))]) (am_nxt_of (i := (547, 3, .invokevirtual 63, (85, 1012, 3), 0)) (by decide +kernel)) rfl rfl rfl rfl ac_o0 (ag_okC rfl (by decide) (by omega) (by omega)) rfl rfl ?_
  refine am_Ev_mono (ag_c_patch hG hD) (fun r ks h1_z hq_z => ?_)
  obtain ⟨⟨rfl, hG1, ⟨xh1_z, rfl⟩, Fh1⟩, nh1_z, rnh1⟩ := hq_z
  have hD1 := rn_D rnh1
  show am_Ek false (am_P1 (some (L, xs)) lk) am_m254 284 [(4, .int i), (3, .ref 202), (2, .ref 164), (1, .ref 0), (0, .retAddr 0)] [.int xh1_z] am_ks0 _ nc ns Q
  refine am_e_pop (am_nxt_of (i := (550, 1, .pop, (0, 0, 0), 0)) (by decide +kernel)) rfl ?_
  refine am_e_aload_n (am_nxt_of (i := (551, 1, .aload_n 2, (0, 0, 0), 0)) (by decide +kernel)) rfl ?_
  refine am_e_sload_n (am_nxt_of (i := (552, 1, .aload_n 0, (0, 0, 0), 0)) (by decide +kernel)) rfl ?_
  refine am_e_iload (am_nxt_of (i := (553, 2, .iload 4, (0, 0, 0), 0)) (by decide +kernel)) rfl ?_
  refine am_e_iconst (w := 1) (am_nxt_of (i := (555, 1, .iconst 1, (0, 0, 0), 0)) (by decide +kernel)) rfl ?_
  refine am_e_iadd (w := i + 1) (am_nxt_of (i := (556, 1, .iadd, (0, 0, 0), 0)) (by decide +kernel)) rfl ?_
  refine am_e_sald (q := 6 * j + 1) (am_nxt_of (i := (557, 1, .iaload, (0, 0, 0), 0)) (by decide +kernel)) rfl (ag_i (n := 1) hi_z (by decide) (by omega) hL).1 (ag_i (n := 1) hi_z (by decide) (by omega) hL).2 ?_
  refine am_e_callV (M' := am_m211) (o := 164) (ar := [.int (xs (6 * j + 1))]) (rest := []) (L := lv_args 0 [.ref 164, .int (xs (6 * j + 1))]) (am_nxt_of (i := (558, 3, .invokevirtual 66, (211, 1875, 3), 0)) (by decide +kernel)) rfl rfl rfl rfl ac_o (ag_okC rfl (by decide) (by omega) (by omega)) rfl rfl ?_
  refine am_Ev_mono (ag_m_patch hG1 hD1) (fun r ks h2_z hq_z => ?_)
  obtain ⟨⟨rfl, hG2, ⟨xh2_z, rfl⟩, Fh2⟩, nh2_z, rnh2⟩ := hq_z
  have hD2 := rn_D rnh2
  show am_Ek false (am_P1 (some (L, xs)) lk) am_m254 292 [(4, .int i), (3, .ref 202), (2, .ref 164), (1, .ref 0), (0, .retAddr 0)] [.int xh2_z] am_ks0 _ nc ns Q
  refine am_e_pop (am_nxt_of (i := (561, 1, .pop, (0, 0, 0), 0)) (by decide +kernel)) rfl ?_
  refine am_e_goto (am_cur_of (i := (562, 3, .goto 750, (823, 0, 0), 0)) (by decide +kernel)) (am_tgt_of (by decide +kernel)) ?_
  exact K _ h2_z _ _ (by omega) (by omega) hG2 hD2 (X _ _ _ _ _ _ _ _ _ hR hG hG1 hG2 Fh1 Fh2 rnh1 rnh2)
theorem ag_case10 (hG : ag_G t h) (hD : rg_Gd h) (hR : Rel h) (hi_z : i.toInt = (6 * j : Nat)) (hb_z : 6 * j + 6 ≤ L) (hL : L ≤ 3072) (hc_z : nc ≤ 9000) (hs_z : ns ≤ 90000) (K : ag_K1 Rel lk L nc ns xs i Q) (X : ax_leak Rel) : am_Ek false (am_P1 (some (L, xs)) lk) am_m254 294 [(4, .int i), (3, .ref 202), (2, .ref 164), (1, .ref 0), (0, .retAddr 0)] [] am_ks0 h nc ns Q := by
  refine am_e_aload_n (am_nxt_of (i := (565, 1, .aload_n 1, (0, 0, 0), 0)) (by decide +kernel)) rfl ?_
  refine am_e_callV (M' := am_m86) (o := 0) (ar := []) (rest := []) (L := lv_args 0 [.ref 0]) (am_nxt_of (i := (566, 3, .invokevirtual 67, (86, 1017, 3), 0)) (by decide +kernel)) rfl rfl rfl rfl ac_o0 (ag_okC rfl (by decide) (by omega) (by omega)) rfl rfl ?_
  refine am_Ev_mono (ag_c_leak hG hD) (fun r ks h1_z hq_z => ?_)
  obtain ⟨⟨rfl, hG1, ⟨xh1_z, rfl⟩, Fh1⟩, nh1_z, rnh1⟩ := hq_z
  have hD1 := rn_D rnh1
  show am_Ek false (am_P1 (some (L, xs)) lk) am_m254 296 [(4, .int i), (3, .ref 202), (2, .ref 164), (1, .ref 0), (0, .retAddr 0)] [.int xh1_z] am_ks0 _ nc ns Q
  refine am_e_pop (am_nxt_of (i := (569, 1, .pop, (0, 0, 0), 0)) (by decide +kernel)) rfl ?_
  refine am_e_aload_n (am_nxt_of (i := (570, 1, .aload_n 2, (0, 0, 0), 0)) (by decide +kernel)) rfl ?_
  refine am_e_callV (M' := am_m212) (o := 164) (ar := []) (rest := []) (L := lv_args 0 [.ref 164]) (am_nxt_of (i := (571, 3, .invokevirtual 71, (212, 1879, 3), 0)) (by decide +kernel)) rfl rfl rfl rfl ac_o (ag_okC rfl (by decide) (by omega) (by omega)) rfl rfl ?_
  refine am_Ev_mono (ag_m_leak hG1 hD1) (fun r ks h2_z hq_z => ?_)
  obtain ⟨⟨rfl, hG2, ⟨xh2_z, rfl⟩, Fh2⟩, nh2_z, rnh2⟩ := hq_z
  have hD2 := rn_D rnh2
  show am_Ek false (am_P1 (some (L, xs)) lk) am_m254 299 [(4, .int i), (3, .ref 202), (2, .ref 164), (1, .ref 0), (0, .retAddr 0)] [.int xh2_z] am_ks0 _ nc ns Q
  refine am_e_pop (am_nxt_of (i := (574, 1, .pop, (0, 0, 0), 0)) (by decide +kernel)) rfl ?_
  refine am_e_goto (am_cur_of (i := (575, 3, .goto 737, (823, 0, 0), 0)) (by decide +kernel)) (am_tgt_of (by decide +kernel)) ?_
  exact K _ h2_z _ _ (by omega) (by omega) hG2 hD2 (X _ _ _ _ _ _ _ _ hR hG hG1 hG2 Fh1 Fh2 rnh1 rnh2)
theorem ag_case11 (hG : ag_G t h) (hD : rg_Gd h) (hR : Rel h) (hi_z : i.toInt = (6 * j : Nat)) (hb_z : 6 * j + 6 ≤ L) (hL : L ≤ 3072) (hc_z : nc ≤ 9000) (hs_z : ns ≤ 90000) (K : ag_K1 Rel lk L nc ns xs i Q) (X : ax_ever Rel) : am_Ek false (am_P1 (some (L, xs)) lk) am_m254 301 [(4, .int i), (3, .ref 202), (2, .ref 164), (1, .ref 0), (0, .retAddr 0)] [] am_ks0 h nc ns Q := by
  refine am_e_aload_n (am_nxt_of (i := (578, 1, .aload_n 1, (0, 0, 0), 0)) (by decide +kernel)) rfl ?_
  refine am_e_sload_n (am_nxt_of (i := (579, 1, .aload_n 0, (0, 0, 0), 0)) (by decide +kernel)) rfl ?_
  refine am_e_iload (am_nxt_of (i := (580, 2, .iload 4, (0, 0, 0), 0)) (by decide +kernel)) rfl ?_
  refine am_e_iconst (w := 1) (am_nxt_of (i := (582, 1, .iconst 1, (0, 0, 0), 0)) (by decide +kernel)) rfl ?_
  refine am_e_iadd (w := i + 1) (am_nxt_of (i := (583, 1, .iadd, (0, 0, 0), 0)) (by decide +kernel)) rfl ?_
  refine am_e_sald (q := 6 * j + 1) (am_nxt_of (i := (584, 1, .iaload, (0, 0, 0), 0)) (by decide +kernel)) rfl (ag_i (n := 1) hi_z (by decide) (by omega) hL).1 (ag_i (n := 1) hi_z (by decide) (by omega) hL).2 ?_
  refine am_e_callV (M' := am_m87) (o := 0) (ar := [.int (xs (6 * j + 1))]) (rest := []) (L := lv_args 0 [.ref 0, .int (xs (6 * j + 1))]) (am_nxt_of (i := (585, 3, .invokevirtual 72, (87, 1021, 3), 0)) (by decide +kernel)) rfl rfl rfl rfl ac_o0 (ag_okC rfl (by decide) (by omega) (by omega)) rfl rfl ?_
  refine am_Ev_mono (ag_c_ever hG hD) (fun r ks h1_z hq_z => ?_)
  obtain ⟨⟨rfl, hG1, ⟨xh1_z, rfl⟩, Fh1⟩, nh1_z, rnh1⟩ := hq_z
  have hD1 := rn_D rnh1
  show am_Ek false (am_P1 (some (L, xs)) lk) am_m254 308 [(4, .int i), (3, .ref 202), (2, .ref 164), (1, .ref 0), (0, .retAddr 0)] [.int xh1_z] am_ks0 _ nc ns Q
  refine am_e_pop (am_nxt_of (i := (588, 1, .pop, (0, 0, 0), 0)) (by decide +kernel)) rfl ?_
  refine am_e_aload_n (am_nxt_of (i := (589, 1, .aload_n 2, (0, 0, 0), 0)) (by decide +kernel)) rfl ?_
  refine am_e_sload_n (am_nxt_of (i := (590, 1, .aload_n 0, (0, 0, 0), 0)) (by decide +kernel)) rfl ?_
  refine am_e_iload (am_nxt_of (i := (591, 2, .iload 4, (0, 0, 0), 0)) (by decide +kernel)) rfl ?_
  refine am_e_iconst (w := 1) (am_nxt_of (i := (593, 1, .iconst 1, (0, 0, 0), 0)) (by decide +kernel)) rfl ?_
  refine am_e_iadd (w := i + 1) (am_nxt_of (i := (594, 1, .iadd, (0, 0, 0), 0)) (by decide +kernel)) rfl ?_
  refine am_e_sald (q := 6 * j + 1) (am_nxt_of (i := (595, 1, .iaload, (0, 0, 0), 0)) (by decide +kernel)) rfl (ag_i (n := 1) hi_z (by decide) (by omega) hL).1 (ag_i (n := 1) hi_z (by decide) (by omega) hL).2 ?_
  refine am_e_callV (M' := am_m213) (o := 164) (ar := [.int (xs (6 * j + 1))]) (rest := []) (L := lv_args 0 [.ref 164, .int (xs (6 * j + 1))]) (am_nxt_of (i := (596, 3, .invokevirtual 75, (213, 1883, 3), 0)) (by decide +kernel)) rfl rfl rfl rfl ac_o (ag_okC rfl (by decide) (by omega) (by omega)) rfl rfl ?_
  refine am_Ev_mono (ag_m_ever hG1 hD1) (fun r ks h2_z hq_z => ?_)
  obtain ⟨⟨rfl, hG2, ⟨xh2_z, rfl⟩, Fh2⟩, nh2_z, rnh2⟩ := hq_z
  have hD2 := rn_D rnh2
  show am_Ek false (am_P1 (some (L, xs)) lk) am_m254 316 [(4, .int i), (3, .ref 202), (2, .ref 164), (1, .ref 0), (0, .retAddr 0)] [.int xh2_z] am_ks0 _ nc ns Q
  refine am_e_pop (am_nxt_of (i := (599, 1, .pop, (0, 0, 0), 0)) (by decide +kernel)) rfl ?_
  refine am_e_goto (am_cur_of (i := (600, 3, .goto 712, (823, 0, 0), 0)) (by decide +kernel)) (am_tgt_of (by decide +kernel)) ?_
  exact K _ h2_z _ _ (by omega) (by omega) hG2 hD2 (X _ _ _ _ _ _ _ _ _ hR hG hG1 hG2 Fh1 Fh2 rnh1 rnh2)
theorem ag_case12 (hG : ag_G t h) (hD : rg_Gd h) (hR : Rel h) (hi_z : i.toInt = (6 * j : Nat)) (hb_z : 6 * j + 6 ≤ L) (hL : L ≤ 3072) (hc_z : nc ≤ 9000) (hs_z : ns ≤ 90000) (K : ag_K1 Rel lk L nc ns xs i Q) (X : ax_best Rel) : am_Ek false (am_P1 (some (L, xs)) lk) am_m254 318 [(4, .int i), (3, .ref 202), (2, .ref 164), (1, .ref 0), (0, .retAddr 0)] [] am_ks0 h nc ns Q := by
  refine am_e_aload_n (am_nxt_of (i := (603, 1, .aload_n 1, (0, 0, 0), 0)) (by decide +kernel)) rfl ?_
  refine am_e_sload_n (am_nxt_of (i := (604, 1, .aload_n 0, (0, 0, 0), 0)) (by decide +kernel)) rfl ?_
  refine am_e_iload (am_nxt_of (i := (605, 2, .iload 4, (0, 0, 0), 0)) (by decide +kernel)) rfl ?_
  refine am_e_iconst (w := 1) (am_nxt_of (i := (607, 1, .iconst 1, (0, 0, 0), 0)) (by decide +kernel)) rfl ?_
  refine am_e_iadd (w := i + 1) (am_nxt_of (i := (608, 1, .iadd, (0, 0, 0), 0)) (by decide +kernel)) rfl ?_
  refine am_e_sald (q := 6 * j + 1) (am_nxt_of (i := (609, 1, .iaload, (0, 0, 0), 0)) (by decide +kernel)) rfl (ag_i (n := 1) hi_z (by decide) (by omega) hL).1 (ag_i (n := 1) hi_z (by decide) (by omega) hL).2 ?_
  refine am_e_sload_n (am_nxt_of (i := (610, 1, .aload_n 0, (0, 0, 0), 0)) (by decide +kernel)) rfl ?_
  refine am_e_iload (am_nxt_of (i := (611, 2, .iload 4, (0, 0, 0), 0)) (by decide +kernel)) rfl ?_
  refine am_e_iconst (w := 2) (am_nxt_of (i := (613, 1, .iconst 2, (0, 0, 0), 0)) (by decide +kernel)) rfl ?_
  refine am_e_iadd (w := i + 2) (am_nxt_of (i := (614, 1, .iadd, (0, 0, 0), 0)) (by decide +kernel)) rfl ?_
  refine am_e_sald (q := 6 * j + 2) (am_nxt_of (i := (615, 1, .iaload, (0, 0, 0), 0)) (by decide +kernel)) rfl (ag_i (n := 2) hi_z (by decide) (by omega) hL).1 (ag_i (n := 2) hi_z (by decide) (by omega) hL).2 ?_
  refine am_e_callV (M' := am_m100) (o := 0) (ar := [.int (xs (6 * j + 2)), .int (xs (6 * j + 1))]) (rest := []) (L := lv_args 0 [.ref 0, .int (xs (6 * j + 1)), .int (xs (6 * j + 2))]) (am_nxt_of (i := (616, 3, .invokevirtual 76, (100, 1080, 3), 0)) (by decide +kernel)) rfl rfl rfl rfl ac_o0 (ag_okC rfl (by decide) (by omega) (by omega)) rfl rfl ?_
  refine am_Ev_mono (ag_c_best hG hD) (fun r ks h1_z hq_z => ?_)
  obtain ⟨⟨rfl, hG1, ⟨xh1_z, rfl⟩, Fh1⟩, nh1_z, rnh1⟩ := hq_z
  have hD1 := rn_D rnh1
  show am_Ek false (am_P1 (some (L, xs)) lk) am_m254 330 [(4, .int i), (3, .ref 202), (2, .ref 164), (1, .ref 0), (0, .retAddr 0)] [.int xh1_z] am_ks0 _ nc ns Q
  refine am_e_pop (am_nxt_of (i := (619, 1, .pop, (0, 0, 0), 0)) (by decide +kernel)) rfl ?_
  refine am_e_aload_n (am_nxt_of (i := (620, 1, .aload_n 2, (0, 0, 0), 0)) (by decide +kernel)) rfl ?_
  refine am_e_sload_n (am_nxt_of (i := (621, 1, .aload_n 0, (0, 0, 0), 0)) (by decide +kernel)) rfl ?_
  refine am_e_iload (am_nxt_of (i := (622, 2, .iload 4, (0, 0, 0), 0)) (by decide +kernel)) rfl ?_
  refine am_e_iconst (w := 1) (am_nxt_of (i := (624, 1, .iconst 1, (0, 0, 0), 0)) (by decide +kernel)) rfl ?_
  refine am_e_iadd (w := i + 1) (am_nxt_of (i := (625, 1, .iadd, (0, 0, 0), 0)) (by decide +kernel)) rfl ?_
  refine am_e_sald (q := 6 * j + 1) (am_nxt_of (i := (626, 1, .iaload, (0, 0, 0), 0)) (by decide +kernel)) rfl (ag_i (n := 1) hi_z (by decide) (by omega) hL).1 (ag_i (n := 1) hi_z (by decide) (by omega) hL).2 ?_
  refine am_e_sload_n (am_nxt_of (i := (627, 1, .aload_n 0, (0, 0, 0), 0)) (by decide +kernel)) rfl ?_
  refine am_e_iload (am_nxt_of (i := (628, 2, .iload 4, (0, 0, 0), 0)) (by decide +kernel)) rfl ?_
  refine am_e_iconst (w := 2) (am_nxt_of (i := (630, 1, .iconst 2, (0, 0, 0), 0)) (by decide +kernel)) rfl ?_
  refine am_e_iadd (w := i + 2) (am_nxt_of (i := (631, 1, .iadd, (0, 0, 0), 0)) (by decide +kernel)) rfl ?_
  refine am_e_sald (q := 6 * j + 2) (am_nxt_of (i := (632, 1, .iaload, (0, 0, 0), 0)) (by decide +kernel)) rfl (ag_i (n := 2) hi_z (by decide) (by omega) hL).1 (ag_i (n := 2) hi_z (by decide) (by omega) hL).2 ?_
  refine am_e_callV (M' := am_m217) (o := 164) (ar := [.int (xs (6 * j + 2)), .int (xs (6 * j + 1))]) (rest := []) (L := lv_args 0 [.ref 164, .int (xs (6 * j + 1)), .int (xs (6 * j + 2))]) (am_nxt_of (i := (633, 3, .invokevirtual 79, (217, 1899, 3), 0)) (by decide +kernel)) rfl rfl rfl rfl ac_o (ag_okC rfl (by decide) (by omega) (by omega)) rfl rfl ?_
  refine am_Ev_mono (ag_m_best hG1 hD1) (fun r ks h2_z hq_z => ?_)
  obtain ⟨⟨rfl, hG2, ⟨xh2_z, rfl⟩, Fh2⟩, nh2_z, rnh2⟩ := hq_z
  have hD2 := rn_D rnh2
  show am_Ek false (am_P1 (some (L, xs)) lk) am_m254 343 [(4, .int i), (3, .ref 202), (2, .ref 164), (1, .ref 0), (0, .retAddr 0)] [.int xh2_z] am_ks0 _ nc ns Q
  refine am_e_pop (am_nxt_of (i := (636, 1, .pop, (0, 0, 0), 0)) (by decide +kernel)) rfl ?_
  refine am_e_goto (am_cur_of (i := (637, 3, .goto 675, (823, 0, 0), 0)) (by decide +kernel)) (am_tgt_of (by decide +kernel)) ?_
  exact K _ h2_z _ _ (by omega) (by omega) hG2 hD2 (X _ _ _ _ _ _ _ _ _ _ hR hG hG1 hG2 Fh1 Fh2 rnh1 rnh2)
theorem ag_case13 (hG : ag_G t h) (hD : rg_Gd h) (hR : Rel h) (hi_z : i.toInt = (6 * j : Nat)) (hb_z : 6 * j + 6 ≤ L) (hL : L ≤ 3072) (hc_z : nc ≤ 9000) (hs_z : ns ≤ 90000) (K : ag_K1 Rel lk L nc ns xs i Q) (X : ax_lasts Rel) : am_Ek false (am_P1 (some (L, xs)) lk) am_m254 345 [(4, .int i), (3, .ref 202), (2, .ref 164), (1, .ref 0), (0, .retAddr 0)] [] am_ks0 h nc ns Q := by
  refine am_e_aload_n (am_nxt_of (i := (640, 1, .aload_n 1, (0, 0, 0), 0)) (by decide +kernel)) rfl ?_
  refine am_e_sload_n (am_nxt_of (i := (641, 1, .aload_n 0, (0, 0, 0), 0)) (by decide +kernel)) rfl ?_
  refine am_e_iload (am_nxt_of (i := (642, 2, .iload 4, (0, 0, 0), 0)) (by decide +kernel)) rfl ?_
  refine am_e_iconst (w := 1) (am_nxt_of (i := (644, 1, .iconst 1, (0, 0, 0), 0)) (by decide +kernel)) rfl ?_
  refine am_e_iadd (w := i + 1) (am_nxt_of (i := (645, 1, .iadd, (0, 0, 0), 0)) (by decide +kernel)) rfl ?_
  refine am_e_sald (q := 6 * j + 1) (am_nxt_of (i := (646, 1, .iaload, (0, 0, 0), 0)) (by decide +kernel)) rfl (ag_i (n := 1) hi_z (by decide) (by omega) hL).1 (ag_i (n := 1) hi_z (by decide) (by omega) hL).2 ?_
  refine am_e_sload_n (am_nxt_of (i := (647, 1, .aload_n 0, (0, 0, 0), 0)) (by decide +kernel)) rfl ?_
  refine am_e_iload (am_nxt_of (i := (648, 2, .iload 4, (0, 0, 0), 0)) (by decide +kernel)) rfl ?_
  refine am_e_iconst (w := 2) (am_nxt_of (i := (650, 1, .iconst 2, (0, 0, 0), 0)) (by decide +kernel)) rfl ?_
  refine am_e_iadd (w := i + 2) (am_nxt_of (i := (651, 1, .iadd, (0, 0, 0), 0)) (by decide +kernel)) rfl ?_
  refine am_e_sald (q := 6 * j + 2) (am_nxt_of (i := (652, 1, .iaload, (0, 0, 0), 0)) (by decide +kernel)) rfl (ag_i (n := 2) hi_z (by decide) (by omega) hL).1 (ag_i (n := 2) hi_z (by decide) (by omega) hL).2 ?_
  refine am_e_callV (M' := am_m104) (o := 0) (ar := [.int (xs (6 * j + 2)), .int (xs (6 * j + 1))]) (rest := []) (L := lv_args 0 [.ref 0, .int (xs (6 * j + 1)), .int (xs (6 * j + 2))]) (am_nxt_of (i := (653, 3, .invokevirtual 80, (104, 1100, 3), 0)) (by decide +kernel)) rfl rfl rfl rfl ac_o0 (ag_okC rfl (by decide) (by omega) (by omega)) rfl rfl ?_
  refine am_Ev_mono (ag_c_lasts hG hD) (fun r ks h1_z hq_z => ?_)
  obtain ⟨⟨rfl, hG1, ⟨xh1_z, rfl⟩, Fh1⟩, nh1_z, rnh1⟩ := hq_z
  have hD1 := rn_D rnh1
  show am_Ek false (am_P1 (some (L, xs)) lk) am_m254 357 [(4, .int i), (3, .ref 202), (2, .ref 164), (1, .ref 0), (0, .retAddr 0)] [.int xh1_z] am_ks0 _ nc ns Q
  refine am_e_pop (am_nxt_of (i := (656, 1, .pop, (0, 0, 0), 0)) (by decide +kernel)) rfl ?_
  refine am_e_aload_n (am_nxt_of (i := (657, 1, .aload_n 2, (0, 0, 0), 0)) (by decide +kernel)) rfl ?_
  refine am_e_sload_n (am_nxt_of (i := (658, 1, .aload_n 0, (0, 0, 0), 0)) (by decide +kernel)) rfl ?_
  refine am_e_iload (am_nxt_of (i := (659, 2, .iload 4, (0, 0, 0), 0)) (by decide +kernel)) rfl ?_
  refine am_e_iconst (w := 1) (am_nxt_of (i := (661, 1, .iconst 1, (0, 0, 0), 0)) (by decide +kernel)) rfl ?_
  refine am_e_iadd (w := i + 1) (am_nxt_of (i := (662, 1, .iadd, (0, 0, 0), 0)) (by decide +kernel)) rfl ?_
  refine am_e_sald (q := 6 * j + 1) (am_nxt_of (i := (663, 1, .iaload, (0, 0, 0), 0)) (by decide +kernel)) rfl (ag_i (n := 1) hi_z (by decide) (by omega) hL).1 (ag_i (n := 1) hi_z (by decide) (by omega) hL).2 ?_
  refine am_e_sload_n (am_nxt_of (i := (664, 1, .aload_n 0, (0, 0, 0), 0)) (by decide +kernel)) rfl ?_
  refine am_e_iload (am_nxt_of (i := (665, 2, .iload 4, (0, 0, 0), 0)) (by decide +kernel)) rfl ?_
  refine am_e_iconst (w := 2) (am_nxt_of (i := (667, 1, .iconst 2, (0, 0, 0), 0)) (by decide +kernel)) rfl ?_
  refine am_e_iadd (w := i + 2) (am_nxt_of (i := (668, 1, .iadd, (0, 0, 0), 0)) (by decide +kernel)) rfl ?_
  refine am_e_sald (q := 6 * j + 2) (am_nxt_of (i := (669, 1, .iaload, (0, 0, 0), 0)) (by decide +kernel)) rfl (ag_i (n := 2) hi_z (by decide) (by omega) hL).1 (ag_i (n := 2) hi_z (by decide) (by omega) hL).2 ?_
  refine am_e_callV (M' := am_m223) (o := 164) (ar := [.int (xs (6 * j + 2)), .int (xs (6 * j + 1))]) (rest := []) (L := lv_args 0 [.ref 164, .int (xs (6 * j + 1)), .int (xs (6 * j + 2))]) (am_nxt_of (i := (670, 3, .invokevirtual 83, (223, 1923, 3), 0)) (by decide +kernel)) rfl rfl rfl rfl ac_o (ag_okC rfl (by decide) (by omega) (by omega)) rfl rfl ?_
  refine am_Ev_mono (ag_m_lasts hG1 hD1) (fun r ks h2_z hq_z => ?_)
  obtain ⟨⟨rfl, hG2, ⟨xh2_z, rfl⟩, Fh2⟩, nh2_z, rnh2⟩ := hq_z
  have hD2 := rn_D rnh2
  show am_Ek false (am_P1 (some (L, xs)) lk) am_m254 370 [(4, .int i), (3, .ref 202), (2, .ref 164), (1, .ref 0), (0, .retAddr 0)] [.int xh2_z] am_ks0 _ nc ns Q
  refine am_e_pop (am_nxt_of (i := (673, 1, .pop, (0, 0, 0), 0)) (by decide +kernel)) rfl ?_
  refine am_e_goto (am_cur_of (i := (674, 3, .goto 638, (823, 0, 0), 0)) (by decide +kernel)) (am_tgt_of (by decide +kernel)) ?_
  exact K _ h2_z _ _ (by omega) (by omega) hG2 hD2 (X _ _ _ _ _ _ _ _ _ _ hR hG hG1 hG2 Fh1 Fh2 rnh1 rnh2)
theorem ag_case14 (hG : ag_G t h) (hD : rg_Gd h) (hR : Rel h) (hi_z : i.toInt = (6 * j : Nat)) (hb_z : 6 * j + 6 ≤ L) (hL : L ≤ 3072) (hc_z : nc ≤ 9000) (hs_z : ns ≤ 90000) (K : ag_K1 Rel lk L nc ns xs i Q) (X : ax_firm Rel) : am_Ek false (am_P1 (some (L, xs)) lk) am_m254 372 [(4, .int i), (3, .ref 202), (2, .ref 164), (1, .ref 0), (0, .retAddr 0)] [] am_ks0 h nc ns Q := by
  refine am_e_aload_n (am_nxt_of (i := (677, 1, .aload_n 1, (0, 0, 0), 0)) (by decide +kernel)) rfl ?_
  refine am_e_sload_n (am_nxt_of (i := (678, 1, .aload_n 0, (0, 0, 0), 0)) (by decide +kernel)) rfl ?_
  refine am_e_iload (am_nxt_of (i := (679, 2, .iload 4, (0, 0, 0), 0)) (by decide +kernel)) rfl ?_
  refine am_e_iconst (w := 1) (am_nxt_of (i := (681, 1, .iconst 1, (0, 0, 0), 0)) (by decide +kernel)) rfl ?_
  refine am_e_iadd (w := i + 1) (am_nxt_of (i := (682, 1, .iadd, (0, 0, 0), 0)) (by decide +kernel)) rfl ?_
  refine am_e_sald (q := 6 * j + 1) (am_nxt_of (i := (683, 1, .iaload, (0, 0, 0), 0)) (by decide +kernel)) rfl (ag_i (n := 1) hi_z (by decide) (by omega) hL).1 (ag_i (n := 1) hi_z (by decide) (by omega) hL).2 ?_
  refine am_e_sload_n (am_nxt_of (i := (684, 1, .aload_n 0, (0, 0, 0), 0)) (by decide +kernel)) rfl ?_
  refine am_e_iload (am_nxt_of (i := (685, 2, .iload 4, (0, 0, 0), 0)) (by decide +kernel)) rfl ?_
  refine am_e_iconst (w := 2) (am_nxt_of (i := (687, 1, .iconst 2, (0, 0, 0), 0)) (by decide +kernel)) rfl ?_
  refine am_e_iadd (w := i + 2) (am_nxt_of (i := (688, 1, .iadd, (0, 0, 0), 0)) (by decide +kernel)) rfl ?_
  refine am_e_sald (q := 6 * j + 2) (am_nxt_of (i := (689, 1, .iaload, (0, 0, 0), 0)) (by decide +kernel)) rfl (ag_i (n := 2) hi_z (by decide) (by omega) hL).1 (ag_i (n := 2) hi_z (by decide) (by omega) hL).2 ?_
  refine am_e_callV (M' := am_m106) (o := 0) (ar := [.int (xs (6 * j + 2)), .int (xs (6 * j + 1))]) (rest := []) (L := lv_args 0 [.ref 0, .int (xs (6 * j + 1)), .int (xs (6 * j + 2))]) (am_nxt_of (i := (690, 3, .invokevirtual 84, (106, 1108, 3), 0)) (by decide +kernel)) rfl rfl rfl rfl ac_o0 (ag_okC rfl (by decide) (by omega) (by omega)) rfl rfl ?_
  refine am_Ev_mono (ag_c_firm hG hD) (fun r ks h1_z hq_z => ?_)
  obtain ⟨⟨rfl, hG1, ⟨xh1_z, rfl⟩, Fh1⟩, nh1_z, rnh1⟩ := hq_z
  have hD1 := rn_D rnh1
  show am_Ek false (am_P1 (some (L, xs)) lk) am_m254 384 [(4, .int i), (3, .ref 202), (2, .ref 164), (1, .ref 0), (0, .retAddr 0)] [.int xh1_z] am_ks0 _ nc ns Q
  refine am_e_pop (am_nxt_of (i := (693, 1, .pop, (0, 0, 0), 0)) (by decide +kernel)) rfl ?_
  refine am_e_aload_n (am_nxt_of (i := (694, 1, .aload_n 2, (0, 0, 0), 0)) (by decide +kernel)) rfl ?_
  refine am_e_sload_n (am_nxt_of (i := (695, 1, .aload_n 0, (0, 0, 0), 0)) (by decide +kernel)) rfl ?_
  refine am_e_iload (am_nxt_of (i := (696, 2, .iload 4, (0, 0, 0), 0)) (by decide +kernel)) rfl ?_
  refine am_e_iconst (w := 1) (am_nxt_of (i := (698, 1, .iconst 1, (0, 0, 0), 0)) (by decide +kernel)) rfl ?_
  refine am_e_iadd (w := i + 1) (am_nxt_of (i := (699, 1, .iadd, (0, 0, 0), 0)) (by decide +kernel)) rfl ?_
  refine am_e_sald (q := 6 * j + 1) (am_nxt_of (i := (700, 1, .iaload, (0, 0, 0), 0)) (by decide +kernel)) rfl (ag_i (n := 1) hi_z (by decide) (by omega) hL).1 (ag_i (n := 1) hi_z (by decide) (by omega) hL).2 ?_
  refine am_e_sload_n (am_nxt_of (i := (701, 1, .aload_n 0, (0, 0, 0), 0)) (by decide +kernel)) rfl ?_
  refine am_e_iload (am_nxt_of (i := (702, 2, .iload 4, (0, 0, 0), 0)) (by decide +kernel)) rfl ?_
  refine am_e_iconst (w := 2) (am_nxt_of (i := (704, 1, .iconst 2, (0, 0, 0), 0)) (by decide +kernel)) rfl ?_
  refine am_e_iadd (w := i + 2) (am_nxt_of (i := (705, 1, .iadd, (0, 0, 0), 0)) (by decide +kernel)) rfl ?_
  refine am_e_sald (q := 6 * j + 2) (am_nxt_of (i := (706, 1, .iaload, (0, 0, 0), 0)) (by decide +kernel)) rfl (ag_i (n := 2) hi_z (by decide) (by omega) hL).1 (ag_i (n := 2) hi_z (by decide) (by omega) hL).2 ?_
  refine am_e_callV (M' := am_m225) (o := 164) (ar := [.int (xs (6 * j + 2)), .int (xs (6 * j + 1))]) (rest := []) (L := lv_args 0 [.ref 164, .int (xs (6 * j + 1)), .int (xs (6 * j + 2))]) (am_nxt_of (i := (707, 3, .invokevirtual 87, (225, 1931, 3), 0)) (by decide +kernel)) rfl rfl rfl rfl ac_o (ag_okC rfl (by decide) (by omega) (by omega)) rfl rfl ?_
  refine am_Ev_mono (ag_m_firm hG1 hD1) (fun r ks h2_z hq_z => ?_)
  obtain ⟨⟨rfl, hG2, ⟨xh2_z, rfl⟩, Fh2⟩, nh2_z, rnh2⟩ := hq_z
  have hD2 := rn_D rnh2
  show am_Ek false (am_P1 (some (L, xs)) lk) am_m254 397 [(4, .int i), (3, .ref 202), (2, .ref 164), (1, .ref 0), (0, .retAddr 0)] [.int xh2_z] am_ks0 _ nc ns Q
  refine am_e_pop (am_nxt_of (i := (710, 1, .pop, (0, 0, 0), 0)) (by decide +kernel)) rfl ?_
  refine am_e_goto (am_cur_of (i := (711, 3, .goto 601, (823, 0, 0), 0)) (by decide +kernel)) (am_tgt_of (by decide +kernel)) ?_
  exact K _ h2_z _ _ (by omega) (by omega) hG2 hD2 (X _ _ _ _ _ _ _ _ _ _ hR hG hG1 hG2 Fh1 Fh2 rnh1 rnh2)
theorem ag_case15 (hG : ag_G t h) (hD : rg_Gd h) (hR : Rel h) (hi_z : i.toInt = (6 * j : Nat)) (hb_z : 6 * j + 6 ≤ L) (hL : L ≤ 3072) (hc_z : nc ≤ 9000) (hs_z : ns ≤ 90000) (K : ag_K1 Rel lk L nc ns xs i Q) (X : ax_up Rel) : am_Ek false (am_P1 (some (L, xs)) lk) am_m254 399 [(4, .int i), (3, .ref 202), (2, .ref 164), (1, .ref 0), (0, .retAddr 0)] [] am_ks0 h nc ns Q := by
  refine am_e_aload_n (am_nxt_of (i := (714, 1, .aload_n 1, (0, 0, 0), 0)) (by decide +kernel)) rfl ?_
  refine am_e_sload_n (am_nxt_of (i := (715, 1, .aload_n 0, (0, 0, 0), 0)) (by decide +kernel)) rfl ?_
  refine am_e_iload (am_nxt_of (i := (716, 2, .iload 4, (0, 0, 0), 0)) (by decide +kernel)) rfl ?_
  refine am_e_iconst (w := 1) (am_nxt_of (i := (718, 1, .iconst 1, (0, 0, 0), 0)) (by decide +kernel)) rfl ?_
  refine am_e_iadd (w := i + 1) (am_nxt_of (i := (719, 1, .iadd, (0, 0, 0), 0)) (by decide +kernel)) rfl ?_
  refine am_e_sald (q := 6 * j + 1) (am_nxt_of (i := (720, 1, .iaload, (0, 0, 0), 0)) (by decide +kernel)) rfl (ag_i (n := 1) hi_z (by decide) (by omega) hL).1 (ag_i (n := 1) hi_z (by decide) (by omega) hL).2 ?_
  refine am_e_sload_n (am_nxt_of (i := (721, 1, .aload_n 0, (0, 0, 0), 0)) (by decide +kernel)) rfl ?_
  refine am_e_iload (am_nxt_of (i := (722, 2, .iload 4, (0, 0, 0), 0)) (by decide +kernel)) rfl ?_
  refine am_e_iconst (w := 2) (am_nxt_of (i := (724, 1, .iconst 2, (0, 0, 0), 0)) (by decide +kernel)) rfl ?_
  refine am_e_iadd (w := i + 2) (am_nxt_of (i := (725, 1, .iadd, (0, 0, 0), 0)) (by decide +kernel)) rfl ?_
  refine am_e_sald (q := 6 * j + 2) (am_nxt_of (i := (726, 1, .iaload, (0, 0, 0), 0)) (by decide +kernel)) rfl (ag_i (n := 2) hi_z (by decide) (by omega) hL).1 (ag_i (n := 2) hi_z (by decide) (by omega) hL).2 ?_
  refine am_e_sload_n (am_nxt_of (i := (727, 1, .aload_n 0, (0, 0, 0), 0)) (by decide +kernel)) rfl ?_
  refine am_e_iload (am_nxt_of (i := (728, 2, .iload 4, (0, 0, 0), 0)) (by decide +kernel)) rfl ?_
  refine am_e_iconst (w := 3) (am_nxt_of (i := (730, 1, .iconst 3, (0, 0, 0), 0)) (by decide +kernel)) rfl ?_
  refine am_e_iadd (w := i + 3) (am_nxt_of (i := (731, 1, .iadd, (0, 0, 0), 0)) (by decide +kernel)) rfl ?_
  refine am_e_sald (q := 6 * j + 3) (am_nxt_of (i := (732, 1, .iaload, (0, 0, 0), 0)) (by decide +kernel)) rfl (ag_i (n := 3) hi_z (by decide) (by omega) hL).1 (ag_i (n := 3) hi_z (by decide) (by omega) hL).2 ?_
  refine am_e_callV (M' := am_m107) (o := 0) (ar := [.int (xs (6 * j + 3)), .int (xs (6 * j + 2)), .int (xs (6 * j + 1))]) (rest := []) (L := lv_args 0 [.ref 0, .int (xs (6 * j + 1)), .int (xs (6 * j + 2)), .int (xs (6 * j + 3))]) (am_nxt_of (i := (733, 3, .invokevirtual 88, (107, 1112, 3), 0)) (by decide +kernel)) rfl rfl rfl rfl ac_o0 (ag_okC rfl (by decide) (by omega) (by omega)) rfl rfl ?_
  refine am_Ev_mono (ag_c_up hG hD) (fun r ks h1_z hq_z => ?_)
  obtain ⟨⟨rfl, hG1, ⟨xh1_z, rfl⟩, Fh1⟩, nh1_z, rnh1⟩ := hq_z
  have hD1 := rn_D rnh1
  show am_Ek false (am_P1 (some (L, xs)) lk) am_m254 416 [(4, .int i), (3, .ref 202), (2, .ref 164), (1, .ref 0), (0, .retAddr 0)] [.int xh1_z] am_ks0 _ nc ns Q
  refine am_e_pop (am_nxt_of (i := (736, 1, .pop, (0, 0, 0), 0)) (by decide +kernel)) rfl ?_
  refine am_e_aload_n (am_nxt_of (i := (737, 1, .aload_n 2, (0, 0, 0), 0)) (by decide +kernel)) rfl ?_
  refine am_e_sload_n (am_nxt_of (i := (738, 1, .aload_n 0, (0, 0, 0), 0)) (by decide +kernel)) rfl ?_
  refine am_e_iload (am_nxt_of (i := (739, 2, .iload 4, (0, 0, 0), 0)) (by decide +kernel)) rfl ?_
  refine am_e_iconst (w := 1) (am_nxt_of (i := (741, 1, .iconst 1, (0, 0, 0), 0)) (by decide +kernel)) rfl ?_
  refine am_e_iadd (w := i + 1) (am_nxt_of (i := (742, 1, .iadd, (0, 0, 0), 0)) (by decide +kernel)) rfl ?_
  refine am_e_sald (q := 6 * j + 1) (am_nxt_of (i := (743, 1, .iaload, (0, 0, 0), 0)) (by decide +kernel)) rfl (ag_i (n := 1) hi_z (by decide) (by omega) hL).1 (ag_i (n := 1) hi_z (by decide) (by omega) hL).2 ?_
  refine am_e_sload_n (am_nxt_of (i := (744, 1, .aload_n 0, (0, 0, 0), 0)) (by decide +kernel)) rfl ?_
  refine am_e_iload (am_nxt_of (i := (745, 2, .iload 4, (0, 0, 0), 0)) (by decide +kernel)) rfl ?_
  refine am_e_iconst (w := 2) (am_nxt_of (i := (747, 1, .iconst 2, (0, 0, 0), 0)) (by decide +kernel)) rfl ?_
  refine am_e_iadd (w := i + 2) (am_nxt_of (i := (748, 1, .iadd, (0, 0, 0), 0)) (by decide +kernel)) rfl ?_
  refine am_e_sald (q := 6 * j + 2) (am_nxt_of (i := (749, 1, .iaload, (0, 0, 0), 0)) (by decide +kernel)) rfl (ag_i (n := 2) hi_z (by decide) (by omega) hL).1 (ag_i (n := 2) hi_z (by decide) (by omega) hL).2 ?_
  refine am_e_sload_n (am_nxt_of (i := (750, 1, .aload_n 0, (0, 0, 0), 0)) (by decide +kernel)) rfl ?_
  refine am_e_iload (am_nxt_of (i := (751, 2, .iload 4, (0, 0, 0), 0)) (by decide +kernel)) rfl ?_
  refine am_e_iconst (w := 3) (am_nxt_of (i := (753, 1, .iconst 3, (0, 0, 0), 0)) (by decide +kernel)) rfl ?_
  refine am_e_iadd (w := i + 3) (am_nxt_of (i := (754, 1, .iadd, (0, 0, 0), 0)) (by decide +kernel)) rfl ?_
  refine am_e_sald (q := 6 * j + 3) (am_nxt_of (i := (755, 1, .iaload, (0, 0, 0), 0)) (by decide +kernel)) rfl (ag_i (n := 3) hi_z (by decide) (by omega) hL).1 (ag_i (n := 3) hi_z (by decide) (by omega) hL).2 ?_
  refine am_e_callV (M' := am_m226) (o := 164) (ar := [.int (xs (6 * j + 3)), .int (xs (6 * j + 2)), .int (xs (6 * j + 1))]) (rest := []) (L := lv_args 0 [.ref 164, .int (xs (6 * j + 1)), .int (xs (6 * j + 2)), .int (xs (6 * j + 3))]) (am_nxt_of (i := (756, 3, .invokevirtual 92, (226, 1935, 3), 0)) (by decide +kernel)) rfl rfl rfl rfl ac_o (ag_okC rfl (by decide) (by omega) (by omega)) rfl rfl ?_
  refine am_Ev_mono (ag_m_up hG1 hD1) (fun r ks h2_z hq_z => ?_)
  obtain ⟨⟨rfl, hG2, ⟨xh2_z, rfl⟩, Fh2⟩, nh2_z, rnh2⟩ := hq_z
  have hD2 := rn_D rnh2
  show am_Ek false (am_P1 (some (L, xs)) lk) am_m254 434 [(4, .int i), (3, .ref 202), (2, .ref 164), (1, .ref 0), (0, .retAddr 0)] [.int xh2_z] am_ks0 _ nc ns Q
  refine am_e_pop (am_nxt_of (i := (759, 1, .pop, (0, 0, 0), 0)) (by decide +kernel)) rfl ?_
  refine am_e_goto (am_cur_of (i := (760, 3, .goto 552, (823, 0, 0), 0)) (by decide +kernel)) (am_tgt_of (by decide +kernel)) ?_
  exact K _ h2_z _ _ (by omega) (by omega) hG2 hD2 (X _ _ _ _ _ _ _ _ _ _ _ hR hG hG1 hG2 Fh1 Fh2 rnh1 rnh2)
theorem ag_case16 (hG : ag_G t h) (hD : rg_Gd h) (hR : Rel h) (hi_z : i.toInt = (6 * j : Nat)) (hb_z : 6 * j + 6 ≤ L) (hL : L ≤ 3072) (hc_z : nc ≤ 9000) (hs_z : ns ≤ 90000) (K : ag_K1 Rel lk L nc ns xs i Q) (X : ax_upAt Rel) : am_Ek false (am_P1 (some (L, xs)) lk) am_m254 436 [(4, .int i), (3, .ref 202), (2, .ref 164), (1, .ref 0), (0, .retAddr 0)] [] am_ks0 h nc ns Q := by
  refine am_e_aload_n (am_nxt_of (i := (763, 1, .aload_n 1, (0, 0, 0), 0)) (by decide +kernel)) rfl ?_
  refine am_e_sload_n (am_nxt_of (i := (764, 1, .aload_n 0, (0, 0, 0), 0)) (by decide +kernel)) rfl ?_
  refine am_e_iload (am_nxt_of (i := (765, 2, .iload 4, (0, 0, 0), 0)) (by decide +kernel)) rfl ?_
  refine am_e_iconst (w := 1) (am_nxt_of (i := (767, 1, .iconst 1, (0, 0, 0), 0)) (by decide +kernel)) rfl ?_
  refine am_e_iadd (w := i + 1) (am_nxt_of (i := (768, 1, .iadd, (0, 0, 0), 0)) (by decide +kernel)) rfl ?_
  refine am_e_sald (q := 6 * j + 1) (am_nxt_of (i := (769, 1, .iaload, (0, 0, 0), 0)) (by decide +kernel)) rfl (ag_i (n := 1) hi_z (by decide) (by omega) hL).1 (ag_i (n := 1) hi_z (by decide) (by omega) hL).2 ?_
  refine am_e_sload_n (am_nxt_of (i := (770, 1, .aload_n 0, (0, 0, 0), 0)) (by decide +kernel)) rfl ?_
  refine am_e_iload (am_nxt_of (i := (771, 2, .iload 4, (0, 0, 0), 0)) (by decide +kernel)) rfl ?_
  refine am_e_iconst (w := 2) (am_nxt_of (i := (773, 1, .iconst 2, (0, 0, 0), 0)) (by decide +kernel)) rfl ?_
  refine am_e_iadd (w := i + 2) (am_nxt_of (i := (774, 1, .iadd, (0, 0, 0), 0)) (by decide +kernel)) rfl ?_
  refine am_e_sald (q := 6 * j + 2) (am_nxt_of (i := (775, 1, .iaload, (0, 0, 0), 0)) (by decide +kernel)) rfl (ag_i (n := 2) hi_z (by decide) (by omega) hL).1 (ag_i (n := 2) hi_z (by decide) (by omega) hL).2 ?_
  refine am_e_sload_n (am_nxt_of (i := (776, 1, .aload_n 0, (0, 0, 0), 0)) (by decide +kernel)) rfl ?_
  refine am_e_iload (am_nxt_of (i := (777, 2, .iload 4, (0, 0, 0), 0)) (by decide +kernel)) rfl ?_
  refine am_e_iconst (w := 3) (am_nxt_of (i := (779, 1, .iconst 3, (0, 0, 0), 0)) (by decide +kernel)) rfl ?_
  refine am_e_iadd (w := i + 3) (am_nxt_of (i := (780, 1, .iadd, (0, 0, 0), 0)) (by decide +kernel)) rfl ?_
  refine am_e_sald (q := 6 * j + 3) (am_nxt_of (i := (781, 1, .iaload, (0, 0, 0), 0)) (by decide +kernel)) rfl (ag_i (n := 3) hi_z (by decide) (by omega) hL).1 (ag_i (n := 3) hi_z (by decide) (by omega) hL).2 ?_
  refine am_e_sload_n (am_nxt_of (i := (782, 1, .aload_n 0, (0, 0, 0), 0)) (by decide +kernel)) rfl ?_
  refine am_e_iload (am_nxt_of (i := (783, 2, .iload 4, (0, 0, 0), 0)) (by decide +kernel)) rfl ?_
  refine am_e_iconst (w := 4) (am_nxt_of (i := (785, 1, .iconst 4, (0, 0, 0), 0)) (by decide +kernel)) rfl ?_
  refine am_e_iadd (w := i + 4) (am_nxt_of (i := (786, 1, .iadd, (0, 0, 0), 0)) (by decide +kernel)) rfl ?_
  refine am_e_sald (q := 6 * j + 4) (am_nxt_of (i := (787, 1, .iaload, (0, 0, 0), 0)) (by decide +kernel)) rfl (ag_i (n := 4) hi_z (by decide) (by omega) hL).1 (ag_i (n := 4) hi_z (by decide) (by omega) hL).2 ?_
  refine am_e_callV (M' := am_m112) (o := 0) (ar := [.int (xs (6 * j + 4)), .int (xs (6 * j + 3)), .int (xs (6 * j + 2)), .int (xs (6 * j + 1))]) (rest := []) (L := lv_args 0 [.ref 0, .int (xs (6 * j + 1)), .int (xs (6 * j + 2)), .int (xs (6 * j + 3)), .int (xs (6 * j + 4))]) (am_nxt_of (i := (788, 3, .invokevirtual 93, (112, 1131, 3), 0)) (by decide +kernel)) rfl rfl rfl rfl ac_o0 (ag_okC rfl (by decide) (by omega) (by omega)) rfl rfl ?_
  refine am_Ev_mono (ag_c_upAt hG hD) (fun r ks h1_z hq_z => ?_)
  obtain ⟨⟨rfl, hG1, ⟨xh1_z, rfl⟩, Fh1⟩, nh1_z, rnh1⟩ := hq_z
  have hD1 := rn_D rnh1
  show am_Ek false (am_P1 (some (L, xs)) lk) am_m254 458 [(4, .int i), (3, .ref 202), (2, .ref 164), (1, .ref 0), (0, .retAddr 0)] [.int xh1_z] am_ks0 _ nc ns Q
  refine am_e_pop (am_nxt_of (i := (791, 1, .pop, (0, 0, 0), 0)) (by decide +kernel)) rfl ?_
  refine am_e_aload_n (am_nxt_of (i := (792, 1, .aload_n 2, (0, 0, 0), 0)) (by decide +kernel)) rfl ?_
  refine am_e_sload_n (am_nxt_of (i := (793, 1, .aload_n 0, (0, 0, 0), 0)) (by decide +kernel)) rfl ?_
  refine am_e_iload (am_nxt_of (i := (794, 2, .iload 4, (0, 0, 0), 0)) (by decide +kernel)) rfl ?_
  refine am_e_iconst (w := 1) (am_nxt_of (i := (796, 1, .iconst 1, (0, 0, 0), 0)) (by decide +kernel)) rfl ?_
  refine am_e_iadd (w := i + 1) (am_nxt_of (i := (797, 1, .iadd, (0, 0, 0), 0)) (by decide +kernel)) rfl ?_
  refine am_e_sald (q := 6 * j + 1) (am_nxt_of (i := (798, 1, .iaload, (0, 0, 0), 0)) (by decide +kernel)) rfl (ag_i (n := 1) hi_z (by decide) (by omega) hL).1 (ag_i (n := 1) hi_z (by decide) (by omega) hL).2 ?_
  refine am_e_sload_n (am_nxt_of (i := (799, 1, .aload_n 0, (0, 0, 0), 0)) (by decide +kernel)) rfl ?_
  refine am_e_iload (am_nxt_of (i := (800, 2, .iload 4, (0, 0, 0), 0)) (by decide +kernel)) rfl ?_
  refine am_e_iconst (w := 2) (am_nxt_of (i := (802, 1, .iconst 2, (0, 0, 0), 0)) (by decide +kernel)) rfl ?_
  refine am_e_iadd (w := i + 2) (am_nxt_of (i := (803, 1, .iadd, (0, 0, 0), 0)) (by decide +kernel)) rfl ?_
  refine am_e_sald (q := 6 * j + 2) (am_nxt_of (i := (804, 1, .iaload, (0, 0, 0), 0)) (by decide +kernel)) rfl (ag_i (n := 2) hi_z (by decide) (by omega) hL).1 (ag_i (n := 2) hi_z (by decide) (by omega) hL).2 ?_
  refine am_e_sload_n (am_nxt_of (i := (805, 1, .aload_n 0, (0, 0, 0), 0)) (by decide +kernel)) rfl ?_
  refine am_e_iload (am_nxt_of (i := (806, 2, .iload 4, (0, 0, 0), 0)) (by decide +kernel)) rfl ?_
  refine am_e_iconst (w := 3) (am_nxt_of (i := (808, 1, .iconst 3, (0, 0, 0), 0)) (by decide +kernel)) rfl ?_
  refine am_e_iadd (w := i + 3) (am_nxt_of (i := (809, 1, .iadd, (0, 0, 0), 0)) (by decide +kernel)) rfl ?_
  refine am_e_sald (q := 6 * j + 3) (am_nxt_of (i := (810, 1, .iaload, (0, 0, 0), 0)) (by decide +kernel)) rfl (ag_i (n := 3) hi_z (by decide) (by omega) hL).1 (ag_i (n := 3) hi_z (by decide) (by omega) hL).2 ?_
  refine am_e_sload_n (am_nxt_of (i := (811, 1, .aload_n 0, (0, 0, 0), 0)) (by decide +kernel)) rfl ?_
  refine am_e_iload (am_nxt_of (i := (812, 2, .iload 4, (0, 0, 0), 0)) (by decide +kernel)) rfl ?_
  refine am_e_iconst (w := 4) (am_nxt_of (i := (814, 1, .iconst 4, (0, 0, 0), 0)) (by decide +kernel)) rfl ?_
  refine am_e_iadd (w := i + 4) (am_nxt_of (i := (815, 1, .iadd, (0, 0, 0), 0)) (by decide +kernel)) rfl ?_
  refine am_e_sald (q := 6 * j + 4) (am_nxt_of (i := (816, 1, .iaload, (0, 0, 0), 0)) (by decide +kernel)) rfl (ag_i (n := 4) hi_z (by decide) (by omega) hL).1 (ag_i (n := 4) hi_z (by decide) (by omega) hL).2 ?_
  refine am_e_callV (M' := am_m230) (o := 164) (ar := [.int (xs (6 * j + 4)), .int (xs (6 * j + 3)), .int (xs (6 * j + 2)), .int (xs (6 * j + 1))]) (rest := []) (L := lv_args 0 [.ref 164, .int (xs (6 * j + 1)), .int (xs (6 * j + 2)), .int (xs (6 * j + 3)), .int (xs (6 * j + 4))]) (am_nxt_of (i := (817, 3, .invokevirtual 97, (230, 1950, 3), 0)) (by decide +kernel)) rfl rfl rfl rfl ac_o (ag_okC rfl (by decide) (by omega) (by omega)) rfl rfl ?_
  refine am_Ev_mono (ag_m_upAt hG1 hD1) (fun r ks h2_z hq_z => ?_)
  obtain ⟨⟨rfl, hG2, ⟨xh2_z, rfl⟩, Fh2⟩, nh2_z, rnh2⟩ := hq_z
  have hD2 := rn_D rnh2
  show am_Ek false (am_P1 (some (L, xs)) lk) am_m254 481 [(4, .int i), (3, .ref 202), (2, .ref 164), (1, .ref 0), (0, .retAddr 0)] [.int xh2_z] am_ks0 _ nc ns Q
  refine am_e_pop (am_nxt_of (i := (820, 1, .pop, (0, 0, 0), 0)) (by decide +kernel)) rfl ?_
  refine am_e_goto (am_cur_of (i := (821, 3, .goto 491, (823, 0, 0), 0)) (by decide +kernel)) (am_tgt_of (by decide +kernel)) ?_
  exact K _ h2_z _ _ (by omega) (by omega) hG2 hD2 (X _ _ _ _ _ _ _ _ _ _ _ _ hR hG hG1 hG2 Fh1 Fh2 rnh1 rnh2)
theorem ag_case17 (hG : ag_G t h) (hD : rg_Gd h) (hR : Rel h) (hi_z : i.toInt = (6 * j : Nat)) (hb_z : 6 * j + 6 ≤ L) (hL : L ≤ 3072) (hc_z : nc ≤ 9000) (hs_z : ns ≤ 90000) (K : ag_K1 Rel lk L nc ns xs i Q) (X : ax_cheapest Rel) : am_Ek false (am_P1 (some (L, xs)) lk) am_m254 483 [(4, .int i), (3, .ref 202), (2, .ref 164), (1, .ref 0), (0, .retAddr 0)] [] am_ks0 h nc ns Q := by
  refine am_e_aload_n (am_nxt_of (i := (824, 1, .aload_n 1, (0, 0, 0), 0)) (by decide +kernel)) rfl ?_
  refine am_e_sload_n (am_nxt_of (i := (825, 1, .aload_n 0, (0, 0, 0), 0)) (by decide +kernel)) rfl ?_
  refine am_e_iload (am_nxt_of (i := (826, 2, .iload 4, (0, 0, 0), 0)) (by decide +kernel)) rfl ?_
  refine am_e_iconst (w := 1) (am_nxt_of (i := (828, 1, .iconst 1, (0, 0, 0), 0)) (by decide +kernel)) rfl ?_
  refine am_e_iadd (w := i + 1) (am_nxt_of (i := (829, 1, .iadd, (0, 0, 0), 0)) (by decide +kernel)) rfl ?_
  refine am_e_sald (q := 6 * j + 1) (am_nxt_of (i := (830, 1, .iaload, (0, 0, 0), 0)) (by decide +kernel)) rfl (ag_i (n := 1) hi_z (by decide) (by omega) hL).1 (ag_i (n := 1) hi_z (by decide) (by omega) hL).2 ?_
  refine am_e_sload_n (am_nxt_of (i := (831, 1, .aload_n 0, (0, 0, 0), 0)) (by decide +kernel)) rfl ?_
  refine am_e_iload (am_nxt_of (i := (832, 2, .iload 4, (0, 0, 0), 0)) (by decide +kernel)) rfl ?_
  refine am_e_iconst (w := 2) (am_nxt_of (i := (834, 1, .iconst 2, (0, 0, 0), 0)) (by decide +kernel)) rfl ?_
  refine am_e_iadd (w := i + 2) (am_nxt_of (i := (835, 1, .iadd, (0, 0, 0), 0)) (by decide +kernel)) rfl ?_
  refine am_e_sald (q := 6 * j + 2) (am_nxt_of (i := (836, 1, .iaload, (0, 0, 0), 0)) (by decide +kernel)) rfl (ag_i (n := 2) hi_z (by decide) (by omega) hL).1 (ag_i (n := 2) hi_z (by decide) (by omega) hL).2 ?_
  refine am_e_sload_n (am_nxt_of (i := (837, 1, .aload_n 0, (0, 0, 0), 0)) (by decide +kernel)) rfl ?_
  refine am_e_iload (am_nxt_of (i := (838, 2, .iload 4, (0, 0, 0), 0)) (by decide +kernel)) rfl ?_
  refine am_e_iconst (w := 3) (am_nxt_of (i := (840, 1, .iconst 3, (0, 0, 0), 0)) (by decide +kernel)) rfl ?_
  refine am_e_iadd (w := i + 3) (am_nxt_of (i := (841, 1, .iadd, (0, 0, 0), 0)) (by decide +kernel)) rfl ?_
  refine am_e_sald (q := 6 * j + 3) (am_nxt_of (i := (842, 1, .iaload, (0, 0, 0), 0)) (by decide +kernel)) rfl (ag_i (n := 3) hi_z (by decide) (by omega) hL).1 (ag_i (n := 3) hi_z (by decide) (by omega) hL).2 ?_
  refine am_e_callV (M' := am_m113) (o := 0) (ar := [.int (xs (6 * j + 3)), .int (xs (6 * j + 2)), .int (xs (6 * j + 1))]) (rest := []) (L := lv_args 0 [.ref 0, .int (xs (6 * j + 1)), .int (xs (6 * j + 2)), .int (xs (6 * j + 3))]) (am_nxt_of (i := (843, 3, .invokevirtual 98, (113, 1135, 3), 0)) (by decide +kernel)) rfl rfl rfl rfl ac_o0 (ag_okC rfl (by decide) (by omega) (by omega)) rfl rfl ?_
  refine am_Ev_mono (ag_c_cheapest hG hD) (fun r ks h1_z hq_z => ?_)
  obtain ⟨⟨rfl, hG1, ⟨xh1_z, rfl⟩, Fh1⟩, nh1_z, rnh1⟩ := hq_z
  have hD1 := rn_D rnh1
  show am_Ek false (am_P1 (some (L, xs)) lk) am_m254 500 [(4, .int i), (3, .ref 202), (2, .ref 164), (1, .ref 0), (0, .retAddr 0)] [.int xh1_z] am_ks0 _ nc ns Q
  refine am_e_pop (am_nxt_of (i := (846, 1, .pop, (0, 0, 0), 0)) (by decide +kernel)) rfl ?_
  refine am_e_aload_n (am_nxt_of (i := (847, 1, .aload_n 2, (0, 0, 0), 0)) (by decide +kernel)) rfl ?_
  refine am_e_sload_n (am_nxt_of (i := (848, 1, .aload_n 0, (0, 0, 0), 0)) (by decide +kernel)) rfl ?_
  refine am_e_iload (am_nxt_of (i := (849, 2, .iload 4, (0, 0, 0), 0)) (by decide +kernel)) rfl ?_
  refine am_e_iconst (w := 1) (am_nxt_of (i := (851, 1, .iconst 1, (0, 0, 0), 0)) (by decide +kernel)) rfl ?_
  refine am_e_iadd (w := i + 1) (am_nxt_of (i := (852, 1, .iadd, (0, 0, 0), 0)) (by decide +kernel)) rfl ?_
  refine am_e_sald (q := 6 * j + 1) (am_nxt_of (i := (853, 1, .iaload, (0, 0, 0), 0)) (by decide +kernel)) rfl (ag_i (n := 1) hi_z (by decide) (by omega) hL).1 (ag_i (n := 1) hi_z (by decide) (by omega) hL).2 ?_
  refine am_e_sload_n (am_nxt_of (i := (854, 1, .aload_n 0, (0, 0, 0), 0)) (by decide +kernel)) rfl ?_
  refine am_e_iload (am_nxt_of (i := (855, 2, .iload 4, (0, 0, 0), 0)) (by decide +kernel)) rfl ?_
  refine am_e_iconst (w := 2) (am_nxt_of (i := (857, 1, .iconst 2, (0, 0, 0), 0)) (by decide +kernel)) rfl ?_
  refine am_e_iadd (w := i + 2) (am_nxt_of (i := (858, 1, .iadd, (0, 0, 0), 0)) (by decide +kernel)) rfl ?_
  refine am_e_sald (q := 6 * j + 2) (am_nxt_of (i := (859, 1, .iaload, (0, 0, 0), 0)) (by decide +kernel)) rfl (ag_i (n := 2) hi_z (by decide) (by omega) hL).1 (ag_i (n := 2) hi_z (by decide) (by omega) hL).2 ?_
  refine am_e_sload_n (am_nxt_of (i := (860, 1, .aload_n 0, (0, 0, 0), 0)) (by decide +kernel)) rfl ?_
  refine am_e_iload (am_nxt_of (i := (861, 2, .iload 4, (0, 0, 0), 0)) (by decide +kernel)) rfl ?_
  refine am_e_iconst (w := 3) (am_nxt_of (i := (863, 1, .iconst 3, (0, 0, 0), 0)) (by decide +kernel)) rfl ?_
  refine am_e_iadd (w := i + 3) (am_nxt_of (i := (864, 1, .iadd, (0, 0, 0), 0)) (by decide +kernel)) rfl ?_
  refine am_e_sald (q := 6 * j + 3) (am_nxt_of (i := (865, 1, .iaload, (0, 0, 0), 0)) (by decide +kernel)) rfl (ag_i (n := 3) hi_z (by decide) (by omega) hL).1 (ag_i (n := 3) hi_z (by decide) (by omega) hL).2 ?_
  refine am_e_callV (M' := am_m231) (o := 164) (ar := [.int (xs (6 * j + 3)), .int (xs (6 * j + 2)), .int (xs (6 * j + 1))]) (rest := []) (L := lv_args 0 [.ref 164, .int (xs (6 * j + 1)), .int (xs (6 * j + 2)), .int (xs (6 * j + 3))]) (am_nxt_of (i := (866, 3, .invokevirtual 101, (231, 1954, 3), 0)) (by decide +kernel)) rfl rfl rfl rfl ac_o (ag_okC rfl (by decide) (by omega) (by omega)) rfl rfl ?_
  refine am_Ev_mono (ag_m_cheapest hG1 hD1) (fun r ks h2_z hq_z => ?_)
  obtain ⟨⟨rfl, hG2, ⟨xh2_z, rfl⟩, Fh2⟩, nh2_z, rnh2⟩ := hq_z
  have hD2 := rn_D rnh2
  show am_Ek false (am_P1 (some (L, xs)) lk) am_m254 518 [(4, .int i), (3, .ref 202), (2, .ref 164), (1, .ref 0), (0, .retAddr 0)] [.int xh2_z] am_ks0 _ nc ns Q
  refine am_e_pop (am_nxt_of (i := (869, 1, .pop, (0, 0, 0), 0)) (by decide +kernel)) rfl ?_
  refine am_e_goto (am_cur_of (i := (870, 3, .goto 442, (823, 0, 0), 0)) (by decide +kernel)) (am_tgt_of (by decide +kernel)) ?_
  exact K _ h2_z _ _ (by omega) (by omega) hG2 hD2 (X _ _ _ _ _ _ _ _ _ _ _ hR hG hG1 hG2 Fh1 Fh2 rnh1 rnh2)
theorem ag_case18 (hG : ag_G t h) (hD : rg_Gd h) (hR : Rel h) (hi_z : i.toInt = (6 * j : Nat)) (hb_z : 6 * j + 6 ≤ L) (hL : L ≤ 3072) (hc_z : nc ≤ 9000) (hs_z : ns ≤ 90000) (K : ag_K1 Rel lk L nc ns xs i Q) (X : ax_lend Rel) : am_Ek false (am_P1 (some (L, xs)) lk) am_m254 520 [(4, .int i), (3, .ref 202), (2, .ref 164), (1, .ref 0), (0, .retAddr 0)] [] am_ks0 h nc ns Q := by
  refine am_e_aload_n (am_nxt_of (i := (873, 1, .aload_n 1, (0, 0, 0), 0)) (by decide +kernel)) rfl ?_
  refine am_e_sload_n (am_nxt_of (i := (874, 1, .aload_n 0, (0, 0, 0), 0)) (by decide +kernel)) rfl ?_
  refine am_e_iload (am_nxt_of (i := (875, 2, .iload 4, (0, 0, 0), 0)) (by decide +kernel)) rfl ?_
  refine am_e_iconst (w := 1) (am_nxt_of (i := (877, 1, .iconst 1, (0, 0, 0), 0)) (by decide +kernel)) rfl ?_
  refine am_e_iadd (w := i + 1) (am_nxt_of (i := (878, 1, .iadd, (0, 0, 0), 0)) (by decide +kernel)) rfl ?_
  refine am_e_sald (q := 6 * j + 1) (am_nxt_of (i := (879, 1, .iaload, (0, 0, 0), 0)) (by decide +kernel)) rfl (ag_i (n := 1) hi_z (by decide) (by omega) hL).1 (ag_i (n := 1) hi_z (by decide) (by omega) hL).2 ?_
  refine am_e_sload_n (am_nxt_of (i := (880, 1, .aload_n 0, (0, 0, 0), 0)) (by decide +kernel)) rfl ?_
  refine am_e_iload (am_nxt_of (i := (881, 2, .iload 4, (0, 0, 0), 0)) (by decide +kernel)) rfl ?_
  refine am_e_iconst (w := 2) (am_nxt_of (i := (883, 1, .iconst 2, (0, 0, 0), 0)) (by decide +kernel)) rfl ?_
  refine am_e_iadd (w := i + 2) (am_nxt_of (i := (884, 1, .iadd, (0, 0, 0), 0)) (by decide +kernel)) rfl ?_
  refine am_e_sald (q := 6 * j + 2) (am_nxt_of (i := (885, 1, .iaload, (0, 0, 0), 0)) (by decide +kernel)) rfl (ag_i (n := 2) hi_z (by decide) (by omega) hL).1 (ag_i (n := 2) hi_z (by decide) (by omega) hL).2 ?_
  refine am_e_callV (M' := am_m114) (o := 0) (ar := [.int (xs (6 * j + 2)), .int (xs (6 * j + 1))]) (rest := []) (L := lv_args 0 [.ref 0, .int (xs (6 * j + 1)), .int (xs (6 * j + 2))]) (am_nxt_of (i := (886, 3, .invokevirtual 102, (114, 1139, 3), 0)) (by decide +kernel)) rfl rfl rfl rfl ac_o0 (ag_okC rfl (by decide) (by omega) (by omega)) rfl rfl ?_
  refine am_Ev_mono (ag_c_lend hG hD) (fun r ks h1_z hq_z => ?_)
  obtain ⟨⟨rfl, hG1, ⟨xh1_z, rfl⟩, Fh1⟩, nh1_z, rnh1⟩ := hq_z
  have hD1 := rn_D rnh1
  show am_Ek false (am_P1 (some (L, xs)) lk) am_m254 532 [(4, .int i), (3, .ref 202), (2, .ref 164), (1, .ref 0), (0, .retAddr 0)] [.int xh1_z] am_ks0 _ nc ns Q
  refine am_e_pop (am_nxt_of (i := (889, 1, .pop, (0, 0, 0), 0)) (by decide +kernel)) rfl ?_
  refine am_e_aload_n (am_nxt_of (i := (890, 1, .aload_n 2, (0, 0, 0), 0)) (by decide +kernel)) rfl ?_
  refine am_e_sload_n (am_nxt_of (i := (891, 1, .aload_n 0, (0, 0, 0), 0)) (by decide +kernel)) rfl ?_
  refine am_e_iload (am_nxt_of (i := (892, 2, .iload 4, (0, 0, 0), 0)) (by decide +kernel)) rfl ?_
  refine am_e_iconst (w := 1) (am_nxt_of (i := (894, 1, .iconst 1, (0, 0, 0), 0)) (by decide +kernel)) rfl ?_
  refine am_e_iadd (w := i + 1) (am_nxt_of (i := (895, 1, .iadd, (0, 0, 0), 0)) (by decide +kernel)) rfl ?_
  refine am_e_sald (q := 6 * j + 1) (am_nxt_of (i := (896, 1, .iaload, (0, 0, 0), 0)) (by decide +kernel)) rfl (ag_i (n := 1) hi_z (by decide) (by omega) hL).1 (ag_i (n := 1) hi_z (by decide) (by omega) hL).2 ?_
  refine am_e_sload_n (am_nxt_of (i := (897, 1, .aload_n 0, (0, 0, 0), 0)) (by decide +kernel)) rfl ?_
  refine am_e_iload (am_nxt_of (i := (898, 2, .iload 4, (0, 0, 0), 0)) (by decide +kernel)) rfl ?_
  refine am_e_iconst (w := 2) (am_nxt_of (i := (900, 1, .iconst 2, (0, 0, 0), 0)) (by decide +kernel)) rfl ?_
  refine am_e_iadd (w := i + 2) (am_nxt_of (i := (901, 1, .iadd, (0, 0, 0), 0)) (by decide +kernel)) rfl ?_
  refine am_e_sald (q := 6 * j + 2) (am_nxt_of (i := (902, 1, .iaload, (0, 0, 0), 0)) (by decide +kernel)) rfl (ag_i (n := 2) hi_z (by decide) (by omega) hL).1 (ag_i (n := 2) hi_z (by decide) (by omega) hL).2 ?_
  refine am_e_callV (M' := am_m232) (o := 164) (ar := [.int (xs (6 * j + 2)), .int (xs (6 * j + 1))]) (rest := []) (L := lv_args 0 [.ref 164, .int (xs (6 * j + 1)), .int (xs (6 * j + 2))]) (am_nxt_of (i := (903, 3, .invokevirtual 105, (232, 1958, 3), 0)) (by decide +kernel)) rfl rfl rfl rfl ac_o (ag_okC rfl (by decide) (by omega) (by omega)) rfl rfl ?_
  refine am_Ev_mono (ag_m_lend hG1 hD1) (fun r ks h2_z hq_z => ?_)
  obtain ⟨⟨rfl, hG2, ⟨xh2_z, rfl⟩, Fh2⟩, nh2_z, rnh2⟩ := hq_z
  have hD2 := rn_D rnh2
  show am_Ek false (am_P1 (some (L, xs)) lk) am_m254 545 [(4, .int i), (3, .ref 202), (2, .ref 164), (1, .ref 0), (0, .retAddr 0)] [.int xh2_z] am_ks0 _ nc ns Q
  refine am_e_pop (am_nxt_of (i := (906, 1, .pop, (0, 0, 0), 0)) (by decide +kernel)) rfl ?_
  refine am_e_goto (am_cur_of (i := (907, 3, .goto 405, (823, 0, 0), 0)) (by decide +kernel)) (am_tgt_of (by decide +kernel)) ?_
  exact K _ h2_z _ _ (by omega) (by omega) hG2 hD2 (X _ _ _ _ _ _ _ _ _ _ hR hG hG1 hG2 Fh1 Fh2 rnh1 rnh2)
theorem ag_case19 (hG : ag_G t h) (hD : rg_Gd h) (hR : Rel h) (hi_z : i.toInt = (6 * j : Nat)) (hb_z : 6 * j + 6 ≤ L) (hL : L ≤ 3072) (hc_z : nc ≤ 9000) (hs_z : ns ≤ 90000) (K : ag_K1 Rel lk L nc ns xs i Q) (X : ax_seek Rel) : am_Ek false (am_P1 (some (L, xs)) lk) am_m254 547 [(4, .int i), (3, .ref 202), (2, .ref 164), (1, .ref 0), (0, .retAddr 0)] [] am_ks0 h nc ns Q := by
  refine am_e_aload_n (am_nxt_of (i := (910, 1, .aload_n 1, (0, 0, 0), 0)) (by decide +kernel)) rfl ?_
  refine am_e_sload_n (am_nxt_of (i := (911, 1, .aload_n 0, (0, 0, 0), 0)) (by decide +kernel)) rfl ?_
  refine am_e_iload (am_nxt_of (i := (912, 2, .iload 4, (0, 0, 0), 0)) (by decide +kernel)) rfl ?_
  refine am_e_iconst (w := 1) (am_nxt_of (i := (914, 1, .iconst 1, (0, 0, 0), 0)) (by decide +kernel)) rfl ?_
  refine am_e_iadd (w := i + 1) (am_nxt_of (i := (915, 1, .iadd, (0, 0, 0), 0)) (by decide +kernel)) rfl ?_
  refine am_e_sald (q := 6 * j + 1) (am_nxt_of (i := (916, 1, .iaload, (0, 0, 0), 0)) (by decide +kernel)) rfl (ag_i (n := 1) hi_z (by decide) (by omega) hL).1 (ag_i (n := 1) hi_z (by decide) (by omega) hL).2 ?_
  refine am_e_sload_n (am_nxt_of (i := (917, 1, .aload_n 0, (0, 0, 0), 0)) (by decide +kernel)) rfl ?_
  refine am_e_iload (am_nxt_of (i := (918, 2, .iload 4, (0, 0, 0), 0)) (by decide +kernel)) rfl ?_
  refine am_e_iconst (w := 2) (am_nxt_of (i := (920, 1, .iconst 2, (0, 0, 0), 0)) (by decide +kernel)) rfl ?_
  refine am_e_iadd (w := i + 2) (am_nxt_of (i := (921, 1, .iadd, (0, 0, 0), 0)) (by decide +kernel)) rfl ?_
  refine am_e_sald (q := 6 * j + 2) (am_nxt_of (i := (922, 1, .iaload, (0, 0, 0), 0)) (by decide +kernel)) rfl (ag_i (n := 2) hi_z (by decide) (by omega) hL).1 (ag_i (n := 2) hi_z (by decide) (by omega) hL).2 ?_
  refine am_e_callV (M' := am_m115) (o := 0) (ar := [.int (xs (6 * j + 2)), .int (xs (6 * j + 1))]) (rest := []) (L := lv_args 0 [.ref 0, .int (xs (6 * j + 1)), .int (xs (6 * j + 2))]) (am_nxt_of (i := (923, 3, .invokevirtual 106, (115, 1143, 3), 0)) (by decide +kernel)) rfl rfl rfl rfl ac_o0 (ag_okC rfl (by decide) (by omega) (by omega)) rfl rfl ?_
  refine am_Ev_mono (ag_c_seek hG hD) (fun r ks h1_z hq_z => ?_)
  obtain ⟨⟨rfl, hG1, ⟨xh1_z, rfl⟩, Fh1⟩, nh1_z, rnh1⟩ := hq_z
  have hD1 := rn_D rnh1
  show am_Ek false (am_P1 (some (L, xs)) lk) am_m254 559 [(4, .int i), (3, .ref 202), (2, .ref 164), (1, .ref 0), (0, .retAddr 0)] [.int xh1_z] am_ks0 _ nc ns Q
  refine am_e_pop (am_nxt_of (i := (926, 1, .pop, (0, 0, 0), 0)) (by decide +kernel)) rfl ?_
  refine am_e_aload_n (am_nxt_of (i := (927, 1, .aload_n 2, (0, 0, 0), 0)) (by decide +kernel)) rfl ?_
  refine am_e_sload_n (am_nxt_of (i := (928, 1, .aload_n 0, (0, 0, 0), 0)) (by decide +kernel)) rfl ?_
  refine am_e_iload (am_nxt_of (i := (929, 2, .iload 4, (0, 0, 0), 0)) (by decide +kernel)) rfl ?_
  refine am_e_iconst (w := 1) (am_nxt_of (i := (931, 1, .iconst 1, (0, 0, 0), 0)) (by decide +kernel)) rfl ?_
  refine am_e_iadd (w := i + 1) (am_nxt_of (i := (932, 1, .iadd, (0, 0, 0), 0)) (by decide +kernel)) rfl ?_
  refine am_e_sald (q := 6 * j + 1) (am_nxt_of (i := (933, 1, .iaload, (0, 0, 0), 0)) (by decide +kernel)) rfl (ag_i (n := 1) hi_z (by decide) (by omega) hL).1 (ag_i (n := 1) hi_z (by decide) (by omega) hL).2 ?_
  refine am_e_sload_n (am_nxt_of (i := (934, 1, .aload_n 0, (0, 0, 0), 0)) (by decide +kernel)) rfl ?_
  refine am_e_iload (am_nxt_of (i := (935, 2, .iload 4, (0, 0, 0), 0)) (by decide +kernel)) rfl ?_
  refine am_e_iconst (w := 2) (am_nxt_of (i := (937, 1, .iconst 2, (0, 0, 0), 0)) (by decide +kernel)) rfl ?_
  refine am_e_iadd (w := i + 2) (am_nxt_of (i := (938, 1, .iadd, (0, 0, 0), 0)) (by decide +kernel)) rfl ?_
  refine am_e_sald (q := 6 * j + 2) (am_nxt_of (i := (939, 1, .iaload, (0, 0, 0), 0)) (by decide +kernel)) rfl (ag_i (n := 2) hi_z (by decide) (by omega) hL).1 (ag_i (n := 2) hi_z (by decide) (by omega) hL).2 ?_
  refine am_e_callV (M' := am_m233) (o := 164) (ar := [.int (xs (6 * j + 2)), .int (xs (6 * j + 1))]) (rest := []) (L := lv_args 0 [.ref 164, .int (xs (6 * j + 1)), .int (xs (6 * j + 2))]) (am_nxt_of (i := (940, 3, .invokevirtual 109, (233, 1962, 3), 0)) (by decide +kernel)) rfl rfl rfl rfl ac_o (ag_okC rfl (by decide) (by omega) (by omega)) rfl rfl ?_
  refine am_Ev_mono (ag_m_seek hG1 hD1) (fun r ks h2_z hq_z => ?_)
  obtain ⟨⟨rfl, hG2, ⟨xh2_z, rfl⟩, Fh2⟩, nh2_z, rnh2⟩ := hq_z
  have hD2 := rn_D rnh2
  show am_Ek false (am_P1 (some (L, xs)) lk) am_m254 572 [(4, .int i), (3, .ref 202), (2, .ref 164), (1, .ref 0), (0, .retAddr 0)] [.int xh2_z] am_ks0 _ nc ns Q
  refine am_e_pop (am_nxt_of (i := (943, 1, .pop, (0, 0, 0), 0)) (by decide +kernel)) rfl ?_
  refine am_e_goto (am_cur_of (i := (944, 3, .goto 368, (823, 0, 0), 0)) (by decide +kernel)) (am_tgt_of (by decide +kernel)) ?_
  exact K _ h2_z _ _ (by omega) (by omega) hG2 hD2 (X _ _ _ _ _ _ _ _ _ _ hR hG hG1 hG2 Fh1 Fh2 rnh1 rnh2)
theorem ag_case20 (hG : ag_G t h) (hD : rg_Gd h) (hR : Rel h) (hi_z : i.toInt = (6 * j : Nat)) (hb_z : 6 * j + 6 ≤ L) (hL : L ≤ 3072) (hc_z : nc ≤ 9000) (hs_z : ns ≤ 90000) (K : ag_K1 Rel lk L nc ns xs i Q) (X : ax_mean Rel) : am_Ek false (am_P1 (some (L, xs)) lk) am_m254 574 [(4, .int i), (3, .ref 202), (2, .ref 164), (1, .ref 0), (0, .retAddr 0)] [] am_ks0 h nc ns Q := by
  refine am_e_aload_n (am_nxt_of (i := (947, 1, .aload_n 1, (0, 0, 0), 0)) (by decide +kernel)) rfl ?_
  refine am_e_sload_n (am_nxt_of (i := (948, 1, .aload_n 0, (0, 0, 0), 0)) (by decide +kernel)) rfl ?_
  refine am_e_iload (am_nxt_of (i := (949, 2, .iload 4, (0, 0, 0), 0)) (by decide +kernel)) rfl ?_
  refine am_e_iconst (w := 1) (am_nxt_of (i := (951, 1, .iconst 1, (0, 0, 0), 0)) (by decide +kernel)) rfl ?_
  refine am_e_iadd (w := i + 1) (am_nxt_of (i := (952, 1, .iadd, (0, 0, 0), 0)) (by decide +kernel)) rfl ?_
  refine am_e_sald (q := 6 * j + 1) (am_nxt_of (i := (953, 1, .iaload, (0, 0, 0), 0)) (by decide +kernel)) rfl (ag_i (n := 1) hi_z (by decide) (by omega) hL).1 (ag_i (n := 1) hi_z (by decide) (by omega) hL).2 ?_
  refine am_e_callV (M' := am_m118) (o := 0) (ar := [.int (xs (6 * j + 1))]) (rest := []) (L := lv_args 0 [.ref 0, .int (xs (6 * j + 1))]) (am_nxt_of (i := (954, 3, .invokevirtual 110, (118, 1158, 3), 0)) (by decide +kernel)) rfl rfl rfl rfl ac_o0 (ag_okC rfl (by decide) (by omega) (by omega)) rfl rfl ?_
  refine am_Ev_mono (ag_c_mean hG hD) (fun r ks h1_z hq_z => ?_)
  obtain ⟨⟨rfl, hG1, ⟨xh1_z, rfl⟩, Fh1⟩, nh1_z, rnh1⟩ := hq_z
  have hD1 := rn_D rnh1
  show am_Ek false (am_P1 (some (L, xs)) lk) am_m254 581 [(4, .int i), (3, .ref 202), (2, .ref 164), (1, .ref 0), (0, .retAddr 0)] [.int xh1_z] am_ks0 _ nc ns Q
  refine am_e_pop (am_nxt_of (i := (957, 1, .pop, (0, 0, 0), 0)) (by decide +kernel)) rfl ?_
  refine am_e_aload_n (am_nxt_of (i := (958, 1, .aload_n 2, (0, 0, 0), 0)) (by decide +kernel)) rfl ?_
  refine am_e_sload_n (am_nxt_of (i := (959, 1, .aload_n 0, (0, 0, 0), 0)) (by decide +kernel)) rfl ?_
  refine am_e_iload (am_nxt_of (i := (960, 2, .iload 4, (0, 0, 0), 0)) (by decide +kernel)) rfl ?_
  refine am_e_iconst (w := 1) (am_nxt_of (i := (962, 1, .iconst 1, (0, 0, 0), 0)) (by decide +kernel)) rfl ?_
  refine am_e_iadd (w := i + 1) (am_nxt_of (i := (963, 1, .iadd, (0, 0, 0), 0)) (by decide +kernel)) rfl ?_
  refine am_e_sald (q := 6 * j + 1) (am_nxt_of (i := (964, 1, .iaload, (0, 0, 0), 0)) (by decide +kernel)) rfl (ag_i (n := 1) hi_z (by decide) (by omega) hL).1 (ag_i (n := 1) hi_z (by decide) (by omega) hL).2 ?_
  refine am_e_callV (M' := am_m234) (o := 164) (ar := [.int (xs (6 * j + 1))]) (rest := []) (L := lv_args 0 [.ref 164, .int (xs (6 * j + 1))]) (am_nxt_of (i := (965, 3, .invokevirtual 113, (234, 1968, 3), 0)) (by decide +kernel)) rfl rfl rfl rfl ac_o (ag_okC rfl (by decide) (by omega) (by omega)) rfl rfl ?_
  refine am_Ev_mono (ag_m_mean hG1 hD1) (fun r ks h2_z hq_z => ?_)
  obtain ⟨⟨rfl, hG2, ⟨xh2_z, rfl⟩, Fh2⟩, nh2_z, rnh2⟩ := hq_z
  have hD2 := rn_D rnh2
  show am_Ek false (am_P1 (some (L, xs)) lk) am_m254 589 [(4, .int i), (3, .ref 202), (2, .ref 164), (1, .ref 0), (0, .retAddr 0)] [.int xh2_z] am_ks0 _ nc ns Q
  refine am_e_pop (am_nxt_of (i := (968, 1, .pop, (0, 0, 0), 0)) (by decide +kernel)) rfl ?_
  refine am_e_goto (am_cur_of (i := (969, 3, .goto 343, (823, 0, 0), 0)) (by decide +kernel)) (am_tgt_of (by decide +kernel)) ?_
  exact K _ h2_z _ _ (by omega) (by omega) hG2 hD2 (X _ _ _ _ _ _ _ _ _ hR hG hG1 hG2 Fh1 Fh2 rnh1 rnh2)
theorem ag_case21 (hG : ag_G t h) (hD : rg_Gd h) (hR : Rel h) (hi_z : i.toInt = (6 * j : Nat)) (hb_z : 6 * j + 6 ≤ L) (hL : L ≤ 3072) (hc_z : nc ≤ 9000) (hs_z : ns ≤ 90000) (K : ag_K1 Rel lk L nc ns xs i Q) (X : ax_rule Rel) : am_Ek false (am_P1 (some (L, xs)) lk) am_m254 591 [(4, .int i), (3, .ref 202), (2, .ref 164), (1, .ref 0), (0, .retAddr 0)] [] am_ks0 h nc ns Q := by
  refine am_e_aload_n (am_nxt_of (i := (972, 1, .aload_n 1, (0, 0, 0), 0)) (by decide +kernel)) rfl ?_
  refine am_e_sload_n (am_nxt_of (i := (973, 1, .aload_n 0, (0, 0, 0), 0)) (by decide +kernel)) rfl ?_
  refine am_e_iload (am_nxt_of (i := (974, 2, .iload 4, (0, 0, 0), 0)) (by decide +kernel)) rfl ?_
  refine am_e_iconst (w := 1) (am_nxt_of (i := (976, 1, .iconst 1, (0, 0, 0), 0)) (by decide +kernel)) rfl ?_
  refine am_e_iadd (w := i + 1) (am_nxt_of (i := (977, 1, .iadd, (0, 0, 0), 0)) (by decide +kernel)) rfl ?_
  refine am_e_sald (q := 6 * j + 1) (am_nxt_of (i := (978, 1, .iaload, (0, 0, 0), 0)) (by decide +kernel)) rfl (ag_i (n := 1) hi_z (by decide) (by omega) hL).1 (ag_i (n := 1) hi_z (by decide) (by omega) hL).2 ?_
  refine am_e_callV (M' := am_m122) (o := 0) (ar := [.int (xs (6 * j + 1))]) (rest := []) (L := lv_args 0 [.ref 0, .int (xs (6 * j + 1))]) (am_nxt_of (i := (979, 3, .invokevirtual 114, (122, 1173, 3), 0)) (by decide +kernel)) rfl rfl rfl rfl ac_o0 (ag_okC rfl (by decide) (by omega) (by omega)) rfl rfl ?_
  refine am_Ev_mono (ag_c_rule hG hD) (fun r ks h1_z hq_z => ?_)
  obtain ⟨⟨rfl, hG1, ⟨xh1_z, rfl⟩, Fh1⟩, nh1_z, rnh1⟩ := hq_z
  have hD1 := rn_D rnh1
  show am_Ek false (am_P1 (some (L, xs)) lk) am_m254 598 [(4, .int i), (3, .ref 202), (2, .ref 164), (1, .ref 0), (0, .retAddr 0)] [.int xh1_z] am_ks0 _ nc ns Q
  refine am_e_pop (am_nxt_of (i := (982, 1, .pop, (0, 0, 0), 0)) (by decide +kernel)) rfl ?_
  refine am_e_aload_n (am_nxt_of (i := (983, 1, .aload_n 2, (0, 0, 0), 0)) (by decide +kernel)) rfl ?_
  refine am_e_sload_n (am_nxt_of (i := (984, 1, .aload_n 0, (0, 0, 0), 0)) (by decide +kernel)) rfl ?_
  refine am_e_iload (am_nxt_of (i := (985, 2, .iload 4, (0, 0, 0), 0)) (by decide +kernel)) rfl ?_
  refine am_e_iconst (w := 1) (am_nxt_of (i := (987, 1, .iconst 1, (0, 0, 0), 0)) (by decide +kernel)) rfl ?_
  refine am_e_iadd (w := i + 1) (am_nxt_of (i := (988, 1, .iadd, (0, 0, 0), 0)) (by decide +kernel)) rfl ?_
  refine am_e_sald (q := 6 * j + 1) (am_nxt_of (i := (989, 1, .iaload, (0, 0, 0), 0)) (by decide +kernel)) rfl (ag_i (n := 1) hi_z (by decide) (by omega) hL).1 (ag_i (n := 1) hi_z (by decide) (by omega) hL).2 ?_
  refine am_e_callV (M' := am_m236) (o := 164) (ar := [.int (xs (6 * j + 1))]) (rest := []) (L := lv_args 0 [.ref 164, .int (xs (6 * j + 1))]) (am_nxt_of (i := (990, 3, .invokevirtual 117, (236, 1975, 3), 0)) (by decide +kernel)) rfl rfl rfl rfl ac_o (ag_okC rfl (by decide) (by omega) (by omega)) rfl rfl ?_
  refine am_Ev_mono (ag_m_rule hG1 hD1) (fun r ks h2_z hq_z => ?_)
  obtain ⟨⟨rfl, hG2, ⟨xh2_z, rfl⟩, Fh2⟩, nh2_z, rnh2⟩ := hq_z
  have hD2 := rn_D rnh2
  show am_Ek false (am_P1 (some (L, xs)) lk) am_m254 606 [(4, .int i), (3, .ref 202), (2, .ref 164), (1, .ref 0), (0, .retAddr 0)] [.int xh2_z] am_ks0 _ nc ns Q
  refine am_e_pop (am_nxt_of (i := (993, 1, .pop, (0, 0, 0), 0)) (by decide +kernel)) rfl ?_
  refine am_e_goto (am_cur_of (i := (994, 3, .goto 318, (823, 0, 0), 0)) (by decide +kernel)) (am_tgt_of (by decide +kernel)) ?_
  exact K _ h2_z _ _ (by omega) (by omega) hG2 hD2 (X _ _ _ _ _ _ _ _ _ hR hG hG1 hG2 Fh1 Fh2 rnh1 rnh2)
theorem ag_case22 (hG : ag_G t h) (hD : rg_Gd h) (hR : Rel h) (hi_z : i.toInt = (6 * j : Nat)) (hb_z : 6 * j + 6 ≤ L) (hL : L ≤ 3072) (hc_z : nc ≤ 9000) (hs_z : ns ≤ 90000) (K : ag_K1 Rel lk L nc ns xs i Q) (X : ax_fairest Rel) : am_Ek false (am_P1 (some (L, xs)) lk) am_m254 608 [(4, .int i), (3, .ref 202), (2, .ref 164), (1, .ref 0), (0, .retAddr 0)] [] am_ks0 h nc ns Q := by
  refine am_e_aload_n (am_nxt_of (i := (997, 1, .aload_n 1, (0, 0, 0), 0)) (by decide +kernel)) rfl ?_
  refine am_e_callV (M' := am_m124) (o := 0) (ar := []) (rest := []) (L := lv_args 0 [.ref 0]) (am_nxt_of (i := (998, 3, .invokevirtual 118, (124, 1181, 3), 0)) (by decide +kernel)) rfl rfl rfl rfl ac_o0 (ag_okC rfl (by decide) (by omega) (by omega)) rfl rfl ?_
  refine am_Ev_mono (ag_c_fairest hG hD) (fun r ks h1_z hq_z => ?_)
  obtain ⟨⟨rfl, hG1, ⟨xh1_z, rfl⟩, Fh1⟩, nh1_z, rnh1⟩ := hq_z
  have hD1 := rn_D rnh1
  show am_Ek false (am_P1 (some (L, xs)) lk) am_m254 610 [(4, .int i), (3, .ref 202), (2, .ref 164), (1, .ref 0), (0, .retAddr 0)] [.int xh1_z] am_ks0 _ nc ns Q
  refine am_e_pop (am_nxt_of (i := (1001, 1, .pop, (0, 0, 0), 0)) (by decide +kernel)) rfl ?_
  refine am_e_aload_n (am_nxt_of (i := (1002, 1, .aload_n 2, (0, 0, 0), 0)) (by decide +kernel)) rfl ?_
  refine am_e_callV (M' := am_m239) (o := 164) (ar := []) (rest := []) (L := lv_args 0 [.ref 164]) (am_nxt_of (i := (1003, 3, .invokevirtual 121, (239, 1987, 3), 0)) (by decide +kernel)) rfl rfl rfl rfl ac_o (ag_okC rfl (by decide) (by omega) (by omega)) rfl rfl ?_
  refine am_Ev_mono (ag_m_fairest hG1 hD1) (fun r ks h2_z hq_z => ?_)
  obtain ⟨⟨rfl, hG2, ⟨xh2_z, rfl⟩, Fh2⟩, nh2_z, rnh2⟩ := hq_z
  have hD2 := rn_D rnh2
  show am_Ek false (am_P1 (some (L, xs)) lk) am_m254 613 [(4, .int i), (3, .ref 202), (2, .ref 164), (1, .ref 0), (0, .retAddr 0)] [.int xh2_z] am_ks0 _ nc ns Q
  refine am_e_pop (am_nxt_of (i := (1006, 1, .pop, (0, 0, 0), 0)) (by decide +kernel)) rfl ?_
  refine am_e_goto (am_cur_of (i := (1007, 3, .goto 305, (823, 0, 0), 0)) (by decide +kernel)) (am_tgt_of (by decide +kernel)) ?_
  exact K _ h2_z _ _ (by omega) (by omega) hG2 hD2 (X _ _ _ _ _ _ _ _ hR hG hG1 hG2 Fh1 Fh2 rnh1 rnh2)
theorem ag_case23 (hG : ag_G t h) (hD : rg_Gd h) (hR : Rel h) (hi_z : i.toInt = (6 * j : Nat)) (hb_z : 6 * j + 6 ≤ L) (hL : L ≤ 3072) (hc_z : nc ≤ 9000) (hs_z : ns ≤ 90000) (K : ag_K1 Rel lk L nc ns xs i Q) (X : ax_cheek Rel) : am_Ek false (am_P1 (some (L, xs)) lk) am_m254 615 [(4, .int i), (3, .ref 202), (2, .ref 164), (1, .ref 0), (0, .retAddr 0)] [] am_ks0 h nc ns Q := by
  refine am_e_aload_n (am_nxt_of (i := (1010, 1, .aload_n 1, (0, 0, 0), 0)) (by decide +kernel)) rfl ?_
  refine am_e_sload_n (am_nxt_of (i := (1011, 1, .aload_n 0, (0, 0, 0), 0)) (by decide +kernel)) rfl ?_
  refine am_e_iload (am_nxt_of (i := (1012, 2, .iload 4, (0, 0, 0), 0)) (by decide +kernel)) rfl ?_
  refine am_e_iconst (w := 1) (am_nxt_of (i := (1014, 1, .iconst 1, (0, 0, 0), 0)) (by decide +kernel)) rfl ?_
  refine am_e_iadd (w := i + 1) (am_nxt_of (i := (1015, 1, .iadd, (0, 0, 0), 0)) (by decide +kernel)) rfl ?_
  refine am_e_sald (q := 6 * j + 1) (am_nxt_of (i := (1016, 1, .iaload, (0, 0, 0), 0)) (by decide +kernel)) rfl (ag_i (n := 1) hi_z (by decide) (by omega) hL).1 (ag_i (n := 1) hi_z (by decide) (by omega) hL).2 ?_
  refine am_e_sload_n (am_nxt_of (i := (1017, 1, .aload_n 0, (0, 0, 0), 0)) (by decide +kernel)) rfl ?_
  refine am_e_iload (am_nxt_of (i := (1018, 2, .iload 4, (0, 0, 0), 0)) (by decide +kernel)) rfl ?_
  refine am_e_iconst (w := 2) (am_nxt_of (i := (1020, 1, .iconst 2, (0, 0, 0), 0)) (by decide +kernel)) rfl ?_
  refine am_e_iadd (w := i + 2) (am_nxt_of (i := (1021, 1, .iadd, (0, 0, 0), 0)) (by decide +kernel)) rfl ?_
  refine am_e_sald (q := 6 * j + 2) (am_nxt_of (i := (1022, 1, .iaload, (0, 0, 0), 0)) (by decide +kernel)) rfl (ag_i (n := 2) hi_z (by decide) (by omega) hL).1 (ag_i (n := 2) hi_z (by decide) (by omega) hL).2 ?_
  refine am_e_sload_n (am_nxt_of (i := (1023, 1, .aload_n 0, (0, 0, 0), 0)) (by decide +kernel)) rfl ?_
  refine am_e_iload (am_nxt_of (i := (1024, 2, .iload 4, (0, 0, 0), 0)) (by decide +kernel)) rfl ?_
  refine am_e_iconst (w := 3) (am_nxt_of (i := (1026, 1, .iconst 3, (0, 0, 0), 0)) (by decide +kernel)) rfl ?_
  refine am_e_iadd (w := i + 3) (am_nxt_of (i := (1027, 1, .iadd, (0, 0, 0), 0)) (by decide +kernel)) rfl ?_
  refine am_e_sald (q := 6 * j + 3) (am_nxt_of (i := (1028, 1, .iaload, (0, 0, 0), 0)) (by decide +kernel)) rfl (ag_i (n := 3) hi_z (by decide) (by omega) hL).1 (ag_i (n := 3) hi_z (by decide) (by omega) hL).2 ?_
  refine am_e_sload_n (am_nxt_of (i := (1029, 1, .aload_n 0, (0, 0, 0), 0)) (by decide +kernel)) rfl ?_
  refine am_e_iload (am_nxt_of (i := (1030, 2, .iload 4, (0, 0, 0), 0)) (by decide +kernel)) rfl ?_
  refine am_e_iconst (w := 4) (am_nxt_of (i := (1032, 1, .iconst 4, (0, 0, 0), 0)) (by decide +kernel)) rfl ?_
  refine am_e_iadd (w := i + 4) (am_nxt_of (i := (1033, 1, .iadd, (0, 0, 0), 0)) (by decide +kernel)) rfl ?_
  refine am_e_sald (q := 6 * j + 4) (am_nxt_of (i := (1034, 1, .iaload, (0, 0, 0), 0)) (by decide +kernel)) rfl (ag_i (n := 4) hi_z (by decide) (by omega) hL).1 (ag_i (n := 4) hi_z (by decide) (by omega) hL).2 ?_
  by_cases hz636_z : (xs (6 * j + 4) : Int32) = 0
  · refine am_e_ifT (am_nxt_of (i := (1035, 3, .ifCond .eq 7, (639, 0, 0), 0)) (by decide +kernel)) (am_c_eqT hz636_z) (am_tgt_of (by decide +kernel)) ?_
    refine am_e_iconst (w := 0) (am_nxt_of (i := (1042, 1, .iconst 0, (0, 0, 0), 0)) (by decide +kernel)) rfl ?_
    refine am_e_callV (M' := am_m125) (o := 0) (ar := [.int 0, .int (xs (6 * j + 3)), .int (xs (6 * j + 2)), .int (xs (6 * j + 1))]) (rest := []) (L := lv_args 0 [.ref 0, .int (xs (6 * j + 1)), .int (xs (6 * j + 2)), .int (xs (6 * j + 3)), .int 0]) (am_nxt_of (i := (1043, 3, .invokevirtual 122, (125, 1185, 3), 0)) (by decide +kernel)) rfl rfl rfl rfl ac_o0 (ag_okC rfl (by decide) (by omega) (by omega)) rfl rfl ?_
    refine am_Ev_mono (ag_c_cheek hG hD (by decide) (by decide)) (fun r ks h1_z hq_z => ?_)
    obtain ⟨⟨rfl, hG1, ⟨xh1_z, rfl⟩, Fh1⟩, nh1_z, rnh1⟩ := hq_z
    have hD1 := rn_D rnh1
    show am_Ek false (am_P1 (some (L, xs)) lk) am_m254 641 [(4, .int i), (3, .ref 202), (2, .ref 164), (1, .ref 0), (0, .retAddr 0)] [.int xh1_z] am_ks0 _ nc ns Q
    refine am_e_pop (am_nxt_of (i := (1046, 1, .pop, (0, 0, 0), 0)) (by decide +kernel)) rfl ?_
    refine am_e_aload_n (am_nxt_of (i := (1047, 1, .aload_n 2, (0, 0, 0), 0)) (by decide +kernel)) rfl ?_
    refine am_e_sload_n (am_nxt_of (i := (1048, 1, .aload_n 0, (0, 0, 0), 0)) (by decide +kernel)) rfl ?_
    refine am_e_iload (am_nxt_of (i := (1049, 2, .iload 4, (0, 0, 0), 0)) (by decide +kernel)) rfl ?_
    refine am_e_iconst (w := 1) (am_nxt_of (i := (1051, 1, .iconst 1, (0, 0, 0), 0)) (by decide +kernel)) rfl ?_
    refine am_e_iadd (w := i + 1) (am_nxt_of (i := (1052, 1, .iadd, (0, 0, 0), 0)) (by decide +kernel)) rfl ?_
    refine am_e_sald (q := 6 * j + 1) (am_nxt_of (i := (1053, 1, .iaload, (0, 0, 0), 0)) (by decide +kernel)) rfl (ag_i (n := 1) hi_z (by decide) (by omega) hL).1 (ag_i (n := 1) hi_z (by decide) (by omega) hL).2 ?_
    refine am_e_sload_n (am_nxt_of (i := (1054, 1, .aload_n 0, (0, 0, 0), 0)) (by decide +kernel)) rfl ?_
    refine am_e_iload (am_nxt_of (i := (1055, 2, .iload 4, (0, 0, 0), 0)) (by decide +kernel)) rfl ?_
    refine am_e_iconst (w := 2) (am_nxt_of (i := (1057, 1, .iconst 2, (0, 0, 0), 0)) (by decide +kernel)) rfl ?_
    refine am_e_iadd (w := i + 2) (am_nxt_of (i := (1058, 1, .iadd, (0, 0, 0), 0)) (by decide +kernel)) rfl ?_
    refine am_e_sald (q := 6 * j + 2) (am_nxt_of (i := (1059, 1, .iaload, (0, 0, 0), 0)) (by decide +kernel)) rfl (ag_i (n := 2) hi_z (by decide) (by omega) hL).1 (ag_i (n := 2) hi_z (by decide) (by omega) hL).2 ?_
    refine am_e_sload_n (am_nxt_of (i := (1060, 1, .aload_n 0, (0, 0, 0), 0)) (by decide +kernel)) rfl ?_
    refine am_e_iload (am_nxt_of (i := (1061, 2, .iload 4, (0, 0, 0), 0)) (by decide +kernel)) rfl ?_
    refine am_e_iconst (w := 3) (am_nxt_of (i := (1063, 1, .iconst 3, (0, 0, 0), 0)) (by decide +kernel)) rfl ?_
    refine am_e_iadd (w := i + 3) (am_nxt_of (i := (1064, 1, .iadd, (0, 0, 0), 0)) (by decide +kernel)) rfl ?_
    refine am_e_sald (q := 6 * j + 3) (am_nxt_of (i := (1065, 1, .iaload, (0, 0, 0), 0)) (by decide +kernel)) rfl (ag_i (n := 3) hi_z (by decide) (by omega) hL).1 (ag_i (n := 3) hi_z (by decide) (by omega) hL).2 ?_
    refine am_e_sload_n (am_nxt_of (i := (1066, 1, .aload_n 0, (0, 0, 0), 0)) (by decide +kernel)) rfl ?_
    refine am_e_iload (am_nxt_of (i := (1067, 2, .iload 4, (0, 0, 0), 0)) (by decide +kernel)) rfl ?_
    refine am_e_iconst (w := 4) (am_nxt_of (i := (1069, 1, .iconst 4, (0, 0, 0), 0)) (by decide +kernel)) rfl ?_
    refine am_e_iadd (w := i + 4) (am_nxt_of (i := (1070, 1, .iadd, (0, 0, 0), 0)) (by decide +kernel)) rfl ?_
    refine am_e_sald (q := 6 * j + 4) (am_nxt_of (i := (1071, 1, .iaload, (0, 0, 0), 0)) (by decide +kernel)) rfl (ag_i (n := 4) hi_z (by decide) (by omega) hL).1 (ag_i (n := 4) hi_z (by decide) (by omega) hL).2 ?_
    have hz663_z := hz636_z
    refine am_e_ifT (am_nxt_of (i := (1072, 3, .ifCond .eq 7, (666, 0, 0), 0)) (by decide +kernel)) (am_c_eqT hz663_z) (am_tgt_of (by decide +kernel)) ?_
    refine am_e_iconst (w := 0) (am_nxt_of (i := (1079, 1, .iconst 0, (0, 0, 0), 0)) (by decide +kernel)) rfl ?_
    refine am_e_callV (M' := am_m240) (o := 164) (ar := [.int 0, .int (xs (6 * j + 3)), .int (xs (6 * j + 2)), .int (xs (6 * j + 1))]) (rest := []) (L := lv_args 0 [.ref 164, .int (xs (6 * j + 1)), .int (xs (6 * j + 2)), .int (xs (6 * j + 3)), .int 0]) (am_nxt_of (i := (1080, 3, .invokevirtual 126, (240, 1991, 3), 0)) (by decide +kernel)) rfl rfl rfl rfl ac_o (ag_okC rfl (by decide) (by omega) (by omega)) rfl rfl ?_
    refine am_Ev_mono (ag_m_cheek hG1 hD1 (by decide) (by decide)) (fun r ks h2_z hq_z => ?_)
    obtain ⟨⟨rfl, hG2, ⟨xh2_z, rfl⟩, Fh2⟩, nh2_z, rnh2⟩ := hq_z
    have hD2 := rn_D rnh2
    show am_Ek false (am_P1 (some (L, xs)) lk) am_m254 668 [(4, .int i), (3, .ref 202), (2, .ref 164), (1, .ref 0), (0, .retAddr 0)] [.int xh2_z] am_ks0 _ nc ns Q
    refine am_e_pop (am_nxt_of (i := (1083, 1, .pop, (0, 0, 0), 0)) (by decide +kernel)) rfl ?_
    refine am_e_goto (am_cur_of (i := (1084, 3, .goto 228, (823, 0, 0), 0)) (by decide +kernel)) (am_tgt_of (by decide +kernel)) ?_
    exact K _ h2_z _ _ (by omega) (by omega) hG2 hD2 (X _ _ _ _ _ _ _ _ _ _ _ _ hR hG hG1 hG2 (by decide) (by decide) Fh1 Fh2 rnh1 rnh2)
  · refine am_e_ifF (am_nxt_of (i := (1035, 3, .ifCond .eq 7, (639, 0, 0), 0)) (by decide +kernel)) (am_c_eqF hz636_z) ?_
    refine am_e_iconst (w := 1) (am_nxt_of (i := (1038, 1, .iconst 1, (0, 0, 0), 0)) (by decide +kernel)) rfl ?_
    refine am_e_goto (am_cur_of (i := (1039, 3, .goto 4, (640, 0, 0), 0)) (by decide +kernel)) (am_tgt_of (by decide +kernel)) ?_
    refine am_e_callV (M' := am_m125) (o := 0) (ar := [.int 1, .int (xs (6 * j + 3)), .int (xs (6 * j + 2)), .int (xs (6 * j + 1))]) (rest := []) (L := lv_args 0 [.ref 0, .int (xs (6 * j + 1)), .int (xs (6 * j + 2)), .int (xs (6 * j + 3)), .int 1]) (am_nxt_of (i := (1043, 3, .invokevirtual 122, (125, 1185, 3), 0)) (by decide +kernel)) rfl rfl rfl rfl ac_o0 (ag_okC rfl (by decide) (by omega) (by omega)) rfl rfl ?_
    refine am_Ev_mono (ag_c_cheek hG hD (by decide) (by decide)) (fun r ks h1_z hq_z => ?_)
    obtain ⟨⟨rfl, hG1, ⟨xh1_z, rfl⟩, Fh1⟩, nh1_z, rnh1⟩ := hq_z
    have hD1 := rn_D rnh1
    show am_Ek false (am_P1 (some (L, xs)) lk) am_m254 641 [(4, .int i), (3, .ref 202), (2, .ref 164), (1, .ref 0), (0, .retAddr 0)] [.int xh1_z] am_ks0 _ nc ns Q
    refine am_e_pop (am_nxt_of (i := (1046, 1, .pop, (0, 0, 0), 0)) (by decide +kernel)) rfl ?_
    refine am_e_aload_n (am_nxt_of (i := (1047, 1, .aload_n 2, (0, 0, 0), 0)) (by decide +kernel)) rfl ?_
    refine am_e_sload_n (am_nxt_of (i := (1048, 1, .aload_n 0, (0, 0, 0), 0)) (by decide +kernel)) rfl ?_
    refine am_e_iload (am_nxt_of (i := (1049, 2, .iload 4, (0, 0, 0), 0)) (by decide +kernel)) rfl ?_
    refine am_e_iconst (w := 1) (am_nxt_of (i := (1051, 1, .iconst 1, (0, 0, 0), 0)) (by decide +kernel)) rfl ?_
    refine am_e_iadd (w := i + 1) (am_nxt_of (i := (1052, 1, .iadd, (0, 0, 0), 0)) (by decide +kernel)) rfl ?_
    refine am_e_sald (q := 6 * j + 1) (am_nxt_of (i := (1053, 1, .iaload, (0, 0, 0), 0)) (by decide +kernel)) rfl (ag_i (n := 1) hi_z (by decide) (by omega) hL).1 (ag_i (n := 1) hi_z (by decide) (by omega) hL).2 ?_
    refine am_e_sload_n (am_nxt_of (i := (1054, 1, .aload_n 0, (0, 0, 0), 0)) (by decide +kernel)) rfl ?_
    refine am_e_iload (am_nxt_of (i := (1055, 2, .iload 4, (0, 0, 0), 0)) (by decide +kernel)) rfl ?_
    refine am_e_iconst (w := 2) (am_nxt_of (i := (1057, 1, .iconst 2, (0, 0, 0), 0)) (by decide +kernel)) rfl ?_
    refine am_e_iadd (w := i + 2) (am_nxt_of (i := (1058, 1, .iadd, (0, 0, 0), 0)) (by decide +kernel)) rfl ?_
    refine am_e_sald (q := 6 * j + 2) (am_nxt_of (i := (1059, 1, .iaload, (0, 0, 0), 0)) (by decide +kernel)) rfl (ag_i (n := 2) hi_z (by decide) (by omega) hL).1 (ag_i (n := 2) hi_z (by decide) (by omega) hL).2 ?_
    refine am_e_sload_n (am_nxt_of (i := (1060, 1, .aload_n 0, (0, 0, 0), 0)) (by decide +kernel)) rfl ?_
    refine am_e_iload (am_nxt_of (i := (1061, 2, .iload 4, (0, 0, 0), 0)) (by decide +kernel)) rfl ?_
    refine am_e_iconst (w := 3) (am_nxt_of (i := (1063, 1, .iconst 3, (0, 0, 0), 0)) (by decide +kernel)) rfl ?_
    refine am_e_iadd (w := i + 3) (am_nxt_of (i := (1064, 1, .iadd, (0, 0, 0), 0)) (by decide +kernel)) rfl ?_
    refine am_e_sald (q := 6 * j + 3) (am_nxt_of (i := (1065, 1, .iaload, (0, 0, 0), 0)) (by decide +kernel)) rfl (ag_i (n := 3) hi_z (by decide) (by omega) hL).1 (ag_i (n := 3) hi_z (by decide) (by omega) hL).2 ?_
    refine am_e_sload_n (am_nxt_of (i := (1066, 1, .aload_n 0, (0, 0, 0), 0)) (by decide +kernel)) rfl ?_
    refine am_e_iload (am_nxt_of (i := (1067, 2, .iload 4, (0, 0, 0), 0)) (by decide +kernel)) rfl ?_
    refine am_e_iconst (w := 4) (am_nxt_of (i := (1069, 1, .iconst 4, (0, 0, 0), 0)) (by decide +kernel)) rfl ?_
    refine am_e_iadd (w := i + 4) (am_nxt_of (i := (1070, 1, .iadd, (0, 0, 0), 0)) (by decide +kernel)) rfl ?_
    refine am_e_sald (q := 6 * j + 4) (am_nxt_of (i := (1071, 1, .iaload, (0, 0, 0), 0)) (by decide +kernel)) rfl (ag_i (n := 4) hi_z (by decide) (by omega) hL).1 (ag_i (n := 4) hi_z (by decide) (by omega) hL).2 ?_
    have hz663_z := hz636_z
    refine am_e_ifF (am_nxt_of (i := (1072, 3, .ifCond .eq 7, (666, 0, 0), 0)) (by decide +kernel)) (am_c_eqF hz663_z) ?_
    refine am_e_iconst (w := 1) (am_nxt_of (i := (1075, 1, .iconst 1, (0, 0, 0), 0)) (by decide +kernel)) rfl ?_
    refine am_e_goto (am_cur_of (i := (1076, 3, .goto 4, (667, 0, 0), 0)) (by decide +kernel)) (am_tgt_of (by decide +kernel)) ?_
    refine am_e_callV (M' := am_m240) (o := 164) (ar := [.int 1, .int (xs (6 * j + 3)), .int (xs (6 * j + 2)), .int (xs (6 * j + 1))]) (rest := []) (L := lv_args 0 [.ref 164, .int (xs (6 * j + 1)), .int (xs (6 * j + 2)), .int (xs (6 * j + 3)), .int 1]) (am_nxt_of (i := (1080, 3, .invokevirtual 126, (240, 1991, 3), 0)) (by decide +kernel)) rfl rfl rfl rfl ac_o (ag_okC rfl (by decide) (by omega) (by omega)) rfl rfl ?_
    refine am_Ev_mono (ag_m_cheek hG1 hD1 (by decide) (by decide)) (fun r ks h2_z hq_z => ?_)
    obtain ⟨⟨rfl, hG2, ⟨xh2_z, rfl⟩, Fh2⟩, nh2_z, rnh2⟩ := hq_z
    have hD2 := rn_D rnh2
    show am_Ek false (am_P1 (some (L, xs)) lk) am_m254 668 [(4, .int i), (3, .ref 202), (2, .ref 164), (1, .ref 0), (0, .retAddr 0)] [.int xh2_z] am_ks0 _ nc ns Q
    refine am_e_pop (am_nxt_of (i := (1083, 1, .pop, (0, 0, 0), 0)) (by decide +kernel)) rfl ?_
    refine am_e_goto (am_cur_of (i := (1084, 3, .goto 228, (823, 0, 0), 0)) (by decide +kernel)) (am_tgt_of (by decide +kernel)) ?_
    exact K _ h2_z _ _ (by omega) (by omega) hG2 hD2 (X _ _ _ _ _ _ _ _ _ _ _ _ hR hG hG1 hG2 (by decide) (by decide) Fh1 Fh2 rnh1 rnh2)
theorem ag_case24 (hG : ag_G t h) (hD : rg_Gd h) (hR : Rel h) (hi_z : i.toInt = (6 * j : Nat)) (hb_z : 6 * j + 6 ≤ L) (hL : L ≤ 3072) (hc_z : nc ≤ 9000) (hs_z : ns ≤ 90000) (K : ag_K1 Rel lk L nc ns xs i Q) (X : ax_strike Rel) : am_Ek false (am_P1 (some (L, xs)) lk) am_m254 670 [(4, .int i), (3, .ref 202), (2, .ref 164), (1, .ref 0), (0, .retAddr 0)] [] am_ks0 h nc ns Q := by
  refine am_e_aload_n (am_nxt_of (i := (1087, 1, .aload_n 1, (0, 0, 0), 0)) (by decide +kernel)) rfl ?_
  refine am_e_sload_n (am_nxt_of (i := (1088, 1, .aload_n 0, (0, 0, 0), 0)) (by decide +kernel)) rfl ?_
  refine am_e_iload (am_nxt_of (i := (1089, 2, .iload 4, (0, 0, 0), 0)) (by decide +kernel)) rfl ?_
  refine am_e_iconst (w := 1) (am_nxt_of (i := (1091, 1, .iconst 1, (0, 0, 0), 0)) (by decide +kernel)) rfl ?_
  refine am_e_iadd (w := i + 1) (am_nxt_of (i := (1092, 1, .iadd, (0, 0, 0), 0)) (by decide +kernel)) rfl ?_
  refine am_e_sald (q := 6 * j + 1) (am_nxt_of (i := (1093, 1, .iaload, (0, 0, 0), 0)) (by decide +kernel)) rfl (ag_i (n := 1) hi_z (by decide) (by omega) hL).1 (ag_i (n := 1) hi_z (by decide) (by omega) hL).2 ?_
  refine am_e_callV (M' := am_m127) (o := 0) (ar := [.int (xs (6 * j + 1))]) (rest := []) (L := lv_args 0 [.ref 0, .int (xs (6 * j + 1))]) (am_nxt_of (i := (1094, 3, .invokevirtual 127, (127, 1193, 3), 0)) (by decide +kernel)) rfl rfl rfl rfl ac_o0 (ag_okC rfl (by decide) (by omega) (by omega)) rfl rfl ?_
  refine am_Ev_mono (ag_c_strike hG hD) (fun r ks h1_z hq_z => ?_)
  obtain ⟨⟨rfl, hG1, ⟨xh1_z, rfl⟩, Fh1⟩, nh1_z, rnh1⟩ := hq_z
  have hD1 := rn_D rnh1
  show am_Ek false (am_P1 (some (L, xs)) lk) am_m254 677 [(4, .int i), (3, .ref 202), (2, .ref 164), (1, .ref 0), (0, .retAddr 0)] [.int xh1_z] am_ks0 _ nc ns Q
  refine am_e_pop (am_nxt_of (i := (1097, 1, .pop, (0, 0, 0), 0)) (by decide +kernel)) rfl ?_
  refine am_e_aload_n (am_nxt_of (i := (1098, 1, .aload_n 2, (0, 0, 0), 0)) (by decide +kernel)) rfl ?_
  refine am_e_sload_n (am_nxt_of (i := (1099, 1, .aload_n 0, (0, 0, 0), 0)) (by decide +kernel)) rfl ?_
  refine am_e_iload (am_nxt_of (i := (1100, 2, .iload 4, (0, 0, 0), 0)) (by decide +kernel)) rfl ?_
  refine am_e_iconst (w := 1) (am_nxt_of (i := (1102, 1, .iconst 1, (0, 0, 0), 0)) (by decide +kernel)) rfl ?_
  refine am_e_iadd (w := i + 1) (am_nxt_of (i := (1103, 1, .iadd, (0, 0, 0), 0)) (by decide +kernel)) rfl ?_
  refine am_e_sald (q := 6 * j + 1) (am_nxt_of (i := (1104, 1, .iaload, (0, 0, 0), 0)) (by decide +kernel)) rfl (ag_i (n := 1) hi_z (by decide) (by omega) hL).1 (ag_i (n := 1) hi_z (by decide) (by omega) hL).2 ?_
  refine am_e_callV (M' := am_m242) (o := 164) (ar := [.int (xs (6 * j + 1))]) (rest := []) (L := lv_args 0 [.ref 164, .int (xs (6 * j + 1))]) (am_nxt_of (i := (1105, 3, .invokevirtual 130, (242, 1999, 3), 0)) (by decide +kernel)) rfl rfl rfl rfl ac_o (ag_okC rfl (by decide) (by omega) (by omega)) rfl rfl ?_
  refine am_Ev_mono (ag_m_strike hG1 hD1) (fun r ks h2_z hq_z => ?_)
  obtain ⟨⟨rfl, hG2, ⟨xh2_z, rfl⟩, Fh2⟩, nh2_z, rnh2⟩ := hq_z
  have hD2 := rn_D rnh2
  show am_Ek false (am_P1 (some (L, xs)) lk) am_m254 685 [(4, .int i), (3, .ref 202), (2, .ref 164), (1, .ref 0), (0, .retAddr 0)] [.int xh2_z] am_ks0 _ nc ns Q
  refine am_e_pop (am_nxt_of (i := (1108, 1, .pop, (0, 0, 0), 0)) (by decide +kernel)) rfl ?_
  refine am_e_goto (am_cur_of (i := (1109, 3, .goto 203, (823, 0, 0), 0)) (by decide +kernel)) (am_tgt_of (by decide +kernel)) ?_
  exact K _ h2_z _ _ (by omega) (by omega) hG2 hD2 (X _ _ _ _ _ _ _ _ _ hR hG hG1 hG2 Fh1 Fh2 rnh1 rnh2)
theorem ag_case25 (hG : ag_G t h) (hD : rg_Gd h) (hR : Rel h) (hi_z : i.toInt = (6 * j : Nat)) (hb_z : 6 * j + 6 ≤ L) (hL : L ≤ 3072) (hc_z : nc ≤ 9000) (hs_z : ns ≤ 90000) (K : ag_K1 Rel lk L nc ns xs i Q) (X : ax_known Rel) : am_Ek false (am_P1 (some (L, xs)) lk) am_m254 687 [(4, .int i), (3, .ref 202), (2, .ref 164), (1, .ref 0), (0, .retAddr 0)] [] am_ks0 h nc ns Q := by
  refine am_e_aload_n (am_nxt_of (i := (1112, 1, .aload_n 1, (0, 0, 0), 0)) (by decide +kernel)) rfl ?_
  refine am_e_sload_n (am_nxt_of (i := (1113, 1, .aload_n 0, (0, 0, 0), 0)) (by decide +kernel)) rfl ?_
  refine am_e_iload (am_nxt_of (i := (1114, 2, .iload 4, (0, 0, 0), 0)) (by decide +kernel)) rfl ?_
  refine am_e_iconst (w := 1) (am_nxt_of (i := (1116, 1, .iconst 1, (0, 0, 0), 0)) (by decide +kernel)) rfl ?_
  refine am_e_iadd (w := i + 1) (am_nxt_of (i := (1117, 1, .iadd, (0, 0, 0), 0)) (by decide +kernel)) rfl ?_
  refine am_e_sald (q := 6 * j + 1) (am_nxt_of (i := (1118, 1, .iaload, (0, 0, 0), 0)) (by decide +kernel)) rfl (ag_i (n := 1) hi_z (by decide) (by omega) hL).1 (ag_i (n := 1) hi_z (by decide) (by omega) hL).2 ?_
  refine am_e_callV (M' := am_m128) (o := 0) (ar := [.int (xs (6 * j + 1))]) (rest := []) (L := lv_args 0 [.ref 0, .int (xs (6 * j + 1))]) (am_nxt_of (i := (1119, 3, .invokevirtual 131, (128, 1197, 3), 0)) (by decide +kernel)) rfl rfl rfl rfl ac_o0 (ag_okC rfl (by decide) (by omega) (by omega)) rfl rfl ?_
  refine am_Ev_mono (ag_c_known hG hD) (fun r ks h1_z hq_z => ?_)
  obtain ⟨⟨rfl, hG1, ⟨xh1_z, rfl⟩, Fh1⟩, nh1_z, rnh1⟩ := hq_z
  have hD1 := rn_D rnh1
  show am_Ek false (am_P1 (some (L, xs)) lk) am_m254 694 [(4, .int i), (3, .ref 202), (2, .ref 164), (1, .ref 0), (0, .retAddr 0)] [.int xh1_z] am_ks0 _ nc ns Q
  refine am_e_pop (am_nxt_of (i := (1122, 1, .pop, (0, 0, 0), 0)) (by decide +kernel)) rfl ?_
  refine am_e_aload_n (am_nxt_of (i := (1123, 1, .aload_n 2, (0, 0, 0), 0)) (by decide +kernel)) rfl ?_
  refine am_e_sload_n (am_nxt_of (i := (1124, 1, .aload_n 0, (0, 0, 0), 0)) (by decide +kernel)) rfl ?_
  refine am_e_iload (am_nxt_of (i := (1125, 2, .iload 4, (0, 0, 0), 0)) (by decide +kernel)) rfl ?_
  refine am_e_iconst (w := 1) (am_nxt_of (i := (1127, 1, .iconst 1, (0, 0, 0), 0)) (by decide +kernel)) rfl ?_
  refine am_e_iadd (w := i + 1) (am_nxt_of (i := (1128, 1, .iadd, (0, 0, 0), 0)) (by decide +kernel)) rfl ?_
  refine am_e_sald (q := 6 * j + 1) (am_nxt_of (i := (1129, 1, .iaload, (0, 0, 0), 0)) (by decide +kernel)) rfl (ag_i (n := 1) hi_z (by decide) (by omega) hL).1 (ag_i (n := 1) hi_z (by decide) (by omega) hL).2 ?_
  refine am_e_callV (M' := am_m243) (o := 164) (ar := [.int (xs (6 * j + 1))]) (rest := []) (L := lv_args 0 [.ref 164, .int (xs (6 * j + 1))]) (am_nxt_of (i := (1130, 3, .invokevirtual 135, (243, 2003, 3), 0)) (by decide +kernel)) rfl rfl rfl rfl ac_o (ag_okC rfl (by decide) (by omega) (by omega)) rfl rfl ?_
  refine am_Ev_mono (ag_m_known hG1 hD1) (fun r ks h2_z hq_z => ?_)
  obtain ⟨⟨rfl, hG2, ⟨xh2_z, rfl⟩, Fh2⟩, nh2_z, rnh2⟩ := hq_z
  have hD2 := rn_D rnh2
  show am_Ek false (am_P1 (some (L, xs)) lk) am_m254 702 [(4, .int i), (3, .ref 202), (2, .ref 164), (1, .ref 0), (0, .retAddr 0)] [.int xh2_z] am_ks0 _ nc ns Q
  refine am_e_pop (am_nxt_of (i := (1133, 1, .pop, (0, 0, 0), 0)) (by decide +kernel)) rfl ?_
  refine am_e_goto (am_cur_of (i := (1134, 3, .goto 178, (823, 0, 0), 0)) (by decide +kernel)) (am_tgt_of (by decide +kernel)) ?_
  exact K _ h2_z _ _ (by omega) (by omega) hG2 hD2 (X _ _ _ _ _ _ _ _ _ hR hG hG1 hG2 Fh1 Fh2 rnh1 rnh2)
theorem ag_case26 (hG : ag_G t h) (hD : rg_Gd h) (hR : Rel h) (hi_z : i.toInt = (6 * j : Nat)) (hb_z : 6 * j + 6 ≤ L) (hL : L ≤ 3072) (hc_z : nc ≤ 9000) (hs_z : ns ≤ 90000) (K : ag_K1 Rel lk L nc ns xs i Q) (X : ax_fits Rel) : am_Ek false (am_P1 (some (L, xs)) lk) am_m254 704 [(4, .int i), (3, .ref 202), (2, .ref 164), (1, .ref 0), (0, .retAddr 0)] [] am_ks0 h nc ns Q := by
  refine am_e_aload_n (am_nxt_of (i := (1137, 1, .aload_n 1, (0, 0, 0), 0)) (by decide +kernel)) rfl ?_
  refine am_e_callV (M' := am_m129) (o := 0) (ar := []) (rest := []) (L := lv_args 0 [.ref 0]) (am_nxt_of (i := (1138, 3, .invokevirtual 136, (129, 1201, 3), 0)) (by decide +kernel)) rfl rfl rfl rfl ac_o0 (ag_okC rfl (by decide) (by omega) (by omega)) rfl rfl ?_
  refine am_Ev_mono (ag_c_fits hG hD) (fun r ks h1_z hq_z => ?_)
  obtain ⟨⟨rfl, hG1, ⟨xh1_z, rfl⟩, Fh1⟩, nh1_z, rnh1⟩ := hq_z
  have hD1 := rn_D rnh1
  show am_Ek false (am_P1 (some (L, xs)) lk) am_m254 706 [(4, .int i), (3, .ref 202), (2, .ref 164), (1, .ref 0), (0, .retAddr 0)] [.int xh1_z] am_ks0 _ nc ns Q
  refine am_e_pop (am_nxt_of (i := (1141, 1, .pop, (0, 0, 0), 0)) (by decide +kernel)) rfl ?_
  refine am_e_aload_n (am_nxt_of (i := (1142, 1, .aload_n 2, (0, 0, 0), 0)) (by decide +kernel)) rfl ?_
  refine am_e_callV (M' := am_m244) (o := 164) (ar := []) (rest := []) (L := lv_args 0 [.ref 164]) (am_nxt_of (i := (1143, 3, .invokevirtual 139, (244, 2007, 3), 0)) (by decide +kernel)) rfl rfl rfl rfl ac_o (ag_okC rfl (by decide) (by omega) (by omega)) rfl rfl ?_
  refine am_Ev_mono (ag_m_fits hG1 hD1) (fun r ks h2_z hq_z => ?_)
  obtain ⟨⟨rfl, hG2, ⟨xh2_z, rfl⟩, Fh2⟩, nh2_z, rnh2⟩ := hq_z
  have hD2 := rn_D rnh2
  show am_Ek false (am_P1 (some (L, xs)) lk) am_m254 709 [(4, .int i), (3, .ref 202), (2, .ref 164), (1, .ref 0), (0, .retAddr 0)] [.int xh2_z] am_ks0 _ nc ns Q
  refine am_e_pop (am_nxt_of (i := (1146, 1, .pop, (0, 0, 0), 0)) (by decide +kernel)) rfl ?_
  refine am_e_goto (am_cur_of (i := (1147, 3, .goto 165, (823, 0, 0), 0)) (by decide +kernel)) (am_tgt_of (by decide +kernel)) ?_
  exact K _ h2_z _ _ (by omega) (by omega) hG2 hD2 (X _ _ _ _ _ _ _ _ hR hG hG1 hG2 Fh1 Fh2 rnh1 rnh2)
theorem ag_case27 (hG : ag_G t h) (hD : rg_Gd h) (hR : Rel h) (hi_z : i.toInt = (6 * j : Nat)) (hb_z : 6 * j + 6 ≤ L) (hL : L ≤ 3072) (hc_z : nc ≤ 9000) (hs_z : ns ≤ 90000) (K : ag_K1 Rel lk L nc ns xs i Q) (X : ax_chance Rel) : am_Ek false (am_P1 (some (L, xs)) lk) am_m254 711 [(4, .int i), (3, .ref 202), (2, .ref 164), (1, .ref 0), (0, .retAddr 0)] [] am_ks0 h nc ns Q := by
  refine am_e_aload_n (am_nxt_of (i := (1150, 1, .aload_n 1, (0, 0, 0), 0)) (by decide +kernel)) rfl ?_
  refine am_e_sload_n (am_nxt_of (i := (1151, 1, .aload_n 0, (0, 0, 0), 0)) (by decide +kernel)) rfl ?_
  refine am_e_iload (am_nxt_of (i := (1152, 2, .iload 4, (0, 0, 0), 0)) (by decide +kernel)) rfl ?_
  refine am_e_iconst (w := 1) (am_nxt_of (i := (1154, 1, .iconst 1, (0, 0, 0), 0)) (by decide +kernel)) rfl ?_
  refine am_e_iadd (w := i + 1) (am_nxt_of (i := (1155, 1, .iadd, (0, 0, 0), 0)) (by decide +kernel)) rfl ?_
  refine am_e_sald (q := 6 * j + 1) (am_nxt_of (i := (1156, 1, .iaload, (0, 0, 0), 0)) (by decide +kernel)) rfl (ag_i (n := 1) hi_z (by decide) (by omega) hL).1 (ag_i (n := 1) hi_z (by decide) (by omega) hL).2 ?_
  refine am_e_sload_n (am_nxt_of (i := (1157, 1, .aload_n 0, (0, 0, 0), 0)) (by decide +kernel)) rfl ?_
  refine am_e_iload (am_nxt_of (i := (1158, 2, .iload 4, (0, 0, 0), 0)) (by decide +kernel)) rfl ?_
  refine am_e_iconst (w := 2) (am_nxt_of (i := (1160, 1, .iconst 2, (0, 0, 0), 0)) (by decide +kernel)) rfl ?_
  refine am_e_iadd (w := i + 2) (am_nxt_of (i := (1161, 1, .iadd, (0, 0, 0), 0)) (by decide +kernel)) rfl ?_
  refine am_e_sald (q := 6 * j + 2) (am_nxt_of (i := (1162, 1, .iaload, (0, 0, 0), 0)) (by decide +kernel)) rfl (ag_i (n := 2) hi_z (by decide) (by omega) hL).1 (ag_i (n := 2) hi_z (by decide) (by omega) hL).2 ?_
  refine am_e_sload_n (am_nxt_of (i := (1163, 1, .aload_n 0, (0, 0, 0), 0)) (by decide +kernel)) rfl ?_
  refine am_e_iload (am_nxt_of (i := (1164, 2, .iload 4, (0, 0, 0), 0)) (by decide +kernel)) rfl ?_
  refine am_e_iconst (w := 3) (am_nxt_of (i := (1166, 1, .iconst 3, (0, 0, 0), 0)) (by decide +kernel)) rfl ?_
  refine am_e_iadd (w := i + 3) (am_nxt_of (i := (1167, 1, .iadd, (0, 0, 0), 0)) (by decide +kernel)) rfl ?_
  refine am_e_sald (q := 6 * j + 3) (am_nxt_of (i := (1168, 1, .iaload, (0, 0, 0), 0)) (by decide +kernel)) rfl (ag_i (n := 3) hi_z (by decide) (by omega) hL).1 (ag_i (n := 3) hi_z (by decide) (by omega) hL).2 ?_
  refine am_e_callV (M' := am_m135) (o := 0) (ar := [.int (xs (6 * j + 3)), .int (xs (6 * j + 2)), .int (xs (6 * j + 1))]) (rest := []) (L := lv_args 0 [.ref 0, .int (xs (6 * j + 1)), .int (xs (6 * j + 2)), .int (xs (6 * j + 3))]) (am_nxt_of (i := (1169, 3, .invokevirtual 140, (135, 1226, 3), 0)) (by decide +kernel)) rfl rfl rfl rfl ac_o0 (ag_okC rfl (by decide) (by omega) (by omega)) rfl rfl ?_
  refine am_Ev_mono (ag_c_chance hG hD) (fun r ks h1_z hq_z => ?_)
  obtain ⟨⟨rfl, hG1, ⟨xh1_z, rfl⟩, Fh1⟩, nh1_z, rnh1⟩ := hq_z
  have hD1 := rn_D rnh1
  show am_Ek false (am_P1 (some (L, xs)) lk) am_m254 728 [(4, .int i), (3, .ref 202), (2, .ref 164), (1, .ref 0), (0, .retAddr 0)] [.int xh1_z] am_ks0 _ nc ns Q
  refine am_e_pop (am_nxt_of (i := (1172, 1, .pop, (0, 0, 0), 0)) (by decide +kernel)) rfl ?_
  refine am_e_aload_n (am_nxt_of (i := (1173, 1, .aload_n 2, (0, 0, 0), 0)) (by decide +kernel)) rfl ?_
  refine am_e_sload_n (am_nxt_of (i := (1174, 1, .aload_n 0, (0, 0, 0), 0)) (by decide +kernel)) rfl ?_
  refine am_e_iload (am_nxt_of (i := (1175, 2, .iload 4, (0, 0, 0), 0)) (by decide +kernel)) rfl ?_
  refine am_e_iconst (w := 1) (am_nxt_of (i := (1177, 1, .iconst 1, (0, 0, 0), 0)) (by decide +kernel)) rfl ?_
  refine am_e_iadd (w := i + 1) (am_nxt_of (i := (1178, 1, .iadd, (0, 0, 0), 0)) (by decide +kernel)) rfl ?_
  refine am_e_sald (q := 6 * j + 1) (am_nxt_of (i := (1179, 1, .iaload, (0, 0, 0), 0)) (by decide +kernel)) rfl (ag_i (n := 1) hi_z (by decide) (by omega) hL).1 (ag_i (n := 1) hi_z (by decide) (by omega) hL).2 ?_
  refine am_e_sload_n (am_nxt_of (i := (1180, 1, .aload_n 0, (0, 0, 0), 0)) (by decide +kernel)) rfl ?_
  refine am_e_iload (am_nxt_of (i := (1181, 2, .iload 4, (0, 0, 0), 0)) (by decide +kernel)) rfl ?_
  refine am_e_iconst (w := 2) (am_nxt_of (i := (1183, 1, .iconst 2, (0, 0, 0), 0)) (by decide +kernel)) rfl ?_
  refine am_e_iadd (w := i + 2) (am_nxt_of (i := (1184, 1, .iadd, (0, 0, 0), 0)) (by decide +kernel)) rfl ?_
  refine am_e_sald (q := 6 * j + 2) (am_nxt_of (i := (1185, 1, .iaload, (0, 0, 0), 0)) (by decide +kernel)) rfl (ag_i (n := 2) hi_z (by decide) (by omega) hL).1 (ag_i (n := 2) hi_z (by decide) (by omega) hL).2 ?_
  refine am_e_sload_n (am_nxt_of (i := (1186, 1, .aload_n 0, (0, 0, 0), 0)) (by decide +kernel)) rfl ?_
  refine am_e_iload (am_nxt_of (i := (1187, 2, .iload 4, (0, 0, 0), 0)) (by decide +kernel)) rfl ?_
  refine am_e_iconst (w := 3) (am_nxt_of (i := (1189, 1, .iconst 3, (0, 0, 0), 0)) (by decide +kernel)) rfl ?_
  refine am_e_iadd (w := i + 3) (am_nxt_of (i := (1190, 1, .iadd, (0, 0, 0), 0)) (by decide +kernel)) rfl ?_
  refine am_e_sald (q := 6 * j + 3) (am_nxt_of (i := (1191, 1, .iaload, (0, 0, 0), 0)) (by decide +kernel)) rfl (ag_i (n := 3) hi_z (by decide) (by omega) hL).1 (ag_i (n := 3) hi_z (by decide) (by omega) hL).2 ?_
  refine am_e_callV (M' := am_m247) (o := 164) (ar := [.int (xs (6 * j + 3)), .int (xs (6 * j + 2)), .int (xs (6 * j + 1))]) (rest := []) (L := lv_args 0 [.ref 164, .int (xs (6 * j + 1)), .int (xs (6 * j + 2)), .int (xs (6 * j + 3))]) (am_nxt_of (i := (1192, 3, .invokevirtual 143, (247, 2019, 3), 0)) (by decide +kernel)) rfl rfl rfl rfl ac_o (ag_okC rfl (by decide) (by omega) (by omega)) rfl rfl ?_
  refine am_Ev_mono (ag_m_chance hG1 hD1) (fun r ks h2_z hq_z => ?_)
  obtain ⟨⟨rfl, hG2, ⟨xh2_z, rfl⟩, Fh2⟩, nh2_z, rnh2⟩ := hq_z
  have hD2 := rn_D rnh2
  show am_Ek false (am_P1 (some (L, xs)) lk) am_m254 746 [(4, .int i), (3, .ref 202), (2, .ref 164), (1, .ref 0), (0, .retAddr 0)] [.int xh2_z] am_ks0 _ nc ns Q
  refine am_e_pop (am_nxt_of (i := (1195, 1, .pop, (0, 0, 0), 0)) (by decide +kernel)) rfl ?_
  refine am_e_goto (am_cur_of (i := (1196, 3, .goto 116, (823, 0, 0), 0)) (by decide +kernel)) (am_tgt_of (by decide +kernel)) ?_
  exact K _ h2_z _ _ (by omega) (by omega) hG2 hD2 (X _ _ _ _ _ _ _ _ _ _ _ hR hG hG1 hG2 Fh1 Fh2 rnh1 rnh2)
theorem ag_case28 (hG : ag_G t h) (hD : rg_Gd h) (hR : Rel h) (hi_z : i.toInt = (6 * j : Nat)) (hb_z : 6 * j + 6 ≤ L) (hL : L ≤ 3072) (hc_z : nc ≤ 9000) (hs_z : ns ≤ 90000) (K : ag_K1 Rel lk L nc ns xs i Q) (X : ax_tried Rel) : am_Ek false (am_P1 (some (L, xs)) lk) am_m254 748 [(4, .int i), (3, .ref 202), (2, .ref 164), (1, .ref 0), (0, .retAddr 0)] [] am_ks0 h nc ns Q := by
  refine am_e_aload_n (am_nxt_of (i := (1199, 1, .aload_n 1, (0, 0, 0), 0)) (by decide +kernel)) rfl ?_
  refine am_e_sload_n (am_nxt_of (i := (1200, 1, .aload_n 0, (0, 0, 0), 0)) (by decide +kernel)) rfl ?_
  refine am_e_iload (am_nxt_of (i := (1201, 2, .iload 4, (0, 0, 0), 0)) (by decide +kernel)) rfl ?_
  refine am_e_iconst (w := 1) (am_nxt_of (i := (1203, 1, .iconst 1, (0, 0, 0), 0)) (by decide +kernel)) rfl ?_
  refine am_e_iadd (w := i + 1) (am_nxt_of (i := (1204, 1, .iadd, (0, 0, 0), 0)) (by decide +kernel)) rfl ?_
  refine am_e_sald (q := 6 * j + 1) (am_nxt_of (i := (1205, 1, .iaload, (0, 0, 0), 0)) (by decide +kernel)) rfl (ag_i (n := 1) hi_z (by decide) (by omega) hL).1 (ag_i (n := 1) hi_z (by decide) (by omega) hL).2 ?_
  refine am_e_sload_n (am_nxt_of (i := (1206, 1, .aload_n 0, (0, 0, 0), 0)) (by decide +kernel)) rfl ?_
  refine am_e_iload (am_nxt_of (i := (1207, 2, .iload 4, (0, 0, 0), 0)) (by decide +kernel)) rfl ?_
  refine am_e_iconst (w := 2) (am_nxt_of (i := (1209, 1, .iconst 2, (0, 0, 0), 0)) (by decide +kernel)) rfl ?_
  refine am_e_iadd (w := i + 2) (am_nxt_of (i := (1210, 1, .iadd, (0, 0, 0), 0)) (by decide +kernel)) rfl ?_
  refine am_e_sald (q := 6 * j + 2) (am_nxt_of (i := (1211, 1, .iaload, (0, 0, 0), 0)) (by decide +kernel)) rfl (ag_i (n := 2) hi_z (by decide) (by omega) hL).1 (ag_i (n := 2) hi_z (by decide) (by omega) hL).2 ?_
  refine am_e_sload_n (am_nxt_of (i := (1212, 1, .aload_n 0, (0, 0, 0), 0)) (by decide +kernel)) rfl ?_
  refine am_e_iload (am_nxt_of (i := (1213, 2, .iload 4, (0, 0, 0), 0)) (by decide +kernel)) rfl ?_
  refine am_e_iconst (w := 3) (am_nxt_of (i := (1215, 1, .iconst 3, (0, 0, 0), 0)) (by decide +kernel)) rfl ?_
  refine am_e_iadd (w := i + 3) (am_nxt_of (i := (1216, 1, .iadd, (0, 0, 0), 0)) (by decide +kernel)) rfl ?_
  refine am_e_sald (q := 6 * j + 3) (am_nxt_of (i := (1217, 1, .iaload, (0, 0, 0), 0)) (by decide +kernel)) rfl (ag_i (n := 3) hi_z (by decide) (by omega) hL).1 (ag_i (n := 3) hi_z (by decide) (by omega) hL).2 ?_
  refine am_e_callV (M' := am_m136) (o := 0) (ar := [.int (xs (6 * j + 3)), .int (xs (6 * j + 2)), .int (xs (6 * j + 1))]) (rest := []) (L := lv_args 0 [.ref 0, .int (xs (6 * j + 1)), .int (xs (6 * j + 2)), .int (xs (6 * j + 3))]) (am_nxt_of (i := (1218, 3, .invokevirtual 144, (136, 1232, 3), 0)) (by decide +kernel)) rfl rfl rfl rfl ac_o0 (ag_okC rfl (by decide) (by omega) (by omega)) rfl rfl ?_
  refine am_Ev_mono (ag_c_tried hG hD) (fun r ks h1_z hq_z => ?_)
  obtain ⟨⟨rfl, hG1, ⟨xh1_z, rfl⟩, Fh1⟩, nh1_z, rnh1⟩ := hq_z
  have hD1 := rn_D rnh1
  show am_Ek false (am_P1 (some (L, xs)) lk) am_m254 765 [(4, .int i), (3, .ref 202), (2, .ref 164), (1, .ref 0), (0, .retAddr 0)] [.int xh1_z] am_ks0 _ nc ns Q
  refine am_e_pop (am_nxt_of (i := (1221, 1, .pop, (0, 0, 0), 0)) (by decide +kernel)) rfl ?_
  refine am_e_aload_n (am_nxt_of (i := (1222, 1, .aload_n 2, (0, 0, 0), 0)) (by decide +kernel)) rfl ?_
  refine am_e_sload_n (am_nxt_of (i := (1223, 1, .aload_n 0, (0, 0, 0), 0)) (by decide +kernel)) rfl ?_
  refine am_e_iload (am_nxt_of (i := (1224, 2, .iload 4, (0, 0, 0), 0)) (by decide +kernel)) rfl ?_
  refine am_e_iconst (w := 1) (am_nxt_of (i := (1226, 1, .iconst 1, (0, 0, 0), 0)) (by decide +kernel)) rfl ?_
  refine am_e_iadd (w := i + 1) (am_nxt_of (i := (1227, 1, .iadd, (0, 0, 0), 0)) (by decide +kernel)) rfl ?_
  refine am_e_sald (q := 6 * j + 1) (am_nxt_of (i := (1228, 1, .iaload, (0, 0, 0), 0)) (by decide +kernel)) rfl (ag_i (n := 1) hi_z (by decide) (by omega) hL).1 (ag_i (n := 1) hi_z (by decide) (by omega) hL).2 ?_
  refine am_e_sload_n (am_nxt_of (i := (1229, 1, .aload_n 0, (0, 0, 0), 0)) (by decide +kernel)) rfl ?_
  refine am_e_iload (am_nxt_of (i := (1230, 2, .iload 4, (0, 0, 0), 0)) (by decide +kernel)) rfl ?_
  refine am_e_iconst (w := 2) (am_nxt_of (i := (1232, 1, .iconst 2, (0, 0, 0), 0)) (by decide +kernel)) rfl ?_
  refine am_e_iadd (w := i + 2) (am_nxt_of (i := (1233, 1, .iadd, (0, 0, 0), 0)) (by decide +kernel)) rfl ?_
  refine am_e_sald (q := 6 * j + 2) (am_nxt_of (i := (1234, 1, .iaload, (0, 0, 0), 0)) (by decide +kernel)) rfl (ag_i (n := 2) hi_z (by decide) (by omega) hL).1 (ag_i (n := 2) hi_z (by decide) (by omega) hL).2 ?_
  refine am_e_sload_n (am_nxt_of (i := (1235, 1, .aload_n 0, (0, 0, 0), 0)) (by decide +kernel)) rfl ?_
  refine am_e_iload (am_nxt_of (i := (1236, 2, .iload 4, (0, 0, 0), 0)) (by decide +kernel)) rfl ?_
  refine am_e_iconst (w := 3) (am_nxt_of (i := (1238, 1, .iconst 3, (0, 0, 0), 0)) (by decide +kernel)) rfl ?_
  refine am_e_iadd (w := i + 3) (am_nxt_of (i := (1239, 1, .iadd, (0, 0, 0), 0)) (by decide +kernel)) rfl ?_
  refine am_e_sald (q := 6 * j + 3) (am_nxt_of (i := (1240, 1, .iaload, (0, 0, 0), 0)) (by decide +kernel)) rfl (ag_i (n := 3) hi_z (by decide) (by omega) hL).1 (ag_i (n := 3) hi_z (by decide) (by omega) hL).2 ?_
  refine am_e_callV (M' := am_m248) (o := 164) (ar := [.int (xs (6 * j + 3)), .int (xs (6 * j + 2)), .int (xs (6 * j + 1))]) (rest := []) (L := lv_args 0 [.ref 164, .int (xs (6 * j + 1)), .int (xs (6 * j + 2)), .int (xs (6 * j + 3))]) (am_nxt_of (i := (1241, 3, .invokevirtual 147, (248, 2023, 3), 0)) (by decide +kernel)) rfl rfl rfl rfl ac_o (ag_okC rfl (by decide) (by omega) (by omega)) rfl rfl ?_
  refine am_Ev_mono (ag_m_tried hG1 hD1) (fun r ks h2_z hq_z => ?_)
  obtain ⟨⟨rfl, hG2, ⟨xh2_z, rfl⟩, Fh2⟩, nh2_z, rnh2⟩ := hq_z
  have hD2 := rn_D rnh2
  show am_Ek false (am_P1 (some (L, xs)) lk) am_m254 783 [(4, .int i), (3, .ref 202), (2, .ref 164), (1, .ref 0), (0, .retAddr 0)] [.int xh2_z] am_ks0 _ nc ns Q
  refine am_e_pop (am_nxt_of (i := (1244, 1, .pop, (0, 0, 0), 0)) (by decide +kernel)) rfl ?_
  refine am_e_goto (am_cur_of (i := (1245, 3, .goto 67, (823, 0, 0), 0)) (by decide +kernel)) (am_tgt_of (by decide +kernel)) ?_
  exact K _ h2_z _ _ (by omega) (by omega) hG2 hD2 (X _ _ _ _ _ _ _ _ _ _ _ hR hG hG1 hG2 Fh1 Fh2 rnh1 rnh2)
theorem ag_case29 (hG : ag_G t h) (hD : rg_Gd h) (hR : Rel h) (hi_z : i.toInt = (6 * j : Nat)) (hb_z : 6 * j + 6 ≤ L) (hL : L ≤ 3072) (hc_z : nc ≤ 9000) (hs_z : ns ≤ 90000) (K : ag_K1 Rel lk L nc ns xs i Q) (X : ax_undo Rel) (Y : ay_undo Rel) : am_Ek false (am_P1 (some (L, xs)) lk) am_m254 785 [(4, .int i), (3, .ref 202), (2, .ref 164), (1, .ref 0), (0, .retAddr 0)] [] am_ks0 h nc ns Q := by
  refine am_e_aload_n (am_nxt_of (i := (1248, 1, .aload_n 1, (0, 0, 0), 0)) (by decide +kernel)) rfl ?_
  refine am_e_callV (M' := am_m137) (o := 0) (ar := []) (rest := []) (L := lv_args 0 [.ref 0]) (am_nxt_of (i := (1249, 3, .invokevirtual 148, (137, 1236, 3), 0)) (by decide +kernel)) rfl rfl rfl rfl ac_o0 (ag_okC rfl (by decide) (by omega) (by omega)) rfl rfl ?_
  refine am_Ev_mono (ag_c_undo hG hD) (fun r ks h1_z hq_z => ?_)
  obtain ⟨⟨rfl, hG1, ⟨xh1_z, rfl⟩, Fh1⟩, nh1_z, rnh1⟩ := hq_z
  have hD1 := rn_D rnh1
  show am_Ek false (am_P1 (some (L, xs)) lk) am_m254 787 [(4, .int i), (3, .ref 202), (2, .ref 164), (1, .ref 0), (0, .retAddr 0)] [.int xh1_z] am_ks0 _ nc ns Q
  refine am_e_aload_n (am_nxt_of (i := (1252, 1, .aload_n 2, (0, 0, 0), 0)) (by decide +kernel)) rfl ?_
  refine am_e_callV (M' := am_m249) (o := 164) (ar := []) (rest := [.int xh1_z]) (L := lv_args 0 [.ref 164]) (am_nxt_of (i := (1253, 3, .invokevirtual 151, (249, 2027, 3), 0)) (by decide +kernel)) rfl rfl rfl rfl ac_o (ag_okC rfl (by decide) (by omega) (by omega)) rfl rfl ?_
  refine am_Ev_mono (ag_m_undo hG1 hD1) (fun r ks h2_z hq_z => ?_)
  obtain ⟨⟨rfl, hG2, ⟨xh2_z, rfl⟩, Fh2⟩, nh2_z, rnh2⟩ := hq_z
  have hD2 := rn_D rnh2
  show am_Ek false (am_P1 (some (L, xs)) lk) am_m254 789 [(4, .int i), (3, .ref 202), (2, .ref 164), (1, .ref 0), (0, .retAddr 0)] [.int xh2_z, .int xh1_z] am_ks0 _ nc ns Q
  have hY := Y _ _ _ _ _ _ _ _ hR hG hG1 hG2 Fh1 Fh2 rnh1 rnh2
  obtain rfl : xh1_z = xh2_z := by cases hY; rfl
  refine am_e_cmpT (am_nxt_of (i := (1256, 3, .if_icmp .eq 56, (823, 0, 0), 0)) (by decide +kernel)) (am_c_eqT rfl) (am_tgt_of (by decide +kernel)) ?_
  exact K _ h2_z _ _ (by omega) (by omega) hG2 hD2 (X _ _ _ _ _ _ _ _ hR hG hG1 hG2 Fh1 Fh2 rnh1 rnh2)
theorem ag_case30 (hG : ag_G t h) (hD : rg_Gd h) (hR : Rel h) (hi_z : i.toInt = (6 * j : Nat)) (hb_z : 6 * j + 6 ≤ L) (hL : L ≤ 3072) (hc_z : nc ≤ 9000) (hs_z : ns ≤ 90000) (K : ag_K1 Rel lk L nc ns xs i Q) (X : ax_keep Rel) : am_Ek false (am_P1 (some (L, xs)) lk) am_m254 792 [(4, .int i), (3, .ref 202), (2, .ref 164), (1, .ref 0), (0, .retAddr 0)] [] am_ks0 h nc ns Q := by
  refine am_e_aload_n (am_nxt_of (i := (1261, 1, .aload_n 1, (0, 0, 0), 0)) (by decide +kernel)) rfl ?_
  refine am_e_callV (M' := am_m139) (o := 0) (ar := []) (rest := []) (L := lv_args 0 [.ref 0]) (am_nxt_of (i := (1262, 3, .invokevirtual 152, (139, 1244, 3), 0)) (by decide +kernel)) rfl rfl rfl rfl ac_o0 (ag_okC rfl (by decide) (by omega) (by omega)) rfl rfl ?_
  refine am_Ev_mono (ag_c_keep hG hD) (fun r ks h1_z hq_z => ?_)
  obtain ⟨⟨rfl, hG1, ⟨xh1_z, rfl⟩, Fh1⟩, nh1_z, rnh1⟩ := hq_z
  have hD1 := rn_D rnh1
  show am_Ek false (am_P1 (some (L, xs)) lk) am_m254 794 [(4, .int i), (3, .ref 202), (2, .ref 164), (1, .ref 0), (0, .retAddr 0)] [.int xh1_z] am_ks0 _ nc ns Q
  refine am_e_pop (am_nxt_of (i := (1265, 1, .pop, (0, 0, 0), 0)) (by decide +kernel)) rfl ?_
  refine am_e_aload_n (am_nxt_of (i := (1266, 1, .aload_n 2, (0, 0, 0), 0)) (by decide +kernel)) rfl ?_
  refine am_e_callV (M' := am_m251) (o := 164) (ar := []) (rest := []) (L := lv_args 0 [.ref 164]) (am_nxt_of (i := (1267, 3, .invokevirtual 155, (251, 2035, 3), 0)) (by decide +kernel)) rfl rfl rfl rfl ac_o (ag_okC rfl (by decide) (by omega) (by omega)) rfl rfl ?_
  refine am_Ev_mono (ag_m_keep hG1 hD1) (fun r ks h2_z hq_z => ?_)
  obtain ⟨⟨rfl, hG2, ⟨xh2_z, rfl⟩, Fh2⟩, nh2_z, rnh2⟩ := hq_z
  have hD2 := rn_D rnh2
  show am_Ek false (am_P1 (some (L, xs)) lk) am_m254 797 [(4, .int i), (3, .ref 202), (2, .ref 164), (1, .ref 0), (0, .retAddr 0)] [.int xh2_z] am_ks0 _ nc ns Q
  refine am_e_pop (am_nxt_of (i := (1270, 1, .pop, (0, 0, 0), 0)) (by decide +kernel)) rfl ?_
  refine am_e_goto (am_cur_of (i := (1271, 3, .goto 41, (823, 0, 0), 0)) (by decide +kernel)) (am_tgt_of (by decide +kernel)) ?_
  exact K _ h2_z _ _ (by omega) (by omega) hG2 hD2 (X _ _ _ _ _ _ _ _ hR hG hG1 hG2 Fh1 Fh2 rnh1 rnh2)
theorem ag_case31 (hG : ag_G t h) (hD : rg_Gd h) (hR : Rel h) (hi_z : i.toInt = (6 * j : Nat)) (hb_z : 6 * j + 6 ≤ L) (hL : L ≤ 3072) (hc_z : nc ≤ 9000) (hs_z : ns ≤ 90000) (K : ag_K1 Rel lk L nc ns xs i Q) (X : ax_back Rel) : am_Ek false (am_P1 (some (L, xs)) lk) am_m254 799 [(4, .int i), (3, .ref 202), (2, .ref 164), (1, .ref 0), (0, .retAddr 0)] [] am_ks0 h nc ns Q := by
  refine am_e_aload_n (am_nxt_of (i := (1274, 1, .aload_n 1, (0, 0, 0), 0)) (by decide +kernel)) rfl ?_
  refine am_e_callV (M' := am_m140) (o := 0) (ar := []) (rest := []) (L := lv_args 0 [.ref 0]) (am_nxt_of (i := (1275, 3, .invokevirtual 156, (140, 1248, 3), 0)) (by decide +kernel)) rfl rfl rfl rfl ac_o0 (ag_okC rfl (by decide) (by omega) (by omega)) rfl rfl ?_
  refine am_Ev_mono (ag_c_back hG hD) (fun r ks h1_z hq_z => ?_)
  obtain ⟨⟨rfl, hG1, ⟨xh1_z, rfl⟩, Fh1⟩, nh1_z, rnh1⟩ := hq_z
  have hD1 := rn_D rnh1
  show am_Ek false (am_P1 (some (L, xs)) lk) am_m254 801 [(4, .int i), (3, .ref 202), (2, .ref 164), (1, .ref 0), (0, .retAddr 0)] [.int xh1_z] am_ks0 _ nc ns Q
  refine am_e_pop (am_nxt_of (i := (1278, 1, .pop, (0, 0, 0), 0)) (by decide +kernel)) rfl ?_
  refine am_e_aload_n (am_nxt_of (i := (1279, 1, .aload_n 2, (0, 0, 0), 0)) (by decide +kernel)) rfl ?_
  refine am_e_callV (M' := am_m252) (o := 164) (ar := []) (rest := []) (L := lv_args 0 [.ref 164]) (am_nxt_of (i := (1280, 3, .invokevirtual 159, (252, 2039, 3), 0)) (by decide +kernel)) rfl rfl rfl rfl ac_o (ag_okC rfl (by decide) (by omega) (by omega)) rfl rfl ?_
  refine am_Ev_mono (ag_m_back hG1 hD1) (fun r ks h2_z hq_z => ?_)
  obtain ⟨⟨rfl, hG2, ⟨xh2_z, rfl⟩, Fh2⟩, nh2_z, rnh2⟩ := hq_z
  have hD2 := rn_D rnh2
  show am_Ek false (am_P1 (some (L, xs)) lk) am_m254 804 [(4, .int i), (3, .ref 202), (2, .ref 164), (1, .ref 0), (0, .retAddr 0)] [.int xh2_z] am_ks0 _ nc ns Q
  refine am_e_pop (am_nxt_of (i := (1283, 1, .pop, (0, 0, 0), 0)) (by decide +kernel)) rfl ?_
  refine am_e_goto (am_cur_of (i := (1284, 3, .goto 28, (823, 0, 0), 0)) (by decide +kernel)) (am_tgt_of (by decide +kernel)) ?_
  exact K _ h2_z _ _ (by omega) (by omega) hG2 hD2 (X _ _ _ _ _ _ _ _ hR hG hG1 hG2 Fh1 Fh2 rnh1 rnh2)
theorem ag_case32 (hG : ag_G t h) (hD : rg_Gd h) (hR : Rel h) (hi_z : i.toInt = (6 * j : Nat)) (hb_z : 6 * j + 6 ≤ L) (hL : L ≤ 3072) (hc_z : nc ≤ 9000) (hs_z : ns ≤ 90000) (K : ag_K1 Rel lk L nc ns xs i Q) (X : ax_count Rel) : am_Ek false (am_P1 (some (L, xs)) lk) am_m254 806 [(4, .int i), (3, .ref 202), (2, .ref 164), (1, .ref 0), (0, .retAddr 0)] [] am_ks0 h nc ns Q := by
  refine am_e_aload_n (am_nxt_of (i := (1287, 1, .aload_n 1, (0, 0, 0), 0)) (by decide +kernel)) rfl ?_
  refine am_e_sload_n (am_nxt_of (i := (1288, 1, .aload_n 0, (0, 0, 0), 0)) (by decide +kernel)) rfl ?_
  refine am_e_iload (am_nxt_of (i := (1289, 2, .iload 4, (0, 0, 0), 0)) (by decide +kernel)) rfl ?_
  refine am_e_iconst (w := 1) (am_nxt_of (i := (1291, 1, .iconst 1, (0, 0, 0), 0)) (by decide +kernel)) rfl ?_
  refine am_e_iadd (w := i + 1) (am_nxt_of (i := (1292, 1, .iadd, (0, 0, 0), 0)) (by decide +kernel)) rfl ?_
  refine am_e_sald (q := 6 * j + 1) (am_nxt_of (i := (1293, 1, .iaload, (0, 0, 0), 0)) (by decide +kernel)) rfl (ag_i (n := 1) hi_z (by decide) (by omega) hL).1 (ag_i (n := 1) hi_z (by decide) (by omega) hL).2 ?_
  refine am_e_callV (M' := am_m141) (o := 0) (ar := [.int (xs (6 * j + 1))]) (rest := []) (L := lv_args 0 [.ref 0, .int (xs (6 * j + 1))]) (am_nxt_of (i := (1294, 3, .invokevirtual 160, (141, 1252, 3), 0)) (by decide +kernel)) rfl rfl rfl rfl ac_o0 (ag_okC rfl (by decide) (by omega) (by omega)) rfl rfl ?_
  refine am_Ev_mono (ag_c_count hG hD) (fun r ks h1_z hq_z => ?_)
  obtain ⟨⟨rfl, hG1, ⟨xh1_z, rfl⟩, Fh1⟩, nh1_z, rnh1⟩ := hq_z
  have hD1 := rn_D rnh1
  show am_Ek false (am_P1 (some (L, xs)) lk) am_m254 813 [(4, .int i), (3, .ref 202), (2, .ref 164), (1, .ref 0), (0, .retAddr 0)] [.int xh1_z] am_ks0 _ nc ns Q
  refine am_e_pop (am_nxt_of (i := (1297, 1, .pop, (0, 0, 0), 0)) (by decide +kernel)) rfl ?_
  refine am_e_aload_n (am_nxt_of (i := (1298, 1, .aload_n 2, (0, 0, 0), 0)) (by decide +kernel)) rfl ?_
  refine am_e_sload_n (am_nxt_of (i := (1299, 1, .aload_n 0, (0, 0, 0), 0)) (by decide +kernel)) rfl ?_
  refine am_e_iload (am_nxt_of (i := (1300, 2, .iload 4, (0, 0, 0), 0)) (by decide +kernel)) rfl ?_
  refine am_e_iconst (w := 1) (am_nxt_of (i := (1302, 1, .iconst 1, (0, 0, 0), 0)) (by decide +kernel)) rfl ?_
  refine am_e_iadd (w := i + 1) (am_nxt_of (i := (1303, 1, .iadd, (0, 0, 0), 0)) (by decide +kernel)) rfl ?_
  refine am_e_sald (q := 6 * j + 1) (am_nxt_of (i := (1304, 1, .iaload, (0, 0, 0), 0)) (by decide +kernel)) rfl (ag_i (n := 1) hi_z (by decide) (by omega) hL).1 (ag_i (n := 1) hi_z (by decide) (by omega) hL).2 ?_
  refine am_e_callV (M' := am_m253) (o := 164) (ar := [.int (xs (6 * j + 1))]) (rest := []) (L := lv_args 0 [.ref 164, .int (xs (6 * j + 1))]) (am_nxt_of (i := (1305, 3, .invokevirtual 163, (253, 2043, 3), 0)) (by decide +kernel)) rfl rfl rfl rfl ac_o (ag_okC rfl (by decide) (by omega) (by omega)) rfl rfl ?_
  refine am_Ev_mono (ag_m_count hG1 hD1) (fun r ks h2_z hq_z => ?_)
  obtain ⟨⟨rfl, hG2, ⟨xh2_z, rfl⟩, Fh2⟩, nh2_z, rnh2⟩ := hq_z
  have hD2 := rn_D rnh2
  show am_Ek false (am_P1 (some (L, xs)) lk) am_m254 821 [(4, .int i), (3, .ref 202), (2, .ref 164), (1, .ref 0), (0, .retAddr 0)] [.int xh2_z] am_ks0 _ nc ns Q
  refine am_e_pop (am_nxt_of (i := (1308, 1, .pop, (0, 0, 0), 0)) (by decide +kernel)) rfl ?_
  refine am_e_goto (am_cur_of (i := (1309, 3, .goto 3, (823, 0, 0), 0)) (by decide +kernel)) (am_tgt_of (by decide +kernel)) ?_
  exact K _ h2_z _ _ (by omega) (by omega) hG2 hD2 (X _ _ _ _ _ _ _ _ _ hR hG hG1 hG2 Fh1 Fh2 rnh1 rnh2)
end AGL
theorem ag_loop {Rel : am_H → Prop} (X : ax_All Rel) (Y : ay_undo Rel) {lk : List Value → List am_k → am_H → Option am_O} (hlk : ag_LK lk) {L : Nat} (hL : L ≤ 3072) {xs : Nat → Int32} : ∀ (d j nc ns : Nat) (i t : Int32) (h : am_H), 513 - j ≤ d → j ≤ 512 → i.toInt = (6 * j : Nat) → nc ≤ 203 + 4 * j → ns ≤ 4392 + 40 * j → ag_G t h → rg_Gd h → Rel h → am_Ek false (am_P1 (some (L, xs)) lk) am_m254 13 [(4, .int i), (3, .ref 202), (2, .ref 164), (1, .ref 0), (0, .retAddr 0)] [] am_ks0 h nc ns (fun v _ _ => v = some (.int 1)) := by
  have z6_z : (6 : Int32).toInt = 6 := by decide
  intro d
  induction d with
  | zero =>
    intro j nc ns i t h hd_z hj_z
    omega
  | succ d ih_z =>
    intro j nc ns i t h hd_z hj_z hi_z hc_z hs_z hG hD hR
    have eL : (Int32.ofNat L).toInt = L := by
      rw [Int32.toInt_ofNat_of_lt]
      omega
    have e6_z : (Int32.ofNat L - 6).toInt = L - 6 := by rw [ab_isub (by omega) (by omega)]; omega
    refine am_e_iload (am_nxt_of (i := (23, 2, .iload 4, (0, 0, 0), 0)) (by decide +kernel)) rfl ?_
    refine am_e_sload_n (am_nxt_of (i := (25, 1, .aload_n 0, (0, 0, 0), 0)) (by decide +kernel)) rfl ?_
    refine am_e_slen (w := Int32.ofNat L) (am_nxt_of (i := (26, 1, .arraylength, (0, 0, 0), 0)) (by decide +kernel)) rfl rfl ?_
    refine am_e_bipush (w := 6) (am_nxt_of (i := (27, 2, .bipush 6, (0, 0, 0), 0)) (by decide +kernel)) (by decide) ?_
    refine am_e_isub (w := Int32.ofNat L - 6) (am_nxt_of (i := (29, 1, .isub, (0, 0, 0), 0)) (by decide +kernel)) rfl ?_
    by_cases hgt : (Int32.ofNat L - 6 : Int32) < i
    · refine am_e_cmpT (am_nxt_of (i := (30, 3, .if_icmp .gt 1288, (825, 0, 0), 0)) (by decide +kernel)) (am_c_gtT hgt) (am_tgt_of (by decide +kernel)) ?_
      refine am_e_iconst (w := 1) (am_nxt_of (i := (1318, 1, .iconst 1, (0, 0, 0), 0)) (by decide +kernel)) rfl ?_
      refine am_e_iret (ty := .boolean) (am_cur_of (i := (1319, 1, .ireturn, (0, 0, 0), 0)) (by decide +kernel)) rfl rfl ?_ rfl
      rw [Bool.and_eq_true]
      exact ⟨Nat.ble_eq_true_of_le (show _ ≤ 601024 by omega), Nat.ble_eq_true_of_le (show _ ≤ 7293034 by omega)⟩
    · have hle := ac_nlt' hgt
      have hb_z : 6 * j + 6 ≤ L := by omega
      refine am_e_cmpF (am_nxt_of (i := (30, 3, .if_icmp .gt 1288, (825, 0, 0), 0)) (by decide +kernel)) (am_c_gtF hgt) ?_
      have K : ag_K1 Rel lk L nc ns xs i (fun v _ _ => v = some (.int 1)) := by
        intro t' h' nc' ns' c1_z c2_z hG' hD' hR'
        have ei : (i + Int32.ofInt 6).toInt = (6 * (j + 1) : Nat) := by
          rw [ab_iadd (by rw [show (Int32.ofInt 6).toInt = 6 by decide]; omega) (by rw [show (Int32.ofInt 6).toInt = 6 by decide]; omega), show (Int32.ofInt 6).toInt = 6 by decide]
          omega
        refine am_e_iinc (w := i + Int32.ofInt 6) (ls' := [(4, .int (i + Int32.ofInt 6)), (3, .ref 202), (2, .ref 164), (1, .ref 0), (0, .retAddr 0)]) (am_nxt_of (i := (1312, 3, .iinc 4 6, (0, 0, 0), 0)) (by decide +kernel)) rfl rfl rfl rfl ?_
        refine am_e_goto (am_cur_of (i := (1315, 3, .goto (-1292), (13, 0, 0), 0)) (by decide +kernel)) (am_tgt_of (by decide +kernel)) ?_
        exact ih_z (j + 1) nc' ns' _ t' h' (by omega) (by omega) ei (by omega) (by omega) hG' hD' hR'
      refine am_e_sload_n (am_nxt_of (i := (33, 1, .aload_n 0, (0, 0, 0), 0)) (by decide +kernel)) rfl ?_
      refine am_e_iload (am_nxt_of (i := (34, 2, .iload 4, (0, 0, 0), 0)) (by decide +kernel)) rfl ?_
      refine am_e_sald (q := 6 * j) (am_nxt_of (i := (36, 1, .iaload, (0, 0, 0), 0)) (by decide +kernel)) rfl (ab_ix (by omega) (by omega)) (ab_clamp hi_z) ?_
      refine am_e_bipush (w := 63) (am_nxt_of (i := (37, 2, .bipush 63, (0, 0, 0), 0)) (by decide +kernel)) (by decide) ?_
      refine am_e_iand (w := xs (6 * j) &&& 63) (am_nxt_of (i := (39, 1, .iand, (0, 0, 0), 0)) (by decide +kernel)) rfl ?_
      generalize xs (6 * j) &&& 63 = w
      have hw_z : w.toInt = 0 ∨ w.toInt = 1 ∨ w.toInt = 2 ∨ w.toInt = 3 ∨ w.toInt = 4 ∨ w.toInt = 5 ∨ w.toInt = 6 ∨ w.toInt = 7 ∨ w.toInt = 8 ∨ w.toInt = 9 ∨ w.toInt = 10 ∨ w.toInt = 11 ∨ w.toInt = 12 ∨ w.toInt = 13 ∨ w.toInt = 14 ∨ w.toInt = 15 ∨ w.toInt = 16 ∨ w.toInt = 17 ∨ w.toInt = 18 ∨ w.toInt = 19 ∨ w.toInt = 20 ∨ w.toInt = 21 ∨ w.toInt = 22 ∨ w.toInt = 23 ∨ w.toInt = 24 ∨ w.toInt = 25 ∨ w.toInt = 26 ∨ w.toInt = 27 ∨ w.toInt = 28 ∨ w.toInt = 29 ∨ w.toInt = 30 ∨ w.toInt = 31 ∨ w.toInt = 32 ∨ (w.toInt < 0 ∨ 32 < w.toInt) := by omega
      rcases hw_z with e | e | e | e | e | e | e | e | e | e | e | e | e | e | e | e | e | e | e | e | e | e | e | e | e | e | e | e | e | e | e | e | e | e
      · exact am_e_swI (a := 25) (off := 148) (am_cur_of (i := (40, 148, .tableswitch 1272 0 32 #[148, 221, 246, 271, 308, 348, 385, 422, 475, 500, 525, 538, 563, 600, 637, 674, 723, 784, 833, 870, 907, 932, 957, 970, 1047, 1072, 1097, 1110, 1159, 1208, 1221, 1234, 1247], (0, 0, 0), 0)) (by decide +kernel)) (by omega) (by rw [e]; rfl) (by decide +kernel) (ag_case0 hG hD hR hi_z hb_z hL (by omega) (by omega) K X.1)
      · exact am_e_swI (a := 82) (off := 221) (am_cur_of (i := (40, 148, .tableswitch 1272 0 32 #[148, 221, 246, 271, 308, 348, 385, 422, 475, 500, 525, 538, 563, 600, 637, 674, 723, 784, 833, 870, 907, 932, 957, 970, 1047, 1072, 1097, 1110, 1159, 1208, 1221, 1234, 1247], (0, 0, 0), 0)) (by decide +kernel)) (by omega) (by rw [e]; rfl) (by decide +kernel) (ag_case1 hG hD hR hi_z hb_z hL (by omega) (by omega) K X.2.1)
      · exact am_e_swI (a := 99) (off := 246) (am_cur_of (i := (40, 148, .tableswitch 1272 0 32 #[148, 221, 246, 271, 308, 348, 385, 422, 475, 500, 525, 538, 563, 600, 637, 674, 723, 784, 833, 870, 907, 932, 957, 970, 1047, 1072, 1097, 1110, 1159, 1208, 1221, 1234, 1247], (0, 0, 0), 0)) (by decide +kernel)) (by omega) (by rw [e]; rfl) (by decide +kernel) (ag_case2 hG hD hR hi_z hb_z hL (by omega) (by omega) K X.2.2.1)
      · exact am_e_swI (a := 116) (off := 271) (am_cur_of (i := (40, 148, .tableswitch 1272 0 32 #[148, 221, 246, 271, 308, 348, 385, 422, 475, 500, 525, 538, 563, 600, 637, 674, 723, 784, 833, 870, 907, 932, 957, 970, 1047, 1072, 1097, 1110, 1159, 1208, 1221, 1234, 1247], (0, 0, 0), 0)) (by decide +kernel)) (by omega) (by rw [e]; rfl) (by decide +kernel) (ag_case3 hG hD hR hi_z hb_z hL (by omega) (by omega) K X.2.2.2.1)
      · exact am_e_swI (a := 143) (off := 308) (am_cur_of (i := (40, 148, .tableswitch 1272 0 32 #[148, 221, 246, 271, 308, 348, 385, 422, 475, 500, 525, 538, 563, 600, 637, 674, 723, 784, 833, 870, 907, 932, 957, 970, 1047, 1072, 1097, 1110, 1159, 1208, 1221, 1234, 1247], (0, 0, 0), 0)) (by decide +kernel)) (by omega) (by rw [e]; rfl) (by decide +kernel) (ag_case4 hG hD hR hi_z hb_z hL (by omega) (by omega) K hlk X.2.2.2.2.1)
      · exact am_e_swI (a := 171) (off := 348) (am_cur_of (i := (40, 148, .tableswitch 1272 0 32 #[148, 221, 246, 271, 308, 348, 385, 422, 475, 500, 525, 538, 563, 600, 637, 674, 723, 784, 833, 870, 907, 932, 957, 970, 1047, 1072, 1097, 1110, 1159, 1208, 1221, 1234, 1247], (0, 0, 0), 0)) (by decide +kernel)) (by omega) (by rw [e]; rfl) (by decide +kernel) (ag_case5 hG hD hR hi_z hb_z hL (by omega) (by omega) K X.2.2.2.2.2.1)
      · exact am_e_swI (a := 198) (off := 385) (am_cur_of (i := (40, 148, .tableswitch 1272 0 32 #[148, 221, 246, 271, 308, 348, 385, 422, 475, 500, 525, 538, 563, 600, 637, 674, 723, 784, 833, 870, 907, 932, 957, 970, 1047, 1072, 1097, 1110, 1159, 1208, 1221, 1234, 1247], (0, 0, 0), 0)) (by decide +kernel)) (by omega) (by rw [e]; rfl) (by decide +kernel) (ag_case6 hG hD hR hi_z hb_z hL (by omega) (by omega) K X.2.2.2.2.2.2.1)
      · exact am_e_swI (a := 225) (off := 422) (am_cur_of (i := (40, 148, .tableswitch 1272 0 32 #[148, 221, 246, 271, 308, 348, 385, 422, 475, 500, 525, 538, 563, 600, 637, 674, 723, 784, 833, 870, 907, 932, 957, 970, 1047, 1072, 1097, 1110, 1159, 1208, 1221, 1234, 1247], (0, 0, 0), 0)) (by decide +kernel)) (by omega) (by rw [e]; rfl) (by decide +kernel) (ag_case7 hG hD hR hi_z hb_z hL (by omega) (by omega) K X.2.2.2.2.2.2.2.1)
      · exact am_e_swI (a := 260) (off := 475) (am_cur_of (i := (40, 148, .tableswitch 1272 0 32 #[148, 221, 246, 271, 308, 348, 385, 422, 475, 500, 525, 538, 563, 600, 637, 674, 723, 784, 833, 870, 907, 932, 957, 970, 1047, 1072, 1097, 1110, 1159, 1208, 1221, 1234, 1247], (0, 0, 0), 0)) (by decide +kernel)) (by omega) (by rw [e]; rfl) (by decide +kernel) (ag_case8 hG hD hR hi_z hb_z hL (by omega) (by omega) K X.2.2.2.2.2.2.2.2.1)
      · exact am_e_swI (a := 277) (off := 500) (am_cur_of (i := (40, 148, .tableswitch 1272 0 32 #[148, 221, 246, 271, 308, 348, 385, 422, 475, 500, 525, 538, 563, 600, 637, 674, 723, 784, 833, 870, 907, 932, 957, 970, 1047, 1072, 1097, 1110, 1159, 1208, 1221, 1234, 1247], (0, 0, 0), 0)) (by decide +kernel)) (by omega) (by rw [e]; rfl) (by decide +kernel) (ag_case9 hG hD hR hi_z hb_z hL (by omega) (by omega) K X.2.2.2.2.2.2.2.2.2.1)
      · exact am_e_swI (a := 294) (off := 525) (am_cur_of (i := (40, 148, .tableswitch 1272 0 32 #[148, 221, 246, 271, 308, 348, 385, 422, 475, 500, 525, 538, 563, 600, 637, 674, 723, 784, 833, 870, 907, 932, 957, 970, 1047, 1072, 1097, 1110, 1159, 1208, 1221, 1234, 1247], (0, 0, 0), 0)) (by decide +kernel)) (by omega) (by rw [e]; rfl) (by decide +kernel) (ag_case10 hG hD hR hi_z hb_z hL (by omega) (by omega) K X.2.2.2.2.2.2.2.2.2.2.1)
      · exact am_e_swI (a := 301) (off := 538) (am_cur_of (i := (40, 148, .tableswitch 1272 0 32 #[148, 221, 246, 271, 308, 348, 385, 422, 475, 500, 525, 538, 563, 600, 637, 674, 723, 784, 833, 870, 907, 932, 957, 970, 1047, 1072, 1097, 1110, 1159, 1208, 1221, 1234, 1247], (0, 0, 0), 0)) (by decide +kernel)) (by omega) (by rw [e]; rfl) (by decide +kernel) (ag_case11 hG hD hR hi_z hb_z hL (by omega) (by omega) K X.2.2.2.2.2.2.2.2.2.2.2.1)
      · exact am_e_swI (a := 318) (off := 563) (am_cur_of (i := (40, 148, .tableswitch 1272 0 32 #[148, 221, 246, 271, 308, 348, 385, 422, 475, 500, 525, 538, 563, 600, 637, 674, 723, 784, 833, 870, 907, 932, 957, 970, 1047, 1072, 1097, 1110, 1159, 1208, 1221, 1234, 1247], (0, 0, 0), 0)) (by decide +kernel)) (by omega) (by rw [e]; rfl) (by decide +kernel) (ag_case12 hG hD hR hi_z hb_z hL (by omega) (by omega) K X.2.2.2.2.2.2.2.2.2.2.2.2.1)
      · exact am_e_swI (a := 345) (off := 600) (am_cur_of (i := (40, 148, .tableswitch 1272 0 32 #[148, 221, 246, 271, 308, 348, 385, 422, 475, 500, 525, 538, 563, 600, 637, 674, 723, 784, 833, 870, 907, 932, 957, 970, 1047, 1072, 1097, 1110, 1159, 1208, 1221, 1234, 1247], (0, 0, 0), 0)) (by decide +kernel)) (by omega) (by rw [e]; rfl) (by decide +kernel) (ag_case13 hG hD hR hi_z hb_z hL (by omega) (by omega) K X.2.2.2.2.2.2.2.2.2.2.2.2.2.1)
      · exact am_e_swI (a := 372) (off := 637) (am_cur_of (i := (40, 148, .tableswitch 1272 0 32 #[148, 221, 246, 271, 308, 348, 385, 422, 475, 500, 525, 538, 563, 600, 637, 674, 723, 784, 833, 870, 907, 932, 957, 970, 1047, 1072, 1097, 1110, 1159, 1208, 1221, 1234, 1247], (0, 0, 0), 0)) (by decide +kernel)) (by omega) (by rw [e]; rfl) (by decide +kernel) (ag_case14 hG hD hR hi_z hb_z hL (by omega) (by omega) K X.2.2.2.2.2.2.2.2.2.2.2.2.2.2.1)
      · exact am_e_swI (a := 399) (off := 674) (am_cur_of (i := (40, 148, .tableswitch 1272 0 32 #[148, 221, 246, 271, 308, 348, 385, 422, 475, 500, 525, 538, 563, 600, 637, 674, 723, 784, 833, 870, 907, 932, 957, 970, 1047, 1072, 1097, 1110, 1159, 1208, 1221, 1234, 1247], (0, 0, 0), 0)) (by decide +kernel)) (by omega) (by rw [e]; rfl) (by decide +kernel) (ag_case15 hG hD hR hi_z hb_z hL (by omega) (by omega) K X.2.2.2.2.2.2.2.2.2.2.2.2.2.2.2.1)
      · exact am_e_swI (a := 436) (off := 723) (am_cur_of (i := (40, 148, .tableswitch 1272 0 32 #[148, 221, 246, 271, 308, 348, 385, 422, 475, 500, 525, 538, 563, 600, 637, 674, 723, 784, 833, 870, 907, 932, 957, 970, 1047, 1072, 1097, 1110, 1159, 1208, 1221, 1234, 1247], (0, 0, 0), 0)) (by decide +kernel)) (by omega) (by rw [e]; rfl) (by decide +kernel) (ag_case16 hG hD hR hi_z hb_z hL (by omega) (by omega) K X.2.2.2.2.2.2.2.2.2.2.2.2.2.2.2.2.1)
      · exact am_e_swI (a := 483) (off := 784) (am_cur_of (i := (40, 148, .tableswitch 1272 0 32 #[148, 221, 246, 271, 308, 348, 385, 422, 475, 500, 525, 538, 563, 600, 637, 674, 723, 784, 833, 870, 907, 932, 957, 970, 1047, 1072, 1097, 1110, 1159, 1208, 1221, 1234, 1247], (0, 0, 0), 0)) (by decide +kernel)) (by omega) (by rw [e]; rfl) (by decide +kernel) (ag_case17 hG hD hR hi_z hb_z hL (by omega) (by omega) K X.2.2.2.2.2.2.2.2.2.2.2.2.2.2.2.2.2.1)
      · exact am_e_swI (a := 520) (off := 833) (am_cur_of (i := (40, 148, .tableswitch 1272 0 32 #[148, 221, 246, 271, 308, 348, 385, 422, 475, 500, 525, 538, 563, 600, 637, 674, 723, 784, 833, 870, 907, 932, 957, 970, 1047, 1072, 1097, 1110, 1159, 1208, 1221, 1234, 1247], (0, 0, 0), 0)) (by decide +kernel)) (by omega) (by rw [e]; rfl) (by decide +kernel) (ag_case18 hG hD hR hi_z hb_z hL (by omega) (by omega) K X.2.2.2.2.2.2.2.2.2.2.2.2.2.2.2.2.2.2.1)
      · exact am_e_swI (a := 547) (off := 870) (am_cur_of (i := (40, 148, .tableswitch 1272 0 32 #[148, 221, 246, 271, 308, 348, 385, 422, 475, 500, 525, 538, 563, 600, 637, 674, 723, 784, 833, 870, 907, 932, 957, 970, 1047, 1072, 1097, 1110, 1159, 1208, 1221, 1234, 1247], (0, 0, 0), 0)) (by decide +kernel)) (by omega) (by rw [e]; rfl) (by decide +kernel) (ag_case19 hG hD hR hi_z hb_z hL (by omega) (by omega) K X.2.2.2.2.2.2.2.2.2.2.2.2.2.2.2.2.2.2.2.1)
      · exact am_e_swI (a := 574) (off := 907) (am_cur_of (i := (40, 148, .tableswitch 1272 0 32 #[148, 221, 246, 271, 308, 348, 385, 422, 475, 500, 525, 538, 563, 600, 637, 674, 723, 784, 833, 870, 907, 932, 957, 970, 1047, 1072, 1097, 1110, 1159, 1208, 1221, 1234, 1247], (0, 0, 0), 0)) (by decide +kernel)) (by omega) (by rw [e]; rfl) (by decide +kernel) (ag_case20 hG hD hR hi_z hb_z hL (by omega) (by omega) K X.2.2.2.2.2.2.2.2.2.2.2.2.2.2.2.2.2.2.2.2.1)
      · exact am_e_swI (a := 591) (off := 932) (am_cur_of (i := (40, 148, .tableswitch 1272 0 32 #[148, 221, 246, 271, 308, 348, 385, 422, 475, 500, 525, 538, 563, 600, 637, 674, 723, 784, 833, 870, 907, 932, 957, 970, 1047, 1072, 1097, 1110, 1159, 1208, 1221, 1234, 1247], (0, 0, 0), 0)) (by decide +kernel)) (by omega) (by rw [e]; rfl) (by decide +kernel) (ag_case21 hG hD hR hi_z hb_z hL (by omega) (by omega) K X.2.2.2.2.2.2.2.2.2.2.2.2.2.2.2.2.2.2.2.2.2.1)
      · exact am_e_swI (a := 608) (off := 957) (am_cur_of (i := (40, 148, .tableswitch 1272 0 32 #[148, 221, 246, 271, 308, 348, 385, 422, 475, 500, 525, 538, 563, 600, 637, 674, 723, 784, 833, 870, 907, 932, 957, 970, 1047, 1072, 1097, 1110, 1159, 1208, 1221, 1234, 1247], (0, 0, 0), 0)) (by decide +kernel)) (by omega) (by rw [e]; rfl) (by decide +kernel) (ag_case22 hG hD hR hi_z hb_z hL (by omega) (by omega) K X.2.2.2.2.2.2.2.2.2.2.2.2.2.2.2.2.2.2.2.2.2.2.1)
      · exact am_e_swI (a := 615) (off := 970) (am_cur_of (i := (40, 148, .tableswitch 1272 0 32 #[148, 221, 246, 271, 308, 348, 385, 422, 475, 500, 525, 538, 563, 600, 637, 674, 723, 784, 833, 870, 907, 932, 957, 970, 1047, 1072, 1097, 1110, 1159, 1208, 1221, 1234, 1247], (0, 0, 0), 0)) (by decide +kernel)) (by omega) (by rw [e]; rfl) (by decide +kernel) (ag_case23 hG hD hR hi_z hb_z hL (by omega) (by omega) K X.2.2.2.2.2.2.2.2.2.2.2.2.2.2.2.2.2.2.2.2.2.2.2.1)
      · exact am_e_swI (a := 670) (off := 1047) (am_cur_of (i := (40, 148, .tableswitch 1272 0 32 #[148, 221, 246, 271, 308, 348, 385, 422, 475, 500, 525, 538, 563, 600, 637, 674, 723, 784, 833, 870, 907, 932, 957, 970, 1047, 1072, 1097, 1110, 1159, 1208, 1221, 1234, 1247], (0, 0, 0), 0)) (by decide +kernel)) (by omega) (by rw [e]; rfl) (by decide +kernel) (ag_case24 hG hD hR hi_z hb_z hL (by omega) (by omega) K X.2.2.2.2.2.2.2.2.2.2.2.2.2.2.2.2.2.2.2.2.2.2.2.2.1)
      · exact am_e_swI (a := 687) (off := 1072) (am_cur_of (i := (40, 148, .tableswitch 1272 0 32 #[148, 221, 246, 271, 308, 348, 385, 422, 475, 500, 525, 538, 563, 600, 637, 674, 723, 784, 833, 870, 907, 932, 957, 970, 1047, 1072, 1097, 1110, 1159, 1208, 1221, 1234, 1247], (0, 0, 0), 0)) (by decide +kernel)) (by omega) (by rw [e]; rfl) (by decide +kernel) (ag_case25 hG hD hR hi_z hb_z hL (by omega) (by omega) K X.2.2.2.2.2.2.2.2.2.2.2.2.2.2.2.2.2.2.2.2.2.2.2.2.2.1)
      · exact am_e_swI (a := 704) (off := 1097) (am_cur_of (i := (40, 148, .tableswitch 1272 0 32 #[148, 221, 246, 271, 308, 348, 385, 422, 475, 500, 525, 538, 563, 600, 637, 674, 723, 784, 833, 870, 907, 932, 957, 970, 1047, 1072, 1097, 1110, 1159, 1208, 1221, 1234, 1247], (0, 0, 0), 0)) (by decide +kernel)) (by omega) (by rw [e]; rfl) (by decide +kernel) (ag_case26 hG hD hR hi_z hb_z hL (by omega) (by omega) K X.2.2.2.2.2.2.2.2.2.2.2.2.2.2.2.2.2.2.2.2.2.2.2.2.2.2.1)
      · exact am_e_swI (a := 711) (off := 1110) (am_cur_of (i := (40, 148, .tableswitch 1272 0 32 #[148, 221, 246, 271, 308, 348, 385, 422, 475, 500, 525, 538, 563, 600, 637, 674, 723, 784, 833, 870, 907, 932, 957, 970, 1047, 1072, 1097, 1110, 1159, 1208, 1221, 1234, 1247], (0, 0, 0), 0)) (by decide +kernel)) (by omega) (by rw [e]; rfl) (by decide +kernel) (ag_case27 hG hD hR hi_z hb_z hL (by omega) (by omega) K X.2.2.2.2.2.2.2.2.2.2.2.2.2.2.2.2.2.2.2.2.2.2.2.2.2.2.2.1)
      · exact am_e_swI (a := 748) (off := 1159) (am_cur_of (i := (40, 148, .tableswitch 1272 0 32 #[148, 221, 246, 271, 308, 348, 385, 422, 475, 500, 525, 538, 563, 600, 637, 674, 723, 784, 833, 870, 907, 932, 957, 970, 1047, 1072, 1097, 1110, 1159, 1208, 1221, 1234, 1247], (0, 0, 0), 0)) (by decide +kernel)) (by omega) (by rw [e]; rfl) (by decide +kernel) (ag_case28 hG hD hR hi_z hb_z hL (by omega) (by omega) K X.2.2.2.2.2.2.2.2.2.2.2.2.2.2.2.2.2.2.2.2.2.2.2.2.2.2.2.2.1)
      · exact am_e_swI (a := 785) (off := 1208) (am_cur_of (i := (40, 148, .tableswitch 1272 0 32 #[148, 221, 246, 271, 308, 348, 385, 422, 475, 500, 525, 538, 563, 600, 637, 674, 723, 784, 833, 870, 907, 932, 957, 970, 1047, 1072, 1097, 1110, 1159, 1208, 1221, 1234, 1247], (0, 0, 0), 0)) (by decide +kernel)) (by omega) (by rw [e]; rfl) (by decide +kernel) (ag_case29 hG hD hR hi_z hb_z hL (by omega) (by omega) K X.2.2.2.2.2.2.2.2.2.2.2.2.2.2.2.2.2.2.2.2.2.2.2.2.2.2.2.2.2.1 Y)
      · exact am_e_swI (a := 792) (off := 1221) (am_cur_of (i := (40, 148, .tableswitch 1272 0 32 #[148, 221, 246, 271, 308, 348, 385, 422, 475, 500, 525, 538, 563, 600, 637, 674, 723, 784, 833, 870, 907, 932, 957, 970, 1047, 1072, 1097, 1110, 1159, 1208, 1221, 1234, 1247], (0, 0, 0), 0)) (by decide +kernel)) (by omega) (by rw [e]; rfl) (by decide +kernel) (ag_case30 hG hD hR hi_z hb_z hL (by omega) (by omega) K X.2.2.2.2.2.2.2.2.2.2.2.2.2.2.2.2.2.2.2.2.2.2.2.2.2.2.2.2.2.2.1)
      · exact am_e_swI (a := 799) (off := 1234) (am_cur_of (i := (40, 148, .tableswitch 1272 0 32 #[148, 221, 246, 271, 308, 348, 385, 422, 475, 500, 525, 538, 563, 600, 637, 674, 723, 784, 833, 870, 907, 932, 957, 970, 1047, 1072, 1097, 1110, 1159, 1208, 1221, 1234, 1247], (0, 0, 0), 0)) (by decide +kernel)) (by omega) (by rw [e]; rfl) (by decide +kernel) (ag_case31 hG hD hR hi_z hb_z hL (by omega) (by omega) K X.2.2.2.2.2.2.2.2.2.2.2.2.2.2.2.2.2.2.2.2.2.2.2.2.2.2.2.2.2.2.2.1)
      · exact am_e_swI (a := 806) (off := 1247) (am_cur_of (i := (40, 148, .tableswitch 1272 0 32 #[148, 221, 246, 271, 308, 348, 385, 422, 475, 500, 525, 538, 563, 600, 637, 674, 723, 784, 833, 870, 907, 932, 957, 970, 1047, 1072, 1097, 1110, 1159, 1208, 1221, 1234, 1247], (0, 0, 0), 0)) (by decide +kernel)) (by omega) (by rw [e]; rfl) (by decide +kernel) (ag_case32 hG hD hR hi_z hb_z hL (by omega) (by omega) K X.2.2.2.2.2.2.2.2.2.2.2.2.2.2.2.2.2.2.2.2.2.2.2.2.2.2.2.2.2.2.2.2)
      · exact am_e_swO (a := 823) (am_cur_of (i := (40, 148, .tableswitch 1272 0 32 #[148, 221, 246, 271, 308, 348, 385, 422, 475, 500, 525, 538, 563, 600, 637, 674, 723, 784, 833, 870, 907, 932, 957, 970, 1047, 1072, 1097, 1110, 1159, 1208, 1221, 1234, 1247], (0, 0, 0), 0)) (by decide +kernel)) e (by decide +kernel) (K t h _ _ (by omega) (by omega) hG hD hR)
