/-! ===== THE MODEL'S lineRead (wip/s/gen99f.py) ===== -/
abbrev ac_lrM : List (Nat × Nat) := [(164, 5), (164, 6), (164, 8), (164, 9), (164, 10), (164, 11), (164, 12), (164, 18), (164, 19), (164, 20), (164, 21), (164, 22), (164, 42), (164, 43), (164, 44), (164, 45), (164, 46), (164, 47), (167, 0), (168, 0), (169, 0), (170, 0), (171, 0), (172, 0), (173, 0), (174, 0), (175, 0), (176, 0), (177, 0), (178, 0), (179, 0), (180, 0), (181, 0), (182, 0), (183, 0), (184, 0), (185, 0)]
/-- the contracts that a line rests on -/
def ac_LC (J : am_H → Prop) : Prop := ab_Con ab_tab J ab_S_bedLine ∧ ab_Con ab_tab J ab_S_pumpLine ∧ ab_Con ab_tab J ab_S_trialLine ∧ ab_Con ab_tab J ab_S_isOnce_2 ∧ ab_Con ab_tab J ab_S_isOnce_3 ∧ ab_Con ab_tab J ab_S_number_0_999 ∧ ab_Con ab_tab J ab_S_number_0_99999 ∧ ab_Con ab_tab J ab_S_number_1_99 ∧ ab_Con ab_tab J ab_S_number_0_99 ∧ ab_Con ab_tab J ab_S_number_1_20 ∧ ab_Con ab_tab J ab_S_number_x_x ∧ ab_Con ab_tab J ab_S_number_1_9 ∧ ab_Con ab_tab J ab_S_newName_169_4_x
/-- a token at least goes by till the line's end -/
def ac_GX (X : am_H → Prop) (m : Int) (h : am_H) : Prop := X h ∧ (ac_Mu (m - 1) h ∨ ac_Mu m h ∧ h 164 8 = .int 1)
theorem ac_GX_XF {X : am_H → Prop} (hX : ac_XF X) (m : Int) : ac_XF (ac_GX X m) := by
  refine ⟨fun h h' ht hx => ⟨hX.1 h h' ht hx.1, ?_⟩, fun h h' ho e6 e7 e8 hx => ⟨hX.2 h h' ho e6 e7 e8 hx.1, ?_⟩⟩
  · rcases hx.2 with q | ⟨q1, q2⟩
    · exact Or.inl (ac_Mu_le q ht)
    · exact Or.inl (ac_Mu_tk q1 ht q2 (by decide))
  · rcases hx.2 with q | ⟨q1, q2⟩
    · exact Or.inl (ac_Mu_fr q e6 e7 e8)
    · exact Or.inr ⟨ac_Mu_fr q1 e6 e7 e8, e8.trans q2⟩
theorem ac_Mu_mono {m m' : Int} {h : am_H} (hm : ac_Mu m h) (hle : m ≤ m') : ac_Mu m' h := by
  obtain ⟨n, s, k, e1, e2, e3, e4⟩ := hm
  exact ⟨n, s, k, e1, e2, e3, by omega⟩
theorem ac_GX_Mu {X : am_H → Prop} {m : Int} {h : am_H} (hx : ac_GX X m h) : ac_Mu m h := by
  rcases hx.2 with q | q
  · exact ac_Mu_mono q (by omega)
  · exact q.1
/-- the laws aren't touched -/
def ac_qt (md : List (Nat × Nat)) : Bool := ab_no 178 md && ab_no 180 md && !ab_in md 164 21 && !ab_in md 164 44
theorem ac_qt_ok {md : List (Nat × Nat)} (hq : ac_qt md = true) {h h' : am_H} (hf : ab_Fr md h h') : (ac_R3 h → ac_R3 h') ∧ (ac_RC h → ac_RC h') := by
  unfold ac_qt at hq
  simp only [Bool.and_eq_true, Bool.not_eq_true'] at hq
  obtain ⟨⟨⟨q1, q2⟩, q3⟩, q4⟩ := hq
  refine ⟨fun h3 k hk e => ?_, fun hr => ?_⟩
  · rw [ab_no_ok q1 hf] at e
    rw [ab_no_ok q2 hf]
    exact h3 k hk e
  · obtain ⟨R, e1, e2⟩ := hr
    exact ⟨R, (hf _ _ q3).trans e1, (hf _ _ q4).trans e2⟩
abbrev ac_lrQ (X : am_H → Prop) (m : Int) (h0 : am_H) : Option Value → List am_k → am_H → Prop := fun r ks h' => ks = am_ks0 ∧ ab_Inv (ab_hi ab_tab) h' ∧ ac_JX X h' ∧ ab_Fr ac_lrM h0 h' ∧ (r = some (.int 0) ∨ r = some (.int 1) ∧ ac_R3 h' ∧ ac_RC h' ∧ ac_Mu (m - 1) h')
section ACI
variable {X : am_H → Prop} {h0 : am_H} {m : Int}
theorem ac_pr {h : am_H} (hj : ac_JX (ac_GX X m) h) : ac_JX X h := ⟨hj.1, hj.2.1⟩
/-- an answer of two -/
def ac_is01 (s : ab_Sm) : Bool := s.2.2.2.2.all (fun c => match c.1 with | some V => Nat.beq V.1 0 && decide (0 ≤ V.2.1) && decide (V.2.2.1 ≤ 1) | none => false)
theorem ac_01 {s : ab_Sm} (hs : ac_is01 s = true) {c : ab_C} (hc : c ∈ s.2.2.2.2) {r : Option Value} (hg : ab_gR c.1 r) : r = some (.int 0) ∨ r = some (.int 1) := by
  have h1 := List.all_eq_true.mp hs c hc
  unfold ab_gR at hg
  split at hg
  · rename_i e
    rw [e] at h1
    cases h1
  · rename_i V v e
    rw [e] at h1
    dsimp only at h1
    rw [Bool.and_eq_true, Bool.and_eq_true] at h1
    obtain ⟨x, rfl, x0, x1⟩ := ab_gI h1.1.1 hg
    have h2 := of_decide_eq_true h1.1.2
    have h3 := of_decide_eq_true h1.2
    by_cases h4 : x.toInt = 0
    · exact Or.inl (by rw [show x = 0 from Int32.toInt_inj.mp h4])
    · exact Or.inr (by rw [show x = 1 from Int32.toInt_inj.mp (by rw [show (1 : Int32).toInt = 1 by decide]; omega)])
  · exact hg.elim
theorem ac_lr_end (hX : ac_XF X) (hpk : ab_Con ab_tab (fun _ => True) ab_S_packed_x_x) {g : am_H} {i : Int32} (gI : ab_Inv (ab_hi ab_tab) g) (gj : ac_JX (ac_GX X m) g) (gF : ab_Fr ac_lrM h0 g) (hi : i = 0 ∨ i = 1 ∧ ac_R3 g ∧ ac_RC g) : am_Ek false am_G0 am_m157 139 [(0, .ref 164), (1, .int i)] [] am_ks0 g 0 0 (ac_lrQ X m h0) := by
  have hG := ac_GX_XF hX m
  obtain ⟨-, hNp, k, w, ek, ew, -⟩ := ac_JX_parts gj
  refine am_e_iload_n (am_nxt_of (i := (302, 1, .iload_n 1, (0, 0, 0), 0)) (by decide +kernel)) (v := i) rfl ?_
  rcases hi with rfl | ⟨rfl, h3, hRC⟩
  · refine am_e_ifF (am_nxt_of (i := (303, 3, .ifCond .ne 5, (143, 0, 0), 0)) (by decide +kernel)) (am_c_neF rfl) ?_
    refine am_e_iconst (w := 0) (am_nxt_of (i := (306, 1, .iconst 0, (0, 0, 0), 0)) (by decide +kernel)) rfl ?_
    exact am_e_iret (ty := .boolean) (am_cur_of (i := (307, 1, .ireturn, (0, 0, 0), 0)) (by decide +kernel)) rfl rfl rfl ⟨rfl, gI, ac_pr gj, gF, Or.inl rfl⟩
  · refine am_e_ifT (am_nxt_of (i := (303, 3, .ifCond .ne 5, (143, 0, 0), 0)) (by decide +kernel)) (am_c_neT (by decide)) (am_tgt_of (by decide +kernel)) ?_
    refine am_e_aload_n (am_nxt_of (i := (308, 1, .aload_n 0, (0, 0, 0), 0)) (by decide +kernel)) (v := 164) rfl ?_
    refine am_e_bipush (w := 59) (am_nxt_of (i := (309, 2, .bipush 59, (0, 0, 0), 0)) (by decide +kernel)) (by decide) ?_
    refine am_e_callV (M' := am_m171) (o := 164) (ar := [.int 59]) (rest := []) (L := lv_args 0 [.ref 164, .int 59]) (am_nxt_of (i := (311, 3, .invokevirtual 194, (171, 1715, 3), 0)) (by decide +kernel)) rfl rfl rfl rfl ac_o rfl rfl rfl ?_
    refine am_Ev_mono (ac_isSign ek ew) (fun r ks h' hq => ?_)
    obtain ⟨rfl, rfl, ⟨rfl, hk4, -⟩ | rfl⟩ := hq
    · show am_Ek false am_G0 am_m157 146 _ [.int 1] _ _ _ _ _
      refine am_e_ifT (am_nxt_of (i := (314, 3, .ifCond .ne 9, (151, 0, 0), 0)) (by decide +kernel)) (am_c_neT (by decide)) (am_tgt_of (by decide +kernel)) ?_
      refine am_e_aload_n (am_nxt_of (i := (323, 1, .aload_n 0, (0, 0, 0), 0)) (by decide +kernel)) (v := 164) rfl ?_
      refine am_e_callV (M' := am_m151) (o := 164) (ar := []) (rest := []) (L := lv_args 0 [.ref 164]) (am_nxt_of (i := (324, 3, .invokevirtual 191, (151, 1636, 3), 0)) (by decide +kernel)) rfl rfl rfl rfl ac_o rfl rfl rfl ?_
      refine am_Ev_mono (ac_token hpk gI (ac_JX_parts gj).1 (ac_JX_parts gj).2.1) (fun r ks h4 hq => ?_)
      obtain ⟨rfl, rfl, q3, q4⟩ := hq
      show am_Ek false am_G0 am_m157 153 _ [] _ _ _ _ _
      have hMu : ac_Mu (m - 1) h' := by
        rcases gj.2.2 with q | ⟨-, q⟩
        · exact q
        · rw [ek, hk4] at q
          exact absurd q (by decide)
      have hqt := ac_qt_ok (md := ac_tkM) rfl q4.1
      refine am_e_iconst (w := 1) (am_nxt_of (i := (327, 1, .iconst 1, (0, 0, 0), 0)) (by decide +kernel)) rfl ?_
      exact am_e_iret (ty := .boolean) (am_cur_of (i := (328, 1, .ireturn, (0, 0, 0), 0)) (by decide +kernel)) rfl rfl rfl ⟨rfl, q3, ac_pr (ac_JX_tk hG _ _ q4 gj), ab_Fr_trans gF (ab_mdle_Fr (by decide) q4.1), Or.inr ⟨rfl, hqt.1 h3, hqt.2 hRC, ac_Mu_le hMu q4⟩⟩
    · show am_Ek false am_G0 am_m157 146 _ [.int 0] _ _ _ _ _
      refine am_e_ifF (am_nxt_of (i := (314, 3, .ifCond .ne 9, (151, 0, 0), 0)) (by decide +kernel)) (am_c_neF rfl) ?_
      refine am_e_aload_n (am_nxt_of (i := (317, 1, .aload_n 0, (0, 0, 0), 0)) (by decide +kernel)) (v := 164) rfl ?_
      refine am_e_iconst (w := 1) (am_nxt_of (i := (318, 1, .iconst 1, (0, 0, 0), 0)) (by decide +kernel)) rfl ?_
      refine am_e_callV (M' := am_m158) (o := 164) (ar := [.int 1]) (rest := []) (L := lv_args 0 [.ref 164, .int 1]) (am_nxt_of (i := (319, 3, .invokevirtual 181, (158, 1665, 3), 0)) (by decide +kernel)) rfl rfl rfl rfl ac_o rfl rfl rfl ?_
      refine am_Ev_mono (ac_wrong gI (by decide) (by decide)) (fun r ks h' hq => ?_)
      obtain ⟨rfl, rfl, q1, q2⟩ := hq
      show am_Ek false am_G0 am_m157 150 _ [.int 0] _ _ _ _ _
      exact am_e_iret (ty := .boolean) (am_cur_of (i := (322, 1, .ireturn, (0, 0, 0), 0)) (by decide +kernel)) rfl rfl rfl ⟨rfl, q1, ac_pr (ac_JX_fr (ac_GX_XF hX m) rfl _ _ q2 gj), ab_Fr_trans gF (ab_mdle_Fr (by decide) q2), Or.inl rfl⟩
theorem ac_lr_law (hX : ac_XF X) (hpk : ab_Con ab_tab (fun _ => True) ab_S_packed_x_x) {h : am_H} (hI : ab_Inv (ab_hi ab_tab) h) (hj : ac_JX (ac_GX X m) h) (hF : ab_Fr ac_lrM h0 h) (h3 : ac_R3 h) (hRC : ac_RC h) : am_Ek false am_G0 am_m157 83 [(0, .ref 164)] [] am_ks0 h 0 0 (ac_lrQ X m h0) := by
  have hG := ac_GX_XF hX m
  have z1 : (1 : Int32).toInt = 1 := by decide
  have z3 : (3 : Int32).toInt = 3 := by decide
  have z9 : (9 : Int32).toInt = 9 := by decide
  have z11 : (11 : Int32).toInt = 11 := by decide
  refine am_e_aload_n (am_nxt_of (i := (205, 1, .aload_n 0, (0, 0, 0), 0)) (by decide +kernel)) (v := 164) rfl ?_
  refine am_e_callV (M' := am_m151) (o := 164) (ar := []) (rest := []) (L := lv_args 0 [.ref 164]) (am_nxt_of (i := (206, 3, .invokevirtual 191, (151, 1636, 3), 0)) (by decide +kernel)) rfl rfl rfl rfl ac_o rfl rfl rfl ?_
  refine am_Ev_mono (ac_token hpk hI (ac_JX_parts hj).1 (ac_JX_parts hj).2.1) (fun r ks h1 hq => ?_)
  obtain ⟨rfl, rfl, I1, tk1⟩ := hq
  show am_Ek false am_G0 am_m157 85 _ [] _ _ _ _ _
  have J1 := ac_JX_tk hG _ _ tk1 hj
  have F1 := ab_Fr_trans hF (ab_mdle_Fr (md' := ac_lrM) (by decide) tk1.1)
  have Q1 := ac_qt_ok (md := ac_tkM) rfl tk1.1
  have h31 := Q1.1 h3
  have hRC1 := Q1.2 hRC
  obtain ⟨-, hNp, k, w, ek, ew, kw1, kw3, kw5⟩ := ac_JX_parts J1
  have hwr : am_Ek false am_G0 am_m157 97 [(0, .ref 164)] [] am_ks0 h1 0 0 (ac_lrQ X m h0) := by
    refine am_e_aload_n (am_nxt_of (i := (235, 1, .aload_n 0, (0, 0, 0), 0)) (by decide +kernel)) (v := 164) rfl ?_
    refine am_e_iconst (w := 1) (am_nxt_of (i := (236, 1, .iconst 1, (0, 0, 0), 0)) (by decide +kernel)) rfl ?_
    refine am_e_callV (M' := am_m158) (o := 164) (ar := [.int 1]) (rest := []) (L := lv_args 0 [.ref 164, .int 1]) (am_nxt_of (i := (237, 3, .invokevirtual 181, (158, 1665, 3), 0)) (by decide +kernel)) rfl rfl rfl rfl ac_o rfl rfl rfl ?_
    refine am_Ev_mono (ac_wrong I1 (by decide) (by decide)) (fun r ks h' hq => ?_)
    obtain ⟨rfl, rfl, q1, q2⟩ := hq
    show am_Ek false am_G0 am_m157 100 _ [.int 0] _ _ _ _ _
    exact am_e_iret (ty := .boolean) (am_cur_of (i := (240, 1, .ireturn, (0, 0, 0), 0)) (by decide +kernel)) rfl rfl rfl ⟨rfl, q1, ac_pr (ac_JX_fr (ac_GX_XF hX m) rfl _ _ q2 J1), ab_Fr_trans F1 (ab_mdle_Fr (by decide) q2), Or.inl rfl⟩
  refine am_e_aload_n (am_nxt_of (i := (209, 1, .aload_n 0, (0, 0, 0), 0)) (by decide +kernel)) (v := 164) rfl ?_
  refine am_e_getf (v := .int k) (am_nxt_of (i := (210, 3, .getfield 157, (12, 8, 1392), 0)) (by decide +kernel)) ac_o ek ?_
  refine am_e_iconst (w := 1) (am_nxt_of (i := (213, 1, .iconst 1, (0, 0, 0), 0)) (by decide +kernel)) rfl ?_
  by_cases hk1 : (k : Int32) = 1
  · refine am_e_cmpF (am_nxt_of (i := (214, 3, .if_icmp .ne 21, (97, 0, 0), 0)) (by decide +kernel)) (am_c_neF hk1) ?_
    refine am_e_aload_n (am_nxt_of (i := (217, 1, .aload_n 0, (0, 0, 0), 0)) (by decide +kernel)) (v := 164) rfl ?_
    refine am_e_getf (v := .int w) (am_nxt_of (i := (218, 3, .getfield 168, (12, 9, 1393), 0)) (by decide +kernel)) ac_o ew ?_
    refine am_e_bipush (w := 9) (am_nxt_of (i := (221, 2, .bipush 9, (0, 0, 0), 0)) (by decide +kernel)) (by decide) ?_
    by_cases h9 : (w : Int32) < 9
    · refine am_e_cmpT (am_nxt_of (i := (223, 3, .if_icmp .lt 12, (97, 0, 0), 0)) (by decide +kernel)) (am_c_ltT h9) (am_tgt_of (by decide +kernel)) ?_
      exact hwr
    · refine am_e_cmpF (am_nxt_of (i := (223, 3, .if_icmp .lt 12, (97, 0, 0), 0)) (by decide +kernel)) (am_c_ltF h9) ?_
      have w9 := ac_nlt' h9
      refine am_e_aload_n (am_nxt_of (i := (226, 1, .aload_n 0, (0, 0, 0), 0)) (by decide +kernel)) (v := 164) rfl ?_
      refine am_e_getf (v := .int w) (am_nxt_of (i := (227, 3, .getfield 168, (12, 9, 1393), 0)) (by decide +kernel)) ac_o ew ?_
      refine am_e_bipush (w := 11) (am_nxt_of (i := (230, 2, .bipush 11, (0, 0, 0), 0)) (by decide +kernel)) (by decide) ?_
      by_cases h11 : (11 : Int32) < w
      · refine am_e_cmpF (am_nxt_of (i := (232, 3, .if_icmp .le 9, (101, 0, 0), 0)) (by decide +kernel)) (am_c_leF h11) ?_
        exact hwr
      · refine am_e_cmpT (am_nxt_of (i := (232, 3, .if_icmp .le 9, (101, 0, 0), 0)) (by decide +kernel)) (am_c_leT h11) (am_tgt_of (by decide +kernel)) ?_
        have w11 := ac_nlt' h11
        have e1 := ab_iadd (x := 3) (y := w) (by omega) (by omega)
        have e2 := ab_isub (x := 3 + w) (y := 9) (by omega) (by omega)
        have hq3 : 3 ≤ (3 + w - 9 : Int32).toInt := by omega
        have hq5 : (3 + w - 9 : Int32).toInt ≤ 5 := by omega
        refine am_e_iconst (w := 3) (am_nxt_of (i := (241, 1, .iconst 3, (0, 0, 0), 0)) (by decide +kernel)) rfl ?_
        refine am_e_aload_n (am_nxt_of (i := (242, 1, .aload_n 0, (0, 0, 0), 0)) (by decide +kernel)) (v := 164) rfl ?_
        refine am_e_getf (v := .int w) (am_nxt_of (i := (243, 3, .getfield 168, (12, 9, 1393), 0)) (by decide +kernel)) ac_o ew ?_
        refine am_e_iadd (w := 3 + w) (am_nxt_of (i := (246, 1, .iadd, (0, 0, 0), 0)) (by decide +kernel)) rfl ?_
        refine am_e_bipush (w := 9) (am_nxt_of (i := (247, 2, .bipush 9, (0, 0, 0), 0)) (by decide +kernel)) (by decide) ?_
        refine am_e_isub (w := (3 + w) - 9) (am_nxt_of (i := (249, 1, .isub, (0, 0, 0), 0)) (by decide +kernel)) rfl ?_
        refine am_e_istore_n (ls' := [(2, .int ((3 + w) - 9)), (0, .ref 164)]) (am_nxt_of (i := (250, 1, .istore_n 2, (0, 0, 0), 0)) (by decide +kernel)) (by decide +kernel) rfl ?_
        generalize (3 + w - 9 : Int32) = q at hq3 hq5 ⊢
        have hix := ab_ix (x := q) (n := 6) (by omega) (by omega)
        have hqc : q.toNatClampNeg = q.toInt.toNat := ab_clamp (by omega)
        obtain ⟨lt, elt, lt0, lt1⟩ := ac_r178 I1 (q := q.toInt.toNat) (by omega)
        refine am_e_aload_n (am_nxt_of (i := (251, 1, .aload_n 0, (0, 0, 0), 0)) (by decide +kernel)) (v := 164) rfl ?_
        refine am_e_getf (am_nxt_of (i := (252, 3, .getfield 54, (12, 33, 1417), 0)) (by decide +kernel)) ac_o (ac_f33 I1) ?_
        refine am_e_iload_n (am_nxt_of (i := (255, 1, .iload_n 2, (0, 0, 0), 0)) (by decide +kernel)) (v := q) rfl ?_
        refine am_e_baload (v := lt) (am_nxt_of (i := (256, 1, .baload, (0, 0, 0), 0)) (by decide +kernel)) ac_k178 hix hqc elt ?_
        by_cases hlt : (lt : Int32) = 0
        · refine am_e_ifT (am_nxt_of (i := (257, 3, .ifCond .eq 9, (117, 0, 0), 0)) (by decide +kernel)) (am_c_eqT hlt) (am_tgt_of (by decide +kernel)) ?_
          refine am_e_aload_n (am_nxt_of (i := (266, 1, .aload_n 0, (0, 0, 0), 0)) (by decide +kernel)) (v := 164) rfl ?_
          refine am_e_getf (am_nxt_of (i := (267, 3, .getfield 54, (12, 33, 1417), 0)) (by decide +kernel)) ac_o (ac_f33 I1) ?_
          refine am_e_iload_n (am_nxt_of (i := (270, 1, .iload_n 2, (0, 0, 0), 0)) (by decide +kernel)) (v := q) rfl ?_
          refine am_e_iconst (w := 1) (am_nxt_of (i := (271, 1, .iconst 1, (0, 0, 0), 0)) (by decide +kernel)) rfl ?_
          refine am_e_bastore (am_nxt_of (i := (272, 1, .bastore, (0, 0, 0), 0)) (by decide +kernel)) ac_k178 rfl hix hqc ?_
          have I2 := ac_w178 (q := q.toInt.toNat) (v := 1) I1 (by decide) (by decide)
          have J2 := ac_J_178 hG (q := q.toInt.toNat) (v := .int 1) (by omega) J1
          have F2 := ab_Fr_up (o := 178) (k := q.toInt.toNat) (v := .int 1) rfl F1
          have h32 : ∀ j, j < 3 → ¬ 3 + j = q.toInt.toNat → am_up h1 178 q.toInt.toNat (.int 1) 178 (3 + j) = .int 1 → ∃ v : Int32, am_up h1 178 q.toInt.toNat (.int 1) 180 (3 + j) = .int v ∧ 1 ≤ v.toInt ∧ v.toInt ≤ 64 := by
            intro j hj1 hj2 e
            rw [am_up_same _ _ _ _ _ hj2] at e
            exact h31 j hj1 e
          have hRC2 : ac_RC (am_up h1 178 q.toInt.toNat (.int 1)) := hRC1
          generalize am_up h1 178 q.toInt.toNat (.int 1) = h2 at I2 J2 F2 h32 hRC2 ⊢
          refine am_e_aload_n (am_nxt_of (i := (273, 1, .aload_n 0, (0, 0, 0), 0)) (by decide +kernel)) (v := 164) rfl ?_
          refine am_e_callV (M' := am_m151) (o := 164) (ar := []) (rest := []) (L := lv_args 0 [.ref 164]) (am_nxt_of (i := (274, 3, .invokevirtual 191, (151, 1636, 3), 0)) (by decide +kernel)) rfl rfl rfl rfl ac_o rfl rfl rfl ?_
          refine am_Ev_mono (ac_token hpk I2 (ac_JX_parts J2).1 (ac_JX_parts J2).2.1) (fun r ks h3' hq => ?_)
          obtain ⟨rfl, rfl, I3, tk3⟩ := hq
          show am_Ek false am_G0 am_m157 124 _ [] _ _ _ _ _
          have J3 := ac_JX_tk hG _ _ tk3 J2
          have F3 := ab_Fr_trans F2 (ab_mdle_Fr (md' := ac_lrM) (by decide) tk3.1)
          obtain ⟨R, eR1, eR2⟩ := (ac_qt_ok (md := ac_tkM) rfl tk3.1).2 hRC2
          obtain ⟨R', eR1', R0, R64⟩ := ac_g21 I3
          rw [eR1] at eR1'
          cases eR1'
          refine am_e_aload_n (am_nxt_of (i := (277, 1, .aload_n 0, (0, 0, 0), 0)) (by decide +kernel)) (v := 164) rfl ?_
          refine am_e_getf (am_nxt_of (i := (278, 3, .getfield 57, (12, 34, 1418), 0)) (by decide +kernel)) ac_o (ac_f34 I3) ?_
          refine am_e_iload_n (am_nxt_of (i := (281, 1, .iload_n 2, (0, 0, 0), 0)) (by decide +kernel)) (v := q) rfl ?_
          refine am_e_aload_n (am_nxt_of (i := (282, 1, .aload_n 0, (0, 0, 0), 0)) (by decide +kernel)) (v := 164) rfl ?_
          refine am_e_getf (v := .int R) (am_nxt_of (i := (283, 3, .getfield 213, (12, 21, 1405), 0)) (by decide +kernel)) ac_o eR1 ?_
          refine am_e_iastore (am_nxt_of (i := (286, 1, .iastore, (0, 0, 0), 0)) (by decide +kernel)) ac_k179 hix hqc ?_
          have I4 := ac_w179 (q := q.toInt.toNat) (v := R) I3 (by omega) (by omega)
          have J4 := ac_JX_fr hG (md := [(179, 0)]) rfl _ (am_up h3' 179 q.toInt.toNat (.int R)) (ab_Fr_up rfl ab_Fr_refl) J3
          have F4 := ab_Fr_up (o := 179) (k := q.toInt.toNat) (v := .int R) rfl F3
          have hRC4 : ac_RC (am_up h3' 179 q.toInt.toNat (.int R)) := ⟨R, eR1, eR2⟩
          have e178 : ∀ j, am_up h3' 179 q.toInt.toNat (.int R) 178 j = h2 178 j := fun j => tk3.1 178 j rfl
          have e180 : ∀ j, am_up h3' 179 q.toInt.toNat (.int R) 180 j = h2 180 j := fun j => tk3.1 180 j rfl
          generalize am_up h3' 179 q.toInt.toNat (.int R) = h4 at I4 J4 F4 hRC4 e178 e180 ⊢
          refine am_e_aload_n (am_nxt_of (i := (287, 1, .aload_n 0, (0, 0, 0), 0)) (by decide +kernel)) (v := 164) rfl ?_
          refine am_e_callV (M' := am_m170) (o := 164) (ar := []) (rest := []) (L := lv_args 0 [.ref 164]) (am_nxt_of (i := (288, 3, .invokevirtual 271, (170, 1711, 3), 0)) (by decide +kernel)) rfl rfl rfl rfl ac_o rfl rfl rfl ?_
          refine am_Ev_mono (ac_sumRead (ac_JX_JP hG) hpk I4 J4 (ac_GX_Mu J4.2) hRC4) (fun r ks h5 hq => ?_)
          obtain ⟨rfl, I5, J5, f5, hr⟩ := hq
          have F5 := ab_Fr_trans F4 (ab_mdle_Fr (md' := ac_lrM) (by decide) f5)
          obtain ⟨i, rfl, hi⟩ : ∃ i : Int32, r = some (.int i) ∧ (i = 0 ∨ i = 1 ∧ ∃ R : Int32, h5 164 21 = .int R ∧ h5 164 44 = .int R ∧ 1 ≤ R.toInt ∧ R.toInt ≤ 64) := by
            rcases hr with rfl | ⟨rfl, -, q⟩
            · exact ⟨0, rfl, Or.inl rfl⟩
            · exact ⟨1, rfl, Or.inr ⟨rfl, q⟩⟩
          obtain ⟨S, eS, S0, S64⟩ := ac_g21 I5
          show am_Ek false am_G0 am_m157 132 _ [.int i] _ _ _ _ _
          refine am_e_istore_n (ls' := [(1, .int i), (2, .int q), (0, .ref 164)]) (am_nxt_of (i := (291, 1, .istore_n 1, (0, 0, 0), 0)) (by decide +kernel)) (by decide +kernel) rfl ?_
          refine am_e_aload_n (am_nxt_of (i := (292, 1, .aload_n 0, (0, 0, 0), 0)) (by decide +kernel)) (v := 164) rfl ?_
          refine am_e_getf (am_nxt_of (i := (293, 3, .getfield 60, (12, 35, 1419), 0)) (by decide +kernel)) ac_o (ac_f35 I5) ?_
          refine am_e_iload_n (am_nxt_of (i := (296, 1, .iload_n 2, (0, 0, 0), 0)) (by decide +kernel)) (v := q) rfl ?_
          refine am_e_aload_n (am_nxt_of (i := (297, 1, .aload_n 0, (0, 0, 0), 0)) (by decide +kernel)) (v := 164) rfl ?_
          refine am_e_getf (v := .int S) (am_nxt_of (i := (298, 3, .getfield 213, (12, 21, 1405), 0)) (by decide +kernel)) ac_o eS ?_
          refine am_e_iastore (am_nxt_of (i := (301, 1, .iastore, (0, 0, 0), 0)) (by decide +kernel)) ac_k180 hix hqc ?_
          have I6 := ac_w180 (q := q.toInt.toNat) (v := S) I5 (by omega) (by omega)
          have J6 := ac_J_180 hG (q := q.toInt.toNat) (v := .int S) (by omega) J5
          have F6 := ab_Fr_up (o := 180) (k := q.toInt.toNat) (v := .int S) rfl F5
          refine am_Ek_ls (ls' := [(0, .ref 164), (1, .int i)]) ⟨rfl, rfl, trivial⟩ ?_
          refine ac_lr_end hX hpk I6 J6 F6 ?_
          rcases hi with rfl | ⟨rfl, R1, er1, er2, r1, r64⟩
          · exact Or.inl rfl
          · rw [eS] at er1
            cases er1
            refine Or.inr ⟨rfl, fun j hj1 e => ?_, S, eS, er2⟩
            by_cases hjq : 3 + j = q.toInt.toNat
            · rw [hjq]
              exact ⟨S, am_up_self _ _ _ _, r1, S64⟩
            · have e' : h2 178 (3 + j) = .int 1 := (e178 _).symm.trans ((f5 178 (3 + j) rfl).symm.trans e)
              obtain ⟨v, g1, g2⟩ := h32 j hj1 hjq e'
              exact ⟨v, (am_up_same _ _ _ _ _ hjq).trans ((f5 180 (3 + j) rfl).trans ((e180 _).trans g1)), g2⟩
        · refine am_e_ifF (am_nxt_of (i := (257, 3, .ifCond .eq 9, (117, 0, 0), 0)) (by decide +kernel)) (am_c_eqF hlt) ?_
          refine am_e_aload_n (am_nxt_of (i := (260, 1, .aload_n 0, (0, 0, 0), 0)) (by decide +kernel)) (v := 164) rfl ?_
          refine am_e_iconst (w := 3) (am_nxt_of (i := (261, 1, .iconst 3, (0, 0, 0), 0)) (by decide +kernel)) rfl ?_
          refine am_e_callV (M' := am_m158) (o := 164) (ar := [.int 3]) (rest := []) (L := lv_args 0 [.ref 164, .int 3]) (am_nxt_of (i := (262, 3, .invokevirtual 181, (158, 1665, 3), 0)) (by decide +kernel)) rfl rfl rfl rfl ac_o rfl rfl rfl ?_
          refine am_Ev_mono (ac_wrong I1 (by decide) (by decide)) (fun r ks h' hq => ?_)
          obtain ⟨rfl, rfl, q1, q2⟩ := hq
          show am_Ek false am_G0 am_m157 116 _ [.int 0] _ _ _ _ _
          exact am_e_iret (ty := .boolean) (am_cur_of (i := (265, 1, .ireturn, (0, 0, 0), 0)) (by decide +kernel)) rfl rfl rfl ⟨rfl, q1, ac_pr (ac_JX_fr (ac_GX_XF hX m) rfl _ _ q2 J1), ab_Fr_trans F1 (ab_mdle_Fr (by decide) q2), Or.inl rfl⟩
  · refine am_e_cmpT (am_nxt_of (i := (214, 3, .if_icmp .ne 21, (97, 0, 0), 0)) (by decide +kernel)) (am_c_neT hk1) (am_tgt_of (by decide +kernel)) ?_
    exact hwr
theorem ac_lineRead (hX : ac_XF X) (hpk : ab_Con ab_tab (fun _ => True) ab_S_packed_x_x) (hLC : ∀ X, ac_XF X → ac_LC (ac_JX X)) {h : am_H} (hI : ab_Inv (ab_hi ab_tab) h) (hj0 : ac_JX X h) (h3 : ac_R3 h) (hRC : ac_RC h) (hMu : ac_Mu m h) : am_Ek false am_G0 am_m157 0 (lv_args 0 [.ref 164]) [] am_ks0 h 0 0 (ac_lrQ X m h) := by
  have hG := ac_GX_XF hX m
  obtain ⟨c1, c2, c3, c4, c5, c6, c7, c8, c9, c10, c11, c12, c13⟩ := hLC _ hG
  obtain ⟨-, hNp, k, w, ek, ew, kw1, kw3, kw5⟩ := ac_JX_parts hj0
  have z8 : (8 : Int32).toInt = 8 := by decide
  have hwr : am_Ek false am_G0 am_m157 8 [(0, .ref 164)] [] am_ks0 h 0 0 (ac_lrQ X m h) := by
    refine am_e_aload_n (am_nxt_of (i := (17, 1, .aload_n 0, (0, 0, 0), 0)) (by decide +kernel)) (v := 164) rfl ?_
    refine am_e_iconst (w := 1) (am_nxt_of (i := (18, 1, .iconst 1, (0, 0, 0), 0)) (by decide +kernel)) rfl ?_
    refine am_e_callV (M' := am_m158) (o := 164) (ar := [.int 1]) (rest := []) (L := lv_args 0 [.ref 164, .int 1]) (am_nxt_of (i := (19, 3, .invokevirtual 181, (158, 1665, 3), 0)) (by decide +kernel)) rfl rfl rfl rfl ac_o rfl rfl rfl ?_
    refine am_Ev_mono (ac_wrong hI (by decide) (by decide)) (fun r ks h' hq => ?_)
    obtain ⟨rfl, rfl, q1, q2⟩ := hq
    show am_Ek false am_G0 am_m157 11 _ [.int 0] _ _ _ _ _
    exact am_e_iret (ty := .boolean) (am_cur_of (i := (22, 1, .ireturn, (0, 0, 0), 0)) (by decide +kernel)) rfl rfl rfl ⟨rfl, q1, ac_JX_fr hX rfl _ _ q2 hj0, ab_mdle_Fr (by decide) q2, Or.inl rfl⟩
  refine am_e_aload_n (am_nxt_of (i := (0, 1, .aload_n 0, (0, 0, 0), 0)) (by decide +kernel)) (v := 164) rfl ?_
  refine am_e_getf (v := .int k) (am_nxt_of (i := (1, 3, .getfield 157, (12, 8, 1392), 0)) (by decide +kernel)) ac_o ek ?_
  refine am_e_iconst (w := 1) (am_nxt_of (i := (4, 1, .iconst 1, (0, 0, 0), 0)) (by decide +kernel)) rfl ?_
  by_cases hk1 : (k : Int32) = 1
  · refine am_e_cmpF (am_nxt_of (i := (5, 3, .if_icmp .ne 12, (8, 0, 0), 0)) (by decide +kernel)) (am_c_neF hk1) ?_
    have hj : ac_JX (ac_GX X m) h := ⟨hj0.1, hj0.2, Or.inr ⟨hMu, by rw [ek, hk1]⟩⟩
    obtain ⟨w0, w19⟩ := kw1 (by rw [hk1]; decide)
    refine am_e_aload_n (am_nxt_of (i := (8, 1, .aload_n 0, (0, 0, 0), 0)) (by decide +kernel)) (v := 164) rfl ?_
    refine am_e_getf (v := .int w) (am_nxt_of (i := (9, 3, .getfield 168, (12, 9, 1393), 0)) (by decide +kernel)) ac_o ew ?_
    refine am_e_bipush (w := 8) (am_nxt_of (i := (12, 2, .bipush 8, (0, 0, 0), 0)) (by decide +kernel)) (by decide) ?_
    by_cases hw8 : (8 : Int32) < w
    · refine am_e_cmpF (am_nxt_of (i := (14, 3, .if_icmp .le 9, (12, 0, 0), 0)) (by decide +kernel)) (am_c_leF hw8) ?_
      exact hwr
    · refine am_e_cmpT (am_nxt_of (i := (14, 3, .if_icmp .le 9, (12, 0, 0), 0)) (by decide +kernel)) (am_c_leT hw8) (am_tgt_of (by decide +kernel)) ?_
      have w8 := ac_nlt' hw8
      refine am_e_aload_n (am_nxt_of (i := (23, 1, .aload_n 0, (0, 0, 0), 0)) (by decide +kernel)) (v := 164) rfl ?_
      refine am_e_getf (v := .int w) (am_nxt_of (i := (24, 3, .getfield 168, (12, 9, 1393), 0)) (by decide +kernel)) ac_o ew ?_
      have hcase : w = 0 ∨ w = 1 ∨ w = 2 ∨ w = 3 ∨ w = 4 ∨ w = 5 ∨ w = 6 ∨ w = 7 ∨ w = 8 := by
        have z : ∀ n : Int32, w.toInt = n.toInt → w = n := fun n e => Int32.toInt_inj.mp e
        rcases (show w.toInt = 0 ∨ w.toInt = 1 ∨ w.toInt = 2 ∨ w.toInt = 3 ∨ w.toInt = 4 ∨ w.toInt = 5 ∨ w.toInt = 6 ∨ w.toInt = 7 ∨ w.toInt = 8 by omega) with e | e | e | e | e | e | e | e | e
        · exact Or.inl (z 0 e)
        · exact Or.inr (Or.inl (z 1 e))
        · exact Or.inr (Or.inr (Or.inl (z 2 e)))
        · exact Or.inr (Or.inr (Or.inr (Or.inl (z 3 e))))
        · exact Or.inr (Or.inr (Or.inr (Or.inr (Or.inl (z 4 e)))))
        · exact Or.inr (Or.inr (Or.inr (Or.inr (Or.inr (Or.inl (z 5 e))))))
        · exact Or.inr (Or.inr (Or.inr (Or.inr (Or.inr (Or.inr (Or.inl (z 6 e)))))))
        · exact Or.inr (Or.inr (Or.inr (Or.inr (Or.inr (Or.inr (Or.inr (Or.inl (z 7 e))))))))
        · exact Or.inr (Or.inr (Or.inr (Or.inr (Or.inr (Or.inr (Or.inr (Or.inr (z 8 e))))))))
      rcases hcase with rfl | rfl | rfl | rfl | rfl | rfl | rfl | rfl | rfl
      · refine am_e_swI (a := 15) (off := 45) (am_cur_of (i := (27, 45, .tableswitch 178 0 7 #[45, 53, 61, 69, 77, 85, 93, 136], (0, 0, 0), 0)) (by decide +kernel)) (by decide) (by decide) (by decide +kernel) ?_
        refine am_e_aload_n (am_nxt_of (i := (72, 1, .aload_n 0, (0, 0, 0), 0)) (by decide +kernel)) (v := 164) rfl ?_
        refine am_e_callV (M' := am_m159) (o := 164) (ar := []) (rest := []) (L := lv_args 0 [.ref 164]) (am_nxt_of (i := (73, 3, .invokevirtual 252, (159, 1669, 3), 0)) (by decide +kernel)) rfl rfl rfl rfl ac_o rfl rfl rfl ?_
        refine am_Ev_mono (ac_use c1 rfl ⟨⟨164, rfl, List.mem_singleton.mpr rfl⟩, trivial⟩ hI hj ac_p0) (fun r ks h1 hq => ?_)
        obtain ⟨rfl, I1, J1, f1, c', hc, hg⟩ := hq
        have hr := ac_01 (s := ab_S_bedLine) rfl hc hg.1
        rcases hr with rfl | rfl
        · show am_Ek false am_G0 am_m157 17 _ [.int 0] _ _ _ _ _
          refine am_e_istore_n (ls' := [(1, .int 0), (0, .ref 164)]) (am_nxt_of (i := (76, 1, .istore_n 1, (0, 0, 0), 0)) (by decide +kernel)) (by decide +kernel) rfl ?_
          refine am_e_goto (am_cur_of (i := (77, 3, .goto 225, (139, 0, 0), 0)) (by decide +kernel)) (am_tgt_of (by decide +kernel)) ?_
          refine am_Ek_ls (ls' := [(0, .ref 164), (1, .int 0)]) ⟨rfl, rfl, trivial⟩ ?_
          exact ac_lr_end hX hpk I1 J1 (ab_mdle_Fr (by decide) f1) (Or.inl rfl)
        · show am_Ek false am_G0 am_m157 17 _ [.int 1] _ _ _ _ _
          refine am_e_istore_n (ls' := [(1, .int 1), (0, .ref 164)]) (am_nxt_of (i := (76, 1, .istore_n 1, (0, 0, 0), 0)) (by decide +kernel)) (by decide +kernel) rfl ?_
          refine am_e_goto (am_cur_of (i := (77, 3, .goto 225, (139, 0, 0), 0)) (by decide +kernel)) (am_tgt_of (by decide +kernel)) ?_
          refine am_Ek_ls (ls' := [(0, .ref 164), (1, .int 1)]) ⟨rfl, rfl, trivial⟩ ?_
          exact ac_lr_end hX hpk I1 J1 (ab_mdle_Fr (by decide) f1) (Or.inr ⟨rfl, (ac_qt_ok (by decide) f1).1 h3, (ac_qt_ok (by decide) f1).2 hRC⟩)
      · refine am_e_swI (a := 19) (off := 53) (am_cur_of (i := (27, 45, .tableswitch 178 0 7 #[45, 53, 61, 69, 77, 85, 93, 136], (0, 0, 0), 0)) (by decide +kernel)) (by decide) (by decide) (by decide +kernel) ?_
        refine am_e_aload_n (am_nxt_of (i := (80, 1, .aload_n 0, (0, 0, 0), 0)) (by decide +kernel)) (v := 164) rfl ?_
        refine am_e_callV (M' := am_m163) (o := 164) (ar := []) (rest := []) (L := lv_args 0 [.ref 164]) (am_nxt_of (i := (81, 3, .invokevirtual 256, (163, 1684, 3), 0)) (by decide +kernel)) rfl rfl rfl rfl ac_o rfl rfl rfl ?_
        refine am_Ev_mono (ac_blowerLine hG hpk c13 c8 c11 c10 c12 c9 hI hj) (fun r ks h1 hq => ?_)
        obtain ⟨rfl, I1, J1, f1, hr⟩ := hq
        rcases hr with rfl | rfl
        · show am_Ek false am_G0 am_m157 21 _ [.int 0] _ _ _ _ _
          refine am_e_istore_n (ls' := [(1, .int 0), (0, .ref 164)]) (am_nxt_of (i := (84, 1, .istore_n 1, (0, 0, 0), 0)) (by decide +kernel)) (by decide +kernel) rfl ?_
          refine am_e_goto (am_cur_of (i := (85, 3, .goto 217, (139, 0, 0), 0)) (by decide +kernel)) (am_tgt_of (by decide +kernel)) ?_
          refine am_Ek_ls (ls' := [(0, .ref 164), (1, .int 0)]) ⟨rfl, rfl, trivial⟩ ?_
          exact ac_lr_end hX hpk I1 J1 (ab_mdle_Fr (by decide) f1) (Or.inl rfl)
        · show am_Ek false am_G0 am_m157 21 _ [.int 1] _ _ _ _ _
          refine am_e_istore_n (ls' := [(1, .int 1), (0, .ref 164)]) (am_nxt_of (i := (84, 1, .istore_n 1, (0, 0, 0), 0)) (by decide +kernel)) (by decide +kernel) rfl ?_
          refine am_e_goto (am_cur_of (i := (85, 3, .goto 217, (139, 0, 0), 0)) (by decide +kernel)) (am_tgt_of (by decide +kernel)) ?_
          refine am_Ek_ls (ls' := [(0, .ref 164), (1, .int 1)]) ⟨rfl, rfl, trivial⟩ ?_
          exact ac_lr_end hX hpk I1 J1 (ab_mdle_Fr (by decide) f1) (Or.inr ⟨rfl, (ac_qt_ok (by decide) f1).1 h3, (ac_qt_ok (by decide) f1).2 hRC⟩)
      · refine am_e_swI (a := 23) (off := 61) (am_cur_of (i := (27, 45, .tableswitch 178 0 7 #[45, 53, 61, 69, 77, 85, 93, 136], (0, 0, 0), 0)) (by decide +kernel)) (by decide) (by decide) (by decide +kernel) ?_
        refine am_e_aload_n (am_nxt_of (i := (88, 1, .aload_n 0, (0, 0, 0), 0)) (by decide +kernel)) (v := 164) rfl ?_
        refine am_e_callV (M' := am_m166) (o := 164) (ar := []) (rest := []) (L := lv_args 0 [.ref 164]) (am_nxt_of (i := (89, 3, .invokevirtual 259, (166, 1695, 3), 0)) (by decide +kernel)) rfl rfl rfl rfl ac_o rfl rfl rfl ?_
        refine am_Ev_mono (ac_turnLine hG hpk c10 hI hj) (fun r ks h1 hq => ?_)
        obtain ⟨rfl, I1, J1, f1, hr⟩ := hq
        rcases hr with rfl | rfl
        · show am_Ek false am_G0 am_m157 25 _ [.int 0] _ _ _ _ _
          refine am_e_istore_n (ls' := [(1, .int 0), (0, .ref 164)]) (am_nxt_of (i := (92, 1, .istore_n 1, (0, 0, 0), 0)) (by decide +kernel)) (by decide +kernel) rfl ?_
          refine am_e_goto (am_cur_of (i := (93, 3, .goto 209, (139, 0, 0), 0)) (by decide +kernel)) (am_tgt_of (by decide +kernel)) ?_
          refine am_Ek_ls (ls' := [(0, .ref 164), (1, .int 0)]) ⟨rfl, rfl, trivial⟩ ?_
          exact ac_lr_end hX hpk I1 J1 (ab_mdle_Fr (by decide) f1) (Or.inl rfl)
        · show am_Ek false am_G0 am_m157 25 _ [.int 1] _ _ _ _ _
          refine am_e_istore_n (ls' := [(1, .int 1), (0, .ref 164)]) (am_nxt_of (i := (92, 1, .istore_n 1, (0, 0, 0), 0)) (by decide +kernel)) (by decide +kernel) rfl ?_
          refine am_e_goto (am_cur_of (i := (93, 3, .goto 209, (139, 0, 0), 0)) (by decide +kernel)) (am_tgt_of (by decide +kernel)) ?_
          refine am_Ek_ls (ls' := [(0, .ref 164), (1, .int 1)]) ⟨rfl, rfl, trivial⟩ ?_
          exact ac_lr_end hX hpk I1 J1 (ab_mdle_Fr (by decide) f1) (Or.inr ⟨rfl, (ac_qt_ok (by decide) f1).1 h3, (ac_qt_ok (by decide) f1).2 hRC⟩)
      · refine am_e_swI (a := 27) (off := 69) (am_cur_of (i := (27, 45, .tableswitch 178 0 7 #[45, 53, 61, 69, 77, 85, 93, 136], (0, 0, 0), 0)) (by decide +kernel)) (by decide) (by decide) (by decide +kernel) ?_
        refine am_e_aload_n (am_nxt_of (i := (96, 1, .aload_n 0, (0, 0, 0), 0)) (by decide +kernel)) (v := 164) rfl ?_
        refine am_e_callV (M' := am_m167) (o := 164) (ar := []) (rest := []) (L := lv_args 0 [.ref 164]) (am_nxt_of (i := (97, 3, .invokevirtual 262, (167, 1699, 3), 0)) (by decide +kernel)) rfl rfl rfl rfl ac_o rfl rfl rfl ?_
        refine am_Ev_mono (ac_use c2 rfl ⟨⟨164, rfl, List.mem_singleton.mpr rfl⟩, trivial⟩ hI hj ac_p0) (fun r ks h1 hq => ?_)
        obtain ⟨rfl, I1, J1, f1, c', hc, hg⟩ := hq
        have hr := ac_01 (s := ab_S_pumpLine) rfl hc hg.1
        rcases hr with rfl | rfl
        · show am_Ek false am_G0 am_m157 29 _ [.int 0] _ _ _ _ _
          refine am_e_istore_n (ls' := [(1, .int 0), (0, .ref 164)]) (am_nxt_of (i := (100, 1, .istore_n 1, (0, 0, 0), 0)) (by decide +kernel)) (by decide +kernel) rfl ?_
          refine am_e_goto (am_cur_of (i := (101, 3, .goto 201, (139, 0, 0), 0)) (by decide +kernel)) (am_tgt_of (by decide +kernel)) ?_
          refine am_Ek_ls (ls' := [(0, .ref 164), (1, .int 0)]) ⟨rfl, rfl, trivial⟩ ?_
          exact ac_lr_end hX hpk I1 J1 (ab_mdle_Fr (by decide) f1) (Or.inl rfl)
        · show am_Ek false am_G0 am_m157 29 _ [.int 1] _ _ _ _ _
          refine am_e_istore_n (ls' := [(1, .int 1), (0, .ref 164)]) (am_nxt_of (i := (100, 1, .istore_n 1, (0, 0, 0), 0)) (by decide +kernel)) (by decide +kernel) rfl ?_
          refine am_e_goto (am_cur_of (i := (101, 3, .goto 201, (139, 0, 0), 0)) (by decide +kernel)) (am_tgt_of (by decide +kernel)) ?_
          refine am_Ek_ls (ls' := [(0, .ref 164), (1, .int 1)]) ⟨rfl, rfl, trivial⟩ ?_
          exact ac_lr_end hX hpk I1 J1 (ab_mdle_Fr (by decide) f1) (Or.inr ⟨rfl, (ac_qt_ok (by decide) f1).1 h3, (ac_qt_ok (by decide) f1).2 hRC⟩)
      · refine am_e_swI (a := 31) (off := 77) (am_cur_of (i := (27, 45, .tableswitch 178 0 7 #[45, 53, 61, 69, 77, 85, 93, 136], (0, 0, 0), 0)) (by decide +kernel)) (by decide) (by decide) (by decide +kernel) ?_
        refine am_e_aload_n (am_nxt_of (i := (104, 1, .aload_n 0, (0, 0, 0), 0)) (by decide +kernel)) (v := 164) rfl ?_
        refine am_e_callV (M' := am_m168) (o := 164) (ar := []) (rest := []) (L := lv_args 0 [.ref 164]) (am_nxt_of (i := (105, 3, .invokevirtual 265, (168, 1703, 3), 0)) (by decide +kernel)) rfl rfl rfl rfl ac_o rfl rfl rfl ?_
        refine am_Ev_mono (ac_leakLine hG hpk c8 c9 hI hj) (fun r ks h1 hq => ?_)
        obtain ⟨rfl, I1, J1, f1, hr⟩ := hq
        rcases hr with rfl | rfl
        · show am_Ek false am_G0 am_m157 33 _ [.int 0] _ _ _ _ _
          refine am_e_istore_n (ls' := [(1, .int 0), (0, .ref 164)]) (am_nxt_of (i := (108, 1, .istore_n 1, (0, 0, 0), 0)) (by decide +kernel)) (by decide +kernel) rfl ?_
          refine am_e_goto (am_cur_of (i := (109, 3, .goto 193, (139, 0, 0), 0)) (by decide +kernel)) (am_tgt_of (by decide +kernel)) ?_
          refine am_Ek_ls (ls' := [(0, .ref 164), (1, .int 0)]) ⟨rfl, rfl, trivial⟩ ?_
          exact ac_lr_end hX hpk I1 J1 (ab_mdle_Fr (by decide) f1) (Or.inl rfl)
        · show am_Ek false am_G0 am_m157 33 _ [.int 1] _ _ _ _ _
          refine am_e_istore_n (ls' := [(1, .int 1), (0, .ref 164)]) (am_nxt_of (i := (108, 1, .istore_n 1, (0, 0, 0), 0)) (by decide +kernel)) (by decide +kernel) rfl ?_
          refine am_e_goto (am_cur_of (i := (109, 3, .goto 193, (139, 0, 0), 0)) (by decide +kernel)) (am_tgt_of (by decide +kernel)) ?_
          refine am_Ek_ls (ls' := [(0, .ref 164), (1, .int 1)]) ⟨rfl, rfl, trivial⟩ ?_
          exact ac_lr_end hX hpk I1 J1 (ab_mdle_Fr (by decide) f1) (Or.inr ⟨rfl, (ac_qt_ok (by decide) f1).1 h3, (ac_qt_ok (by decide) f1).2 hRC⟩)
      · refine am_e_swI (a := 35) (off := 85) (am_cur_of (i := (27, 45, .tableswitch 178 0 7 #[45, 53, 61, 69, 77, 85, 93, 136], (0, 0, 0), 0)) (by decide +kernel)) (by decide) (by decide) (by decide +kernel) ?_
        refine am_e_aload_n (am_nxt_of (i := (112, 1, .aload_n 0, (0, 0, 0), 0)) (by decide +kernel)) (v := 164) rfl ?_
        refine am_e_callV (M' := am_m169) (o := 164) (ar := []) (rest := []) (L := lv_args 0 [.ref 164]) (am_nxt_of (i := (113, 3, .invokevirtual 268, (169, 1707, 3), 0)) (by decide +kernel)) rfl rfl rfl rfl ac_o rfl rfl rfl ?_
        refine am_Ev_mono (ac_use c3 rfl ⟨⟨164, rfl, List.mem_singleton.mpr rfl⟩, trivial⟩ hI hj ac_p0) (fun r ks h1 hq => ?_)
        obtain ⟨rfl, I1, J1, f1, c', hc, hg⟩ := hq
        have hr := ac_01 (s := ab_S_trialLine) rfl hc hg.1
        rcases hr with rfl | rfl
        · show am_Ek false am_G0 am_m157 37 _ [.int 0] _ _ _ _ _
          refine am_e_istore_n (ls' := [(1, .int 0), (0, .ref 164)]) (am_nxt_of (i := (116, 1, .istore_n 1, (0, 0, 0), 0)) (by decide +kernel)) (by decide +kernel) rfl ?_
          refine am_e_goto (am_cur_of (i := (117, 3, .goto 185, (139, 0, 0), 0)) (by decide +kernel)) (am_tgt_of (by decide +kernel)) ?_
          refine am_Ek_ls (ls' := [(0, .ref 164), (1, .int 0)]) ⟨rfl, rfl, trivial⟩ ?_
          exact ac_lr_end hX hpk I1 J1 (ab_mdle_Fr (by decide) f1) (Or.inl rfl)
        · show am_Ek false am_G0 am_m157 37 _ [.int 1] _ _ _ _ _
          refine am_e_istore_n (ls' := [(1, .int 1), (0, .ref 164)]) (am_nxt_of (i := (116, 1, .istore_n 1, (0, 0, 0), 0)) (by decide +kernel)) (by decide +kernel) rfl ?_
          refine am_e_goto (am_cur_of (i := (117, 3, .goto 185, (139, 0, 0), 0)) (by decide +kernel)) (am_tgt_of (by decide +kernel)) ?_
          refine am_Ek_ls (ls' := [(0, .ref 164), (1, .int 1)]) ⟨rfl, rfl, trivial⟩ ?_
          exact ac_lr_end hX hpk I1 J1 (ab_mdle_Fr (by decide) f1) (Or.inr ⟨rfl, (ac_qt_ok (by decide) f1).1 h3, (ac_qt_ok (by decide) f1).2 hRC⟩)
      · refine am_e_swI (a := 39) (off := 93) (am_cur_of (i := (27, 45, .tableswitch 178 0 7 #[45, 53, 61, 69, 77, 85, 93, 136], (0, 0, 0), 0)) (by decide +kernel)) (by decide) (by decide) (by decide +kernel) ?_
        refine am_e_aload_n (am_nxt_of (i := (120, 1, .aload_n 0, (0, 0, 0), 0)) (by decide +kernel)) (v := 164) rfl ?_
        refine am_e_iconst (w := 2) (am_nxt_of (i := (121, 1, .iconst 2, (0, 0, 0), 0)) (by decide +kernel)) rfl ?_
        refine am_e_callV (M' := am_m160) (o := 164) (ar := [.int 2]) (rest := []) (L := lv_args 0 [.ref 164, .int 2]) (am_nxt_of (i := (122, 3, .invokevirtual 245, (160, 1673, 3), 0)) (by decide +kernel)) rfl rfl rfl rfl ac_o rfl rfl rfl ?_
        refine am_Ev_mono (ac_use c4 rfl ⟨⟨164, rfl, List.mem_singleton.mpr rfl⟩, ab_i_ok (by decide) (by decide), trivial⟩ hI hj ac_p0) (fun r ks h1 hq => ?_)
        obtain ⟨rfl, I1, J1, f1, c', hc, hg⟩ := hq
        have hr := ac_01 (s := ab_S_isOnce_2) rfl hc hg.1
        have F1 := ab_mdle_Fr (md' := ac_lrM) (by decide) f1
        rcases hr with rfl | rfl
        · show am_Ek false am_G0 am_m157 42 _ [.int 0] _ _ _ _ _
          refine am_e_ifT (am_nxt_of (i := (125, 3, .ifCond .eq 18, (50, 0, 0), 0)) (by decide +kernel)) (am_c_eqT rfl) (am_tgt_of (by decide +kernel)) ?_
          refine am_e_iconst (w := 0) (am_nxt_of (i := (143, 1, .iconst 0, (0, 0, 0), 0)) (by decide +kernel)) rfl ?_
          refine am_e_istore_n (ls' := [(1, .int 0), (0, .ref 164)]) (am_nxt_of (i := (144, 1, .istore_n 1, (0, 0, 0), 0)) (by decide +kernel)) (by decide +kernel) rfl ?_
          refine am_e_iload_n (am_nxt_of (i := (145, 1, .iload_n 1, (0, 0, 0), 0)) (by decide +kernel)) (v := 0) rfl ?_
          refine am_e_ifT (am_nxt_of (i := (146, 3, .ifCond .eq 156, (139, 0, 0), 0)) (by decide +kernel)) (am_c_eqT rfl) (am_tgt_of (by decide +kernel)) ?_
          refine am_Ek_ls (ls' := [(0, .ref 164), (1, .int 0)]) ⟨rfl, rfl, trivial⟩ ?_
          exact ac_lr_end hX hpk I1 J1 F1 (Or.inl rfl)
        · show am_Ek false am_G0 am_m157 42 _ [.int 1] _ _ _ _ _
          refine am_e_ifF (am_nxt_of (i := (125, 3, .ifCond .eq 18, (50, 0, 0), 0)) (by decide +kernel)) (am_c_eqF (by decide)) ?_
          refine am_e_aload_n (am_nxt_of (i := (128, 1, .aload_n 0, (0, 0, 0), 0)) (by decide +kernel)) (v := 164) rfl ?_
          refine am_e_iconst (w := 0) (am_nxt_of (i := (129, 1, .iconst 0, (0, 0, 0), 0)) (by decide +kernel)) rfl ?_
          refine am_e_sipush (w := 999) (am_nxt_of (i := (130, 3, .sipush 999, (0, 0, 0), 0)) (by decide +kernel)) (by decide) ?_
          refine am_e_callV (M' := am_m161) (o := 164) (ar := [.int 999, .int 0]) (rest := []) (L := lv_args 0 [.ref 164, .int 0, .int 999]) (am_nxt_of (i := (133, 3, .invokevirtual 197, (161, 1677, 3), 0)) (by decide +kernel)) rfl rfl rfl rfl ac_o rfl rfl rfl ?_
          refine am_Ev_mono (ac_num c6 rfl (ab_i_ok (by decide) (by decide)) (ab_i_ok (by decide) (by decide)) I1 J1) (fun r ks h2 hq => ?_)
          obtain ⟨rfl, I2, J2, f2, rfl | ⟨rfl, g2, eg2, g0, g1⟩⟩ := hq
          · show am_Ek false am_G0 am_m157 47 _ [.int 0] _ _ _ _ _
            refine am_e_ifT (am_nxt_of (i := (136, 3, .ifCond .eq 7, (50, 0, 0), 0)) (by decide +kernel)) (am_c_eqT rfl) (am_tgt_of (by decide +kernel)) ?_
            refine am_e_iconst (w := 0) (am_nxt_of (i := (143, 1, .iconst 0, (0, 0, 0), 0)) (by decide +kernel)) rfl ?_
            refine am_e_istore_n (ls' := [(1, .int 0), (0, .ref 164)]) (am_nxt_of (i := (144, 1, .istore_n 1, (0, 0, 0), 0)) (by decide +kernel)) (by decide +kernel) rfl ?_
            refine am_e_iload_n (am_nxt_of (i := (145, 1, .iload_n 1, (0, 0, 0), 0)) (by decide +kernel)) (v := 0) rfl ?_
            refine am_e_ifT (am_nxt_of (i := (146, 3, .ifCond .eq 156, (139, 0, 0), 0)) (by decide +kernel)) (am_c_eqT rfl) (am_tgt_of (by decide +kernel)) ?_
            refine am_Ek_ls (ls' := [(0, .ref 164), (1, .int 0)]) ⟨rfl, rfl, trivial⟩ ?_
            exact ac_lr_end hX hpk I2 J2 (ab_Fr_trans F1 (ab_mdle_Fr (by decide) f2)) (Or.inl rfl)
          · show am_Ek false am_G0 am_m157 47 _ [.int 1] _ _ _ _ _
            refine am_e_ifF (am_nxt_of (i := (136, 3, .ifCond .eq 7, (50, 0, 0), 0)) (by decide +kernel)) (am_c_eqF (by decide)) ?_
            refine am_e_iconst (w := 1) (am_nxt_of (i := (139, 1, .iconst 1, (0, 0, 0), 0)) (by decide +kernel)) rfl ?_
            refine am_e_goto (am_cur_of (i := (140, 3, .goto 4, (51, 0, 0), 0)) (by decide +kernel)) (am_tgt_of (by decide +kernel)) ?_
            refine am_e_istore_n (ls' := [(1, .int 1), (0, .ref 164)]) (am_nxt_of (i := (144, 1, .istore_n 1, (0, 0, 0), 0)) (by decide +kernel)) (by decide +kernel) rfl ?_
            refine am_e_iload_n (am_nxt_of (i := (145, 1, .iload_n 1, (0, 0, 0), 0)) (by decide +kernel)) (v := 1) rfl ?_
            refine am_e_ifF (am_nxt_of (i := (146, 3, .ifCond .eq 156, (139, 0, 0), 0)) (by decide +kernel)) (am_c_eqF (by decide)) ?_
            refine am_e_aload_n (am_nxt_of (i := (149, 1, .aload_n 0, (0, 0, 0), 0)) (by decide +kernel)) (v := 164) rfl ?_
            refine am_e_getf (am_nxt_of (i := (150, 3, .getfield 24, (12, 23, 1407), 0)) (by decide +kernel)) ac_o (ac_f23 I2) ?_
            refine am_e_bipush (w := 10) (am_nxt_of (i := (153, 2, .bipush 10, (0, 0, 0), 0)) (by decide +kernel)) (by decide) ?_
            refine am_e_aload_n (am_nxt_of (i := (155, 1, .aload_n 0, (0, 0, 0), 0)) (by decide +kernel)) (v := 164) rfl ?_
            refine am_e_getf (v := .int g2) (am_nxt_of (i := (156, 3, .getfield 188, (12, 11, 1395), 0)) (by decide +kernel)) ac_o eg2 ?_
            refine am_e_iastore (q := 10) (am_nxt_of (i := (159, 1, .iastore, (0, 0, 0), 0)) (by decide +kernel)) ac_k168 (by decide) (by decide) ?_
            have I3 := ac_w168 (q := 10) (v := g2) I2 (by omega) (by omega)
            have J3 := ac_JX_fr hG (md := [(168, 0)]) rfl _ (am_up h2 168 10 (.int g2)) (ab_Fr_up rfl ab_Fr_refl) J2
            refine am_e_goto (am_cur_of (i := (160, 3, .goto 142, (139, 0, 0), 0)) (by decide +kernel)) (am_tgt_of (by decide +kernel)) ?_
            refine am_Ek_ls (ls' := [(0, .ref 164), (1, .int 1)]) ⟨rfl, rfl, trivial⟩ ?_
            refine ac_lr_end hX hpk I3 J3 (ab_Fr_up rfl (ab_Fr_trans F1 (ab_mdle_Fr (by decide) f2))) (Or.inr ⟨rfl, ?_, ?_⟩)
            · exact (ac_qt_ok (by decide) f2).1 ((ac_qt_ok (by decide) f1).1 h3)
            · exact (ac_qt_ok (by decide) f2).2 ((ac_qt_ok (by decide) f1).2 hRC)
      · refine am_e_swI (a := 61) (off := 136) (am_cur_of (i := (27, 45, .tableswitch 178 0 7 #[45, 53, 61, 69, 77, 85, 93, 136], (0, 0, 0), 0)) (by decide +kernel)) (by decide) (by decide) (by decide +kernel) ?_
        refine am_e_aload_n (am_nxt_of (i := (163, 1, .aload_n 0, (0, 0, 0), 0)) (by decide +kernel)) (v := 164) rfl ?_
        refine am_e_iconst (w := 3) (am_nxt_of (i := (164, 1, .iconst 3, (0, 0, 0), 0)) (by decide +kernel)) rfl ?_
        refine am_e_callV (M' := am_m160) (o := 164) (ar := [.int 3]) (rest := []) (L := lv_args 0 [.ref 164, .int 3]) (am_nxt_of (i := (165, 3, .invokevirtual 245, (160, 1673, 3), 0)) (by decide +kernel)) rfl rfl rfl rfl ac_o rfl rfl rfl ?_
        refine am_Ev_mono (ac_use c5 rfl ⟨⟨164, rfl, List.mem_singleton.mpr rfl⟩, ab_i_ok (by decide) (by decide), trivial⟩ hI hj ac_p0) (fun r ks h1 hq => ?_)
        obtain ⟨rfl, I1, J1, f1, c', hc, hg⟩ := hq
        have hr := ac_01 (s := ab_S_isOnce_3) rfl hc hg.1
        have F1 := ab_mdle_Fr (md' := ac_lrM) (by decide) f1
        rcases hr with rfl | rfl
        · show am_Ek false am_G0 am_m157 64 _ [.int 0] _ _ _ _ _
          refine am_e_ifT (am_nxt_of (i := (168, 3, .ifCond .eq 17, (72, 0, 0), 0)) (by decide +kernel)) (am_c_eqT rfl) (am_tgt_of (by decide +kernel)) ?_
          refine am_e_iconst (w := 0) (am_nxt_of (i := (185, 1, .iconst 0, (0, 0, 0), 0)) (by decide +kernel)) rfl ?_
          refine am_e_istore_n (ls' := [(1, .int 0), (0, .ref 164)]) (am_nxt_of (i := (186, 1, .istore_n 1, (0, 0, 0), 0)) (by decide +kernel)) (by decide +kernel) rfl ?_
          refine am_e_iload_n (am_nxt_of (i := (187, 1, .iload_n 1, (0, 0, 0), 0)) (by decide +kernel)) (v := 0) rfl ?_
          refine am_e_ifT (am_nxt_of (i := (188, 3, .ifCond .eq 114, (139, 0, 0), 0)) (by decide +kernel)) (am_c_eqT rfl) (am_tgt_of (by decide +kernel)) ?_
          refine am_Ek_ls (ls' := [(0, .ref 164), (1, .int 0)]) ⟨rfl, rfl, trivial⟩ ?_
          exact ac_lr_end hX hpk I1 J1 F1 (Or.inl rfl)
        · show am_Ek false am_G0 am_m157 64 _ [.int 1] _ _ _ _ _
          refine am_e_ifF (am_nxt_of (i := (168, 3, .ifCond .eq 17, (72, 0, 0), 0)) (by decide +kernel)) (am_c_eqF (by decide)) ?_
          refine am_e_aload_n (am_nxt_of (i := (171, 1, .aload_n 0, (0, 0, 0), 0)) (by decide +kernel)) (v := 164) rfl ?_
          refine am_e_iconst (w := 0) (am_nxt_of (i := (172, 1, .iconst 0, (0, 0, 0), 0)) (by decide +kernel)) rfl ?_
          refine am_e_ldc (w := 99999) (am_nxt_of (i := (173, 2, .ldc 177, (0, 0, 1656), 99999)) (by decide +kernel)) (by decide) ?_
          refine am_e_callV (M' := am_m161) (o := 164) (ar := [.int 99999, .int 0]) (rest := []) (L := lv_args 0 [.ref 164, .int 0, .int 99999]) (am_nxt_of (i := (175, 3, .invokevirtual 197, (161, 1677, 3), 0)) (by decide +kernel)) rfl rfl rfl rfl ac_o rfl rfl rfl ?_
          refine am_Ev_mono (ac_num c7 rfl (ab_i_ok (by decide) (by decide)) (ab_i_ok (by decide) (by decide)) I1 J1) (fun r ks h2 hq => ?_)
          obtain ⟨rfl, I2, J2, f2, rfl | ⟨rfl, g2, eg2, g0, g1⟩⟩ := hq
          · show am_Ek false am_G0 am_m157 69 _ [.int 0] _ _ _ _ _
            refine am_e_ifT (am_nxt_of (i := (178, 3, .ifCond .eq 7, (72, 0, 0), 0)) (by decide +kernel)) (am_c_eqT rfl) (am_tgt_of (by decide +kernel)) ?_
            refine am_e_iconst (w := 0) (am_nxt_of (i := (185, 1, .iconst 0, (0, 0, 0), 0)) (by decide +kernel)) rfl ?_
            refine am_e_istore_n (ls' := [(1, .int 0), (0, .ref 164)]) (am_nxt_of (i := (186, 1, .istore_n 1, (0, 0, 0), 0)) (by decide +kernel)) (by decide +kernel) rfl ?_
            refine am_e_iload_n (am_nxt_of (i := (187, 1, .iload_n 1, (0, 0, 0), 0)) (by decide +kernel)) (v := 0) rfl ?_
            refine am_e_ifT (am_nxt_of (i := (188, 3, .ifCond .eq 114, (139, 0, 0), 0)) (by decide +kernel)) (am_c_eqT rfl) (am_tgt_of (by decide +kernel)) ?_
            refine am_Ek_ls (ls' := [(0, .ref 164), (1, .int 0)]) ⟨rfl, rfl, trivial⟩ ?_
            exact ac_lr_end hX hpk I2 J2 (ab_Fr_trans F1 (ab_mdle_Fr (by decide) f2)) (Or.inl rfl)
          · show am_Ek false am_G0 am_m157 69 _ [.int 1] _ _ _ _ _
            refine am_e_ifF (am_nxt_of (i := (178, 3, .ifCond .eq 7, (72, 0, 0), 0)) (by decide +kernel)) (am_c_eqF (by decide)) ?_
            refine am_e_iconst (w := 1) (am_nxt_of (i := (181, 1, .iconst 1, (0, 0, 0), 0)) (by decide +kernel)) rfl ?_
            refine am_e_goto (am_cur_of (i := (182, 3, .goto 4, (73, 0, 0), 0)) (by decide +kernel)) (am_tgt_of (by decide +kernel)) ?_
            refine am_e_istore_n (ls' := [(1, .int 1), (0, .ref 164)]) (am_nxt_of (i := (186, 1, .istore_n 1, (0, 0, 0), 0)) (by decide +kernel)) (by decide +kernel) rfl ?_
            refine am_e_iload_n (am_nxt_of (i := (187, 1, .iload_n 1, (0, 0, 0), 0)) (by decide +kernel)) (v := 1) rfl ?_
            refine am_e_ifF (am_nxt_of (i := (188, 3, .ifCond .eq 114, (139, 0, 0), 0)) (by decide +kernel)) (am_c_eqF (by decide)) ?_
            refine am_e_aload_n (am_nxt_of (i := (191, 1, .aload_n 0, (0, 0, 0), 0)) (by decide +kernel)) (v := 164) rfl ?_
            refine am_e_getf (am_nxt_of (i := (192, 3, .getfield 24, (12, 23, 1407), 0)) (by decide +kernel)) ac_o (ac_f23 I2) ?_
            refine am_e_bipush (w := 11) (am_nxt_of (i := (195, 2, .bipush 11, (0, 0, 0), 0)) (by decide +kernel)) (by decide) ?_
            refine am_e_aload_n (am_nxt_of (i := (197, 1, .aload_n 0, (0, 0, 0), 0)) (by decide +kernel)) (v := 164) rfl ?_
            refine am_e_getf (v := .int g2) (am_nxt_of (i := (198, 3, .getfield 188, (12, 11, 1395), 0)) (by decide +kernel)) ac_o eg2 ?_
            refine am_e_iastore (q := 11) (am_nxt_of (i := (201, 1, .iastore, (0, 0, 0), 0)) (by decide +kernel)) ac_k168 (by decide) (by decide) ?_
            have I3 := ac_w168 (q := 11) (v := g2) I2 (by omega) (by omega)
            have J3 := ac_JX_fr hG (md := [(168, 0)]) rfl _ (am_up h2 168 11 (.int g2)) (ab_Fr_up rfl ab_Fr_refl) J2
            refine am_e_goto (am_cur_of (i := (202, 3, .goto 100, (139, 0, 0), 0)) (by decide +kernel)) (am_tgt_of (by decide +kernel)) ?_
            refine am_Ek_ls (ls' := [(0, .ref 164), (1, .int 1)]) ⟨rfl, rfl, trivial⟩ ?_
            refine ac_lr_end hX hpk I3 J3 (ab_Fr_up rfl (ab_Fr_trans F1 (ab_mdle_Fr (by decide) f2))) (Or.inr ⟨rfl, ?_, ?_⟩)
            · exact (ac_qt_ok (by decide) f2).1 ((ac_qt_ok (by decide) f1).1 h3)
            · exact (ac_qt_ok (by decide) f2).2 ((ac_qt_ok (by decide) f1).2 hRC)
      · refine am_e_swO (a := 83) (am_cur_of (i := (27, 45, .tableswitch 178 0 7 #[45, 53, 61, 69, 77, 85, 93, 136], (0, 0, 0), 0)) (by decide +kernel)) (by decide) (by decide +kernel) ?_
        exact ac_lr_law hX hpk hI hj ab_Fr_refl h3 hRC
  · refine am_e_cmpT (am_nxt_of (i := (5, 3, .if_icmp .ne 12, (8, 0, 0), 0)) (by decide +kernel)) (am_c_neT hk1) (am_tgt_of (by decide +kernel)) ?_
    exact hwr
end ACI
