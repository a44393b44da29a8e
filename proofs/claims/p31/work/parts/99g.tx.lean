/-! ===== THE MODEL'S text (wip/s/gen99g.py) ===== -/
abbrev ac_txM : List (Nat × Nat) := [(164, 5), (164, 6), (164, 7), (164, 8), (164, 9), (164, 10), (164, 11), (164, 12), (164, 13), (164, 14), (164, 15), (164, 16), (164, 17), (164, 18), (164, 19), (164, 20), (164, 21), (164, 22), (164, 42), (164, 43), (164, 44), (164, 45), (164, 46), (164, 47), (164, 58), (164, 59), (164, 60), (164, 61), (164, 62), (164, 63), (164, 74), (164, 75), (164, 78), (164, 80), (167, 0), (168, 0), (169, 0), (170, 0), (171, 0), (172, 0), (173, 0), (174, 0), (175, 0), (176, 0), (177, 0), (178, 0), (179, 0), (180, 0), (181, 0), (182, 0), (183, 0), (184, 0), (185, 0), (188, 0), (189, 0), (190, 0), (191, 0), (192, 0), (193, 0), (194, 0)]
def ac_YF (Y : am_H → Prop) : Prop := ∀ h h' : am_H, (∀ o k, o < 164 → h' o k = h o k) → Y h → Y h'
theorem ac_YF_XF {Y : am_H → Prop} (hY : ac_YF Y) : ac_XF Y := by
  refine ⟨fun h h' ht hy => hY h h' (fun o k ho => ht.1 o k ?_) hy, fun h h' ho _ _ _ hy => hY h h' ho hy⟩
  unfold ab_in
  simp only [List.any_cons, List.any_nil, Bool.or_false]
  have : Nat.beq 164 o = false := by
    cases hb : Nat.beq 164 o with
    | false => rfl
    | true => have := Nat.eq_of_beq_eq_true hb; omega
  rw [this]
  rfl
section ACX
variable {Y : am_H → Prop} {h0 : am_H}
abbrev ac_txQ (Y : am_H → Prop) (h0 : am_H) : Option Value → List am_k → am_H → Prop := fun r ks h' => ks = am_ks0 ∧ ab_Inv (ab_hi ab_tab) h' ∧ ac_JX Y h' ∧ ab_Fr ac_txM h0 h' ∧ ∃ x : Int32, r = some (.int x)
theorem ac_tx_loop (hX : ac_XF Y) (hpk : ab_Con ab_tab (fun _ => True) ab_S_packed_x_x) (hLC : ∀ X, ac_XF X → ac_LC (ac_JX X)) (hbg : ab_Con ab_tab (ac_JX Y) ab_S_begin) {n : Int32} : ∀ (m : Nat) (l : Int32) (h : am_H), ab_Inv (ab_hi ab_tab) h → ac_JX Y h → ab_Fr ac_txM h0 h → ac_R3 h → ac_RC h → ac_Mu m h → am_Ek false am_G0 am_m150 32 [(0, .ref 164), (1, .int n), (2, .int l)] [] am_ks0 h 0 0 (ac_txQ Y h0) := by
  have key : ∀ (m : Int), (∀ (l : Int32) (h : am_H), ab_Inv (ab_hi ab_tab) h → ac_JX Y h → ab_Fr ac_txM h0 h → ac_R3 h → ac_RC h → ac_Mu (m - 1) h → am_Ek false am_G0 am_m150 32 [(0, .ref 164), (1, .int n), (2, .int l)] [] am_ks0 h 0 0 (ac_txQ Y h0)) → ∀ (l : Int32) (h : am_H), ab_Inv (ab_hi ab_tab) h → ac_JX Y h → ab_Fr ac_txM h0 h → ac_R3 h → ac_RC h → ac_Mu m h → am_Ek false am_G0 am_m150 32 [(0, .ref 164), (1, .int n), (2, .int l)] [] am_ks0 h 0 0 (ac_txQ Y h0) := by
    intro m ih l h hI hj hF h3 hRC hMu
    obtain ⟨-, hNp, k, w, ek, ew, -⟩ := ac_JX_parts hj
    refine am_e_aload_n (am_nxt_of (i := (55, 1, .aload_n 0, (0, 0, 0), 0)) (by decide +kernel)) (v := 164) rfl ?_
    refine am_e_getf (v := .int k) (am_nxt_of (i := (56, 3, .getfield 157, (12, 8, 1392), 0)) (by decide +kernel)) ac_o ek ?_
    by_cases hk : (k : Int32) = 0
    · refine am_e_ifT (am_nxt_of (i := (59, 3, .ifCond .eq 18, (42, 0, 0), 0)) (by decide +kernel)) (am_c_eqT hk) (am_tgt_of (by decide +kernel)) ?_
      refine am_e_aload_n (am_nxt_of (i := (77, 1, .aload_n 0, (0, 0, 0), 0)) (by decide +kernel)) (v := 164) rfl ?_
      refine am_e_callV (M' := am_m144) (o := 164) (ar := []) (rest := []) (L := lv_args 0 [.ref 164]) (am_nxt_of (i := (78, 3, .invokevirtual 136, (144, 1361, 3), 0)) (by decide +kernel)) rfl rfl rfl rfl ac_o rfl rfl rfl ?_
      refine am_Ev_mono (ac_keepText hX hbg hI hj h3) (fun r ks h1 hq => ?_)
      obtain ⟨rfl, rfl, I1, J1, g, f1, f2⟩ := hq
      show am_Ek false am_G0 am_m150 44 _ [] _ _ _ _ _
      refine am_e_iload_n (am_nxt_of (i := (81, 1, .iload_n 2, (0, 0, 0), 0)) (by decide +kernel)) (v := l) rfl ?_
      exact am_e_iret (ty := .int) (am_cur_of (i := (82, 1, .ireturn, (0, 0, 0), 0)) (by decide +kernel)) rfl rfl rfl ⟨rfl, I1, J1, ab_Fr_trans hF (ab_Fr_trans (ab_mdle_Fr (by decide) f1) (ab_mdle_Fr (by decide) f2)), _, rfl⟩
    · refine am_e_ifF (am_nxt_of (i := (59, 3, .ifCond .eq 18, (42, 0, 0), 0)) (by decide +kernel)) (am_c_eqF hk) ?_
      refine am_e_aload_n (am_nxt_of (i := (62, 1, .aload_n 0, (0, 0, 0), 0)) (by decide +kernel)) (v := 164) rfl ?_
      refine am_e_callV (M' := am_m157) (o := 164) (ar := []) (rest := []) (L := lv_args 0 [.ref 164]) (am_nxt_of (i := (63, 3, .invokevirtual 274, (157, 1661, 3), 0)) (by decide +kernel)) rfl rfl rfl rfl ac_o rfl rfl rfl ?_
      refine am_Ev_mono (ac_lineRead hX hpk hLC hI hj h3 hRC hMu) (fun r ks h1 hq => ?_)
      obtain ⟨rfl, I1, J1, f1, rfl | ⟨rfl, g1, g2, g3⟩⟩ := hq
      · show am_Ek false am_G0 am_m150 37 _ [.int 0] _ _ _ _ _
        refine am_e_ifF (am_nxt_of (i := (66, 3, .ifCond .ne 5, (40, 0, 0), 0)) (by decide +kernel)) (am_c_neF rfl) ?_
        refine am_e_iconst (w := (-1)) (am_nxt_of (i := (69, 1, .iconst (-1), (0, 0, 0), 0)) (by decide +kernel)) rfl ?_
        exact am_e_iret (ty := .int) (am_cur_of (i := (70, 1, .ireturn, (0, 0, 0), 0)) (by decide +kernel)) rfl rfl rfl ⟨rfl, I1, J1, ab_Fr_trans hF (ab_mdle_Fr (by decide) f1), _, rfl⟩
      · show am_Ek false am_G0 am_m150 37 _ [.int 1] _ _ _ _ _
        refine am_e_ifT (am_nxt_of (i := (66, 3, .ifCond .ne 5, (40, 0, 0), 0)) (by decide +kernel)) (am_c_neT (by decide)) (am_tgt_of (by decide +kernel)) ?_
        refine am_e_iinc (w := l + Int32.ofInt 1) (ls' := [(2, .int (l + Int32.ofInt 1)), (0, .ref 164), (1, .int n)]) (am_nxt_of (i := (71, 3, .iinc 2 1, (0, 0, 0), 0)) (by decide +kernel)) (v := l) rfl (by decide +kernel) rfl rfl ?_
        refine am_e_goto (am_cur_of (i := (74, 3, .goto (-19), (32, 0, 0), 0)) (by decide +kernel)) (am_tgt_of (by decide +kernel)) ?_
        refine am_Ek_ls (ls' := [(0, .ref 164), (1, .int n), (2, .int (l + Int32.ofInt 1))]) ⟨rfl, rfl, rfl, trivial⟩ ?_
        exact ih _ h1 I1 J1 (ab_Fr_trans hF (ab_mdle_Fr (by decide) f1)) g1 g2 g3
  intro m
  induction m with
  | zero =>
    refine key 0 (fun l h hI hj hF h3 hRC hMu => ?_)
    exfalso
    obtain ⟨nn, ns, nk, m1, m2, m3, m4⟩ := hMu
    obtain ⟨n1, s1, e1, e2, e3⟩ := (ac_JX_parts hj).2.1
    rw [m1] at e1
    rw [m2] at e2
    cases e1
    cases e2
    have : (0 : Int) ≤ (if nk.toInt = 0 then 0 else 1) := by split <;> decide
    omega
  | succ m ih =>
    refine key ((m + 1 : Nat) : Int) (fun l h hI hj hF h3 hRC hMu => ?_)
    rw [show ((m + 1 : Nat) : Int) - 1 = m by omega] at hMu
    exact ih l h hI hj hF h3 hRC hMu
theorem ac_text (hY : ac_YF Y) (hpk : ab_Con ab_tab (fun _ => True) ab_S_packed_x_x) (hLC : ∀ X, ac_XF X → ac_LC (ac_JX X)) (hbg : ab_Con ab_tab (ac_JX Y) ab_S_begin) {n t : Int32} {h : am_H} (hI : ab_Inv (ab_hi ab_tab) h) (hj : ac_JX Y h) (et : h 164 1 = .int t) : am_Ek false am_G0 am_m150 0 (lv_args 0 [.ref 164, .int n]) [] am_ks0 h 0 0 (fun r ks h' => ks = am_ks0 ∧ ab_Inv (ab_hi ab_tab) h' ∧ ac_JX Y h' ∧ ab_Fr ((164, 2) :: (164, 3) :: ac_txM) h h' ∧ (∃ x : Int32, r = some (.int x)) ∧ ((n < 0 ∨ t < n) ∧ h' 164 1 = .int t ∨ ¬ (n < 0 ∨ t < n) ∧ h' 164 1 = .int 0)) := by
  have hX := ac_YF_XF hY
  obtain ⟨t', et', t0, t7⟩ := ac_g1 hI
  rw [et] at et'
  cases et'
  refine am_e_aload_n (am_nxt_of (i := (0, 1, .aload_n 0, (0, 0, 0), 0)) (by decide +kernel)) (v := 164) rfl ?_
  refine am_e_iconst (w := 0) (am_nxt_of (i := (1, 1, .iconst 0, (0, 0, 0), 0)) (by decide +kernel)) rfl ?_
  have I1 := ac_p2 (v := 0) hI (by decide) (by decide)
  have J1 := ac_JX_fr hX (md := [(164, 3)]) rfl _ (am_up h 164 2 (.int 0)) (ab_Fr_up rfl ab_Fr_refl) hj
  refine am_e_putf (am_nxt_of (i := (2, 3, .putfield 139, (12, 2, 1386), 0)) (by decide +kernel)) ac_o rfl ?_
  refine am_e_iload_n (am_nxt_of (i := (5, 1, .iload_n 1, (0, 0, 0), 0)) (by decide +kernel)) (v := n) rfl ?_
  by_cases hn0 : (n : Int32) < 0
  · refine am_e_ifT (am_nxt_of (i := (6, 3, .ifCond .lt 11, (9, 0, 0), 0)) (by decide +kernel)) (am_c_ltT hn0) (am_tgt_of (by decide +kernel)) ?_
    refine am_e_bipush (w := (-2)) (am_nxt_of (i := (17, 2, .bipush (-2), (0, 0, 0), 0)) (by decide +kernel)) (by decide) ?_
    exact am_e_iret (ty := .int) (am_cur_of (i := (19, 1, .ireturn, (0, 0, 0), 0)) (by decide +kernel)) rfl rfl rfl ⟨rfl, I1, J1, ab_Fr_up rfl ab_Fr_refl, ⟨_, rfl⟩, Or.inl ⟨Or.inl hn0, et⟩⟩
  · refine am_e_ifF (am_nxt_of (i := (6, 3, .ifCond .lt 11, (9, 0, 0), 0)) (by decide +kernel)) (am_c_ltF hn0) ?_
    refine am_e_iload_n (am_nxt_of (i := (9, 1, .iload_n 1, (0, 0, 0), 0)) (by decide +kernel)) (v := n) rfl ?_
    refine am_e_aload_n (am_nxt_of (i := (10, 1, .aload_n 0, (0, 0, 0), 0)) (by decide +kernel)) (v := 164) rfl ?_
    refine am_e_getf (v := .int t) (am_nxt_of (i := (11, 3, .getfield 142, (12, 1, 1385), 0)) (by decide +kernel)) ac_o et ?_
    by_cases hnt : (t : Int32) < n
    · refine am_e_cmpF (am_nxt_of (i := (14, 3, .if_icmp .le 6, (11, 0, 0), 0)) (by decide +kernel)) (am_c_leF hnt) ?_
      refine am_e_bipush (w := (-2)) (am_nxt_of (i := (17, 2, .bipush (-2), (0, 0, 0), 0)) (by decide +kernel)) (by decide) ?_
      exact am_e_iret (ty := .int) (am_cur_of (i := (19, 1, .ireturn, (0, 0, 0), 0)) (by decide +kernel)) rfl rfl rfl ⟨rfl, I1, J1, ab_Fr_up rfl ab_Fr_refl, ⟨_, rfl⟩, Or.inl ⟨Or.inr hnt, et⟩⟩
    · refine am_e_cmpT (am_nxt_of (i := (14, 3, .if_icmp .le 6, (11, 0, 0), 0)) (by decide +kernel)) (am_c_leT hnt) (am_tgt_of (by decide +kernel)) ?_
      have n0 := ac_nlt' hn0
      have nt := ac_nlt' hnt
      have z0 : (0 : Int32).toInt = 0 := by decide
      refine am_e_aload_n (am_nxt_of (i := (20, 1, .aload_n 0, (0, 0, 0), 0)) (by decide +kernel)) (v := 164) rfl ?_
      refine am_e_iload_n (am_nxt_of (i := (21, 1, .iload_n 1, (0, 0, 0), 0)) (by decide +kernel)) (v := n) rfl ?_
      have I2 := ac_p6 (v := n) I1 (by omega) (by omega)
      refine am_e_putf (am_nxt_of (i := (22, 3, .putfield 151, (12, 6, 1390), 0)) (by decide +kernel)) ac_o rfl ?_
      refine am_e_aload_n (am_nxt_of (i := (25, 1, .aload_n 0, (0, 0, 0), 0)) (by decide +kernel)) (v := 164) rfl ?_
      refine am_e_iconst (w := 0) (am_nxt_of (i := (26, 1, .iconst 0, (0, 0, 0), 0)) (by decide +kernel)) rfl ?_
      have I3 := ac_p1 (v := 0) I2 (by decide) (by decide)
      refine am_e_putf (am_nxt_of (i := (27, 3, .putfield 142, (12, 1, 1385), 0)) (by decide +kernel)) ac_o rfl ?_
      refine am_e_aload_n (am_nxt_of (i := (30, 1, .aload_n 0, (0, 0, 0), 0)) (by decide +kernel)) (v := 164) rfl ?_
      refine am_e_iconst (w := 0) (am_nxt_of (i := (31, 1, .iconst 0, (0, 0, 0), 0)) (by decide +kernel)) rfl ?_
      have I4 := ac_p4 (v := 0) I3 (by decide) (by decide)
      refine am_e_putf (am_nxt_of (i := (32, 3, .putfield 145, (12, 4, 1388), 0)) (by decide +kernel)) ac_o rfl ?_
      refine am_e_aload_n (am_nxt_of (i := (35, 1, .aload_n 0, (0, 0, 0), 0)) (by decide +kernel)) (v := 164) rfl ?_
      refine am_e_iconst (w := (-1)) (am_nxt_of (i := (36, 1, .iconst (-1), (0, 0, 0), 0)) (by decide +kernel)) rfl ?_
      have I5 := ac_p5 (v := (-1)) I4 (by decide) (by decide)
      refine am_e_putf (am_nxt_of (i := (37, 3, .putfield 16, (12, 5, 1389), 0)) (by decide +kernel)) ac_o rfl ?_
      refine am_e_aload_n (am_nxt_of (i := (40, 1, .aload_n 0, (0, 0, 0), 0)) (by decide +kernel)) (v := 164) rfl ?_
      refine am_e_iconst (w := 0) (am_nxt_of (i := (41, 1, .iconst 0, (0, 0, 0), 0)) (by decide +kernel)) rfl ?_
      have I6 := ac_p7 (v := 0) I5 (by decide) (by decide)
      refine am_e_putf (am_nxt_of (i := (42, 3, .putfield 154, (12, 7, 1391), 0)) (by decide +kernel)) ac_o rfl ?_
      have J6 : ac_JX Y (am_up (am_up (am_up (am_up (am_up (am_up h 164 2 (.int 0)) 164 6 (.int n)) 164 1 (.int 0)) 164 4 (.int 0)) 164 5 (.int (-1))) 164 7 (.int 0)) := by
        obtain ⟨⟨j1, j2, j3, j4, j5, j6, j7, j8, j9, j10, j11, j12, j13⟩, hx⟩ := hj
        refine ⟨⟨j1, j2, j3, j4, j5, j6, j7, j8, j9, j10, j11, ⟨0, n, rfl, rfl, by omega⟩, j13⟩, hY h _ (fun o k ho => ?_) hx⟩
        have h1 : ¬ o = 164 := by omega
        rw [am_up_other _ _ _ _ _ h1, am_up_other _ _ _ _ _ h1, am_up_other _ _ _ _ _ h1, am_up_other _ _ _ _ _ h1, am_up_other _ _ _ _ _ h1, am_up_other _ _ _ _ _ h1]
      have F6 : ab_Fr ((164, 2) :: (164, 3) :: ac_txM) h (am_up (am_up (am_up (am_up (am_up (am_up h 164 2 (.int 0)) 164 6 (.int n)) 164 1 (.int 0)) 164 4 (.int 0)) 164 5 (.int (-1))) 164 7 (.int 0)) := ab_Fr_up rfl (ab_Fr_up rfl (ab_Fr_up rfl (ab_Fr_up rfl (ab_Fr_up rfl (ab_Fr_up rfl ab_Fr_refl)))))
      have t6 : (am_up (am_up (am_up (am_up (am_up (am_up h 164 2 (.int 0)) 164 6 (.int n)) 164 1 (.int 0)) 164 4 (.int 0)) 164 5 (.int (-1))) 164 7 (.int 0)) 164 1 = .int 0 := rfl
      generalize (am_up (am_up (am_up (am_up (am_up (am_up h 164 2 (.int 0)) 164 6 (.int n)) 164 1 (.int 0)) 164 4 (.int 0)) 164 5 (.int (-1))) 164 7 (.int 0)) = h6 at I6 J6 F6 t6 ⊢
      refine am_e_aload_n (am_nxt_of (i := (45, 1, .aload_n 0, (0, 0, 0), 0)) (by decide +kernel)) (v := 164) rfl ?_
      refine am_e_callV (M' := am_m143) (o := 164) (ar := []) (rest := []) (L := lv_args 0 [.ref 164]) (am_nxt_of (i := (46, 3, .invokevirtual 133, (143, 1357, 3), 0)) (by decide +kernel)) rfl rfl rfl rfl ac_o rfl rfl rfl ?_
      refine am_Ev_mono (ac_plain hX I6 J6) (fun r ks h7 hq => ?_)
      obtain ⟨rfl, rfl, I7, J7, f7, h37, hRC7⟩ := hq
      show am_Ek false am_G0 am_m150 28 _ [] _ _ _ _ _
      refine am_e_aload_n (am_nxt_of (i := (49, 1, .aload_n 0, (0, 0, 0), 0)) (by decide +kernel)) (v := 164) rfl ?_
      refine am_e_callV (M' := am_m151) (o := 164) (ar := []) (rest := []) (L := lv_args 0 [.ref 164]) (am_nxt_of (i := (50, 3, .invokevirtual 191, (151, 1636, 3), 0)) (by decide +kernel)) rfl rfl rfl rfl ac_o rfl rfl rfl ?_
      refine am_Ev_mono (ac_token hpk I7 (ac_JX_parts J7).1 (ac_JX_parts J7).2.1) (fun r ks h8 hq => ?_)
      obtain ⟨rfl, rfl, I8, tk8⟩ := hq
      show am_Ek false am_G0 am_m150 30 _ [] _ _ _ _ _
      have J8 := ac_JX_tk hX _ _ tk8 J7
      have Q8 := ac_qt_ok (md := ac_tkM) rfl tk8.1
      have F8 := ab_Fr_trans (ab_mdle_Fr (md' := ac_txM) (by decide) f7) (ab_mdle_Fr (md' := ac_txM) (by decide) tk8.1)
      obtain ⟨n8, s8, en8, es8, hns⟩ := (ac_JX_parts J8).2.1
      obtain ⟨k8, w8, ek8, -⟩ := (ac_JX_parts J8).2.2
      refine am_e_iconst (w := 0) (am_nxt_of (i := (53, 1, .iconst 0, (0, 0, 0), 0)) (by decide +kernel)) rfl ?_
      refine am_e_istore_n (ls' := [(2, .int 0), (0, .ref 164), (1, .int n)]) (am_nxt_of (i := (54, 1, .istore_n 2, (0, 0, 0), 0)) (by decide +kernel)) (by decide +kernel) rfl ?_
      refine am_Ek_ls (ls' := [(0, .ref 164), (1, .int n), (2, .int 0)]) ⟨rfl, rfl, rfl, trivial⟩ ?_
      have hif : (if k8.toInt = 0 then (0 : Int) else 1) ≤ 1 := by split <;> decide
      refine am_Ev_mono (ac_tx_loop (h0 := h6) hX hpk hLC hbg (s8.toInt - n8.toInt + 1).toNat 0 h8 I8 J8 F8 (Q8.1 h37) (Q8.2 hRC7) ⟨n8, s8, k8, en8, es8, ek8, by omega⟩) (fun r ks h9 hq => ?_)
      obtain ⟨q1, q2, q3, q4, q5⟩ := hq
      exact ⟨q1, q2, q3, ab_Fr_trans F6 (ab_mdle_Fr (by decide) q4), q5, Or.inr ⟨fun q => by rcases q with q | q; exact hn0 q; exact hnt q, (q4 164 1 (by decide)).trans t6⟩⟩
end ACX
