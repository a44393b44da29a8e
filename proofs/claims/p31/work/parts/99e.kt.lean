/-! ===== THE MODEL'S plain, copies, keepText (wip/s/gen99e.py) ===== -/
/-- a law that is read has a knot -/
def ac_R3 (h : am_H) : Prop := ∀ k, k < 3 → h 178 (3 + k) = .int 1 → ∃ v : Int32, h 180 (3 + k) = .int v ∧ 1 ≤ v.toInt ∧ v.toInt ≤ 64
def ac_RC (h : am_H) : Prop := ∃ R : Int32, h 164 21 = .int R ∧ h 164 44 = .int R
abbrev ac_plM : List (Nat × Nat) := [(164, 18), (164, 19), (164, 20), (164, 21), (164, 22), (164, 45), (167, 0), (168, 0), (178, 0)]
section ACE
variable {X : am_H → Prop}
theorem ac_J_17 (hX : ac_XF X) {h : am_H} (hj : ac_JX X h) : ac_JX X (am_up h 164 17 (.int 0)) := by
  obtain ⟨⟨j1, j2, j3, j4, j5, j6, j7, j8, j9, j10, j11, j12, j13⟩, hx⟩ := hj
  refine ⟨⟨j1, j2, j3, j4, j5, j6, j7, j8, j9, j10, fun k n e hk => ?_, j12, j13⟩, ac_X_up hX (by decide) (fun _ => by decide) hx⟩
  have e : Value.int 0 = .int n := e
  cases e
  have : (0 : Int32).toInt = 0 := by decide
  omega
theorem ac_J_18 (hX : ac_XF X) {h : am_H} (hj : ac_JX X h) : ac_JX X (am_up h 164 18 (.int 0)) := by
  obtain ⟨⟨j1, j2, j3, j4, j5, j6, j7, j8, j9, j10, j11, j12, j13⟩, hx⟩ := hj
  refine ⟨⟨j1, j2, j3, j4, j5, j6, j7, j8, j9, fun k n e hk => ?_, j11, j12, j13⟩, ac_X_up hX (by decide) (fun _ => by decide) hx⟩
  have e : Value.int 0 = .int n := e
  cases e
  have : (0 : Int32).toInt = 0 := by decide
  omega
theorem ac_J_19 (hX : ac_XF X) {h : am_H} (hj : ac_JX X h) : ac_JX X (am_up h 164 19 (.int 0)) := by
  obtain ⟨⟨j1, j2, j3, j4, j5, j6, j7, j8, j9, j10, j11, j12, j13⟩, hx⟩ := hj
  refine ⟨⟨j1, j2, j3, j4, j5, j6, j7, j8, fun n e hk => ?_, j10, j11, j12, j13⟩, ac_X_up hX (by decide) (fun _ => by decide) hx⟩
  have e : Value.int 0 = .int n := e
  cases e
  have : (0 : Int32).toInt = 0 := by decide
  omega
theorem ac_J_178 (hX : ac_XF X) {h : am_H} {q : Nat} {v : Value} (hq : 3 ≤ q) (hj : ac_JX X h) : ac_JX X (am_up h 178 q v) := by
  obtain ⟨⟨j1, j2, j3, j4, j5, j6, j7, j8, j9, j10, j11, j12, j13⟩, hx⟩ := hj
  refine ⟨⟨j1, j2, fun k hk e => ?_, j4, j5, j6, j7, j8, j9, j10, j11, j12, j13⟩, ac_X_up hX (by decide) (fun e => absurd e (by decide)) hx⟩
  rw [am_up_same _ _ _ _ _ (by omega)] at e
  exact j3 k hk e
theorem ac_J_180 (hX : ac_XF X) {h : am_H} {q : Nat} {v : Value} (hq : 3 ≤ q) (hj : ac_JX X h) : ac_JX X (am_up h 180 q v) := by
  obtain ⟨⟨j1, j2, j3, j4, j5, j6, j7, j8, j9, j10, j11, j12, j13⟩, hx⟩ := hj
  refine ⟨⟨j1, j2, fun k hk e => ?_, j4, j5, j6, j7, j8, j9, j10, j11, j12, j13⟩, ac_X_up hX (by decide) (fun e => absurd e (by decide)) hx⟩
  obtain ⟨v', g1, g2⟩ := j3 k hk e
  exact ⟨v', (am_up_same _ _ _ _ _ (by omega)).trans g1, g2⟩
theorem ac_plain (hX : ac_XF X) {h : am_H} (hI : ab_Inv (ab_hi ab_tab) h) (hj : ac_JX X h) : am_Ek false am_G0 am_m143 0 (lv_args 0 [.ref 164]) [] am_ks0 h 0 0 (fun r ks h' => ks = am_ks0 ∧ r = none ∧ ab_Inv (ab_hi ab_tab) h' ∧ ac_JX X h' ∧ ab_Fr ac_plM h h' ∧ ac_R3 h' ∧ ac_RC h') := by
  refine am_e_aload_n (am_nxt_of (i := (0, 1, .aload_n 0, (0, 0, 0), 0)) (by decide +kernel)) (v := 164) rfl ?_
  refine am_e_iconst (w := 0) (am_nxt_of (i := (1, 1, .iconst 0, (0, 0, 0), 0)) (by decide +kernel)) rfl ?_
  refine am_e_putf (am_nxt_of (i := (2, 3, .putfield 201, (12, 17, 1401), 0)) (by decide +kernel)) ac_o rfl ?_
  have I1 := ac_p17 (v := 0) hI (by decide) (by decide)
  have J1 := ac_J_17 hX hj
  have F1 : ab_Fr ac_plM h (am_up h 164 17 (.int 0)) := ab_Fr_up rfl ab_Fr_refl
  have e164_17' : (am_up h 164 17 (.int 0)) 164 17 = .int 0 := rfl
  generalize am_up h 164 17 (.int 0) = h1 at I1 J1 F1 e164_17' ⊢
  have e164_17 := e164_17'
  clear e164_17'
  clear e164_17
  refine am_e_aload_n (am_nxt_of (i := (5, 1, .aload_n 0, (0, 0, 0), 0)) (by decide +kernel)) (v := 164) rfl ?_
  refine am_e_iconst (w := 0) (am_nxt_of (i := (6, 1, .iconst 0, (0, 0, 0), 0)) (by decide +kernel)) rfl ?_
  refine am_e_putf (am_nxt_of (i := (7, 3, .putfield 204, (12, 18, 1402), 0)) (by decide +kernel)) ac_o rfl ?_
  have I2 := ac_p18 (v := 0) I1 (by decide) (by decide)
  have J2 := ac_J_18 hX J1
  have F2 : ab_Fr ac_plM h (am_up h1 164 18 (.int 0)) := ab_Fr_up rfl F1
  have e164_18' : (am_up h1 164 18 (.int 0)) 164 18 = .int 0 := rfl
  generalize am_up h1 164 18 (.int 0) = h2 at I2 J2 F2 e164_18' ⊢
  have e164_18 := e164_18'
  clear e164_18'
  clear e164_18
  refine am_e_aload_n (am_nxt_of (i := (10, 1, .aload_n 0, (0, 0, 0), 0)) (by decide +kernel)) (v := 164) rfl ?_
  refine am_e_iconst (w := 0) (am_nxt_of (i := (11, 1, .iconst 0, (0, 0, 0), 0)) (by decide +kernel)) rfl ?_
  refine am_e_putf (am_nxt_of (i := (12, 3, .putfield 207, (12, 19, 1403), 0)) (by decide +kernel)) ac_o rfl ?_
  have I3 := ac_p19 (v := 0) I2 (by decide) (by decide)
  have J3 := ac_J_19 hX J2
  have F3 : ab_Fr ac_plM h (am_up h2 164 19 (.int 0)) := ab_Fr_up rfl F2
  have e164_19' : (am_up h2 164 19 (.int 0)) 164 19 = .int 0 := rfl
  generalize am_up h2 164 19 (.int 0) = h3 at I3 J3 F3 e164_19' ⊢
  have e164_19 := e164_19'
  clear e164_19'
  clear e164_19
  refine am_e_aload_n (am_nxt_of (i := (15, 1, .aload_n 0, (0, 0, 0), 0)) (by decide +kernel)) (v := 164) rfl ?_
  refine am_e_iconst (w := 0) (am_nxt_of (i := (16, 1, .iconst 0, (0, 0, 0), 0)) (by decide +kernel)) rfl ?_
  refine am_e_putf (am_nxt_of (i := (17, 3, .putfield 210, (12, 20, 1404), 0)) (by decide +kernel)) ac_o rfl ?_
  have I4 := ac_p20 (v := 0) I3 (by decide) (by decide)
  have J4 := ac_JX_fr hX (md := [(164, 21)]) rfl _ (am_up h3 164 20 (.int 0)) (ab_Fr_up rfl ab_Fr_refl) J3
  have F4 : ab_Fr ac_plM h (am_up h3 164 20 (.int 0)) := ab_Fr_up rfl F3
  have e164_20' : (am_up h3 164 20 (.int 0)) 164 20 = .int 0 := rfl
  generalize am_up h3 164 20 (.int 0) = h4 at I4 J4 F4 e164_20' ⊢
  have e164_20 := e164_20'
  clear e164_20'
  clear e164_20
  refine am_e_aload_n (am_nxt_of (i := (20, 1, .aload_n 0, (0, 0, 0), 0)) (by decide +kernel)) (v := 164) rfl ?_
  refine am_e_iconst (w := 0) (am_nxt_of (i := (21, 1, .iconst 0, (0, 0, 0), 0)) (by decide +kernel)) rfl ?_
  refine am_e_putf (am_nxt_of (i := (22, 3, .putfield 213, (12, 21, 1405), 0)) (by decide +kernel)) ac_o rfl ?_
  have I5 := ac_p21 (v := 0) I4 (by decide) (by decide)
  have J5 := ac_JX_fr hX (md := [(164, 22)]) rfl _ (am_up h4 164 21 (.int 0)) (ab_Fr_up rfl ab_Fr_refl) J4
  have F5 : ab_Fr ac_plM h (am_up h4 164 21 (.int 0)) := ab_Fr_up rfl F4
  have e164_21' : (am_up h4 164 21 (.int 0)) 164 21 = .int 0 := rfl
  generalize am_up h4 164 21 (.int 0) = h5 at I5 J5 F5 e164_21' ⊢
  have e164_21 := e164_21'
  clear e164_21'
  refine am_e_aload_n (am_nxt_of (i := (25, 1, .aload_n 0, (0, 0, 0), 0)) (by decide +kernel)) (v := 164) rfl ?_
  refine am_e_iconst (w := 0) (am_nxt_of (i := (26, 1, .iconst 0, (0, 0, 0), 0)) (by decide +kernel)) rfl ?_
  refine am_e_putf (am_nxt_of (i := (27, 3, .putfield 216, (12, 44, 1428), 0)) (by decide +kernel)) ac_o rfl ?_
  have I6 := ac_p44 (v := 0) I5 (by decide) (by decide)
  have J6 := ac_JX_fr hX (md := [(164, 45)]) rfl _ (am_up h5 164 44 (.int 0)) (ab_Fr_up rfl ab_Fr_refl) J5
  have F6 : ab_Fr ac_plM h (am_up h5 164 44 (.int 0)) := ab_Fr_up rfl F5
  have e164_21' : (am_up h5 164 44 (.int 0)) 164 21 = .int 0 := e164_21
  have e164_44' : (am_up h5 164 44 (.int 0)) 164 44 = .int 0 := rfl
  generalize am_up h5 164 44 (.int 0) = h6 at I6 J6 F6 e164_21' e164_44' ⊢
  clear e164_21
  have e164_21 := e164_21'
  clear e164_21'
  have e164_44 := e164_44'
  clear e164_44'
  refine am_e_iconst (w := 0) (am_nxt_of (i := (30, 1, .iconst 0, (0, 0, 0), 0)) (by decide +kernel)) rfl ?_
  refine am_e_istore_n (ls' := [(1, .int 0), (0, .ref 164)]) (am_nxt_of (i := (31, 1, .istore_n 1, (0, 0, 0), 0)) (by decide +kernel)) (by decide +kernel) rfl ?_
  refine am_e_iload_n (am_nxt_of (i := (32, 1, .iload_n 1, (0, 0, 0), 0)) (by decide +kernel)) (v := 0) rfl ?_
  refine am_e_iconst (w := 4) (am_nxt_of (i := (33, 1, .iconst 4, (0, 0, 0), 0)) (by decide +kernel)) rfl ?_
  refine am_e_cmpF (am_nxt_of (i := (34, 3, .if_icmp .ge 16, (30, 0, 0), 0)) (by decide +kernel)) (am_c_geF (by decide)) ?_
  refine am_e_aload_n (am_nxt_of (i := (37, 1, .aload_n 0, (0, 0, 0), 0)) (by decide +kernel)) (v := 164) rfl ?_
  refine am_e_getf (am_nxt_of (i := (38, 3, .getfield 20, (12, 22, 1406), 0)) (by decide +kernel)) ac_o (ac_f22 I6) ?_
  refine am_e_iload_n (am_nxt_of (i := (41, 1, .iload_n 1, (0, 0, 0), 0)) (by decide +kernel)) (v := 0) rfl ?_
  refine am_e_iconst (w := 0) (am_nxt_of (i := (42, 1, .iconst 0, (0, 0, 0), 0)) (by decide +kernel)) rfl ?_
  refine am_e_bastore (q := 0) (am_nxt_of (i := (43, 1, .bastore, (0, 0, 0), 0)) (by decide +kernel)) ac_k167 rfl (by decide) (by decide) ?_
  have I7 := ac_w167 (q := 0) (v := 0) I6 (by decide) (by decide)
  have J7 := ac_JX_fr hX (md := [(167, 0)]) rfl _ (am_up h6 167 0 (.int 0)) (ab_Fr_up rfl ab_Fr_refl) J6
  have F7 : ab_Fr ac_plM h (am_up h6 167 0 (.int 0)) := ab_Fr_up rfl F6
  have e164_21' : (am_up h6 167 0 (.int 0)) 164 21 = .int 0 := e164_21
  have e164_44' : (am_up h6 167 0 (.int 0)) 164 44 = .int 0 := e164_44
  have e167_0' : (am_up h6 167 0 (.int 0)) 167 0 = .int 0 := rfl
  generalize am_up h6 167 0 (.int 0) = h7 at I7 J7 F7 e164_21' e164_44' e167_0' ⊢
  clear e164_21
  have e164_21 := e164_21'
  clear e164_21'
  clear e164_44
  have e164_44 := e164_44'
  clear e164_44'
  have e167_0 := e167_0'
  clear e167_0'
  clear e167_0
  refine am_e_iinc (w := 1) (ls' := [(1, .int 1), (0, .ref 164)]) (am_nxt_of (i := (44, 3, .iinc 1 1, (0, 0, 0), 0)) (by decide +kernel)) (v := 0) rfl (by decide +kernel) (by decide) rfl ?_
  refine am_e_goto (am_cur_of (i := (47, 3, .goto (-15), (20, 0, 0), 0)) (by decide +kernel)) (am_tgt_of (by decide +kernel)) ?_
  refine am_e_iload_n (am_nxt_of (i := (32, 1, .iload_n 1, (0, 0, 0), 0)) (by decide +kernel)) (v := 1) rfl ?_
  refine am_e_iconst (w := 4) (am_nxt_of (i := (33, 1, .iconst 4, (0, 0, 0), 0)) (by decide +kernel)) rfl ?_
  refine am_e_cmpF (am_nxt_of (i := (34, 3, .if_icmp .ge 16, (30, 0, 0), 0)) (by decide +kernel)) (am_c_geF (by decide)) ?_
  refine am_e_aload_n (am_nxt_of (i := (37, 1, .aload_n 0, (0, 0, 0), 0)) (by decide +kernel)) (v := 164) rfl ?_
  refine am_e_getf (am_nxt_of (i := (38, 3, .getfield 20, (12, 22, 1406), 0)) (by decide +kernel)) ac_o (ac_f22 I7) ?_
  refine am_e_iload_n (am_nxt_of (i := (41, 1, .iload_n 1, (0, 0, 0), 0)) (by decide +kernel)) (v := 1) rfl ?_
  refine am_e_iconst (w := 0) (am_nxt_of (i := (42, 1, .iconst 0, (0, 0, 0), 0)) (by decide +kernel)) rfl ?_
  refine am_e_bastore (q := 1) (am_nxt_of (i := (43, 1, .bastore, (0, 0, 0), 0)) (by decide +kernel)) ac_k167 rfl (by decide) (by decide) ?_
  have I8 := ac_w167 (q := 1) (v := 0) I7 (by decide) (by decide)
  have J8 := ac_JX_fr hX (md := [(167, 0)]) rfl _ (am_up h7 167 1 (.int 0)) (ab_Fr_up rfl ab_Fr_refl) J7
  have F8 : ab_Fr ac_plM h (am_up h7 167 1 (.int 0)) := ab_Fr_up rfl F7
  have e164_21' : (am_up h7 167 1 (.int 0)) 164 21 = .int 0 := e164_21
  have e164_44' : (am_up h7 167 1 (.int 0)) 164 44 = .int 0 := e164_44
  have e167_1' : (am_up h7 167 1 (.int 0)) 167 1 = .int 0 := rfl
  generalize am_up h7 167 1 (.int 0) = h8 at I8 J8 F8 e164_21' e164_44' e167_1' ⊢
  clear e164_21
  have e164_21 := e164_21'
  clear e164_21'
  clear e164_44
  have e164_44 := e164_44'
  clear e164_44'
  have e167_1 := e167_1'
  clear e167_1'
  clear e167_1
  refine am_e_iinc (w := 2) (ls' := [(1, .int 2), (0, .ref 164)]) (am_nxt_of (i := (44, 3, .iinc 1 1, (0, 0, 0), 0)) (by decide +kernel)) (v := 1) rfl (by decide +kernel) (by decide) rfl ?_
  refine am_e_goto (am_cur_of (i := (47, 3, .goto (-15), (20, 0, 0), 0)) (by decide +kernel)) (am_tgt_of (by decide +kernel)) ?_
  refine am_e_iload_n (am_nxt_of (i := (32, 1, .iload_n 1, (0, 0, 0), 0)) (by decide +kernel)) (v := 2) rfl ?_
  refine am_e_iconst (w := 4) (am_nxt_of (i := (33, 1, .iconst 4, (0, 0, 0), 0)) (by decide +kernel)) rfl ?_
  refine am_e_cmpF (am_nxt_of (i := (34, 3, .if_icmp .ge 16, (30, 0, 0), 0)) (by decide +kernel)) (am_c_geF (by decide)) ?_
  refine am_e_aload_n (am_nxt_of (i := (37, 1, .aload_n 0, (0, 0, 0), 0)) (by decide +kernel)) (v := 164) rfl ?_
  refine am_e_getf (am_nxt_of (i := (38, 3, .getfield 20, (12, 22, 1406), 0)) (by decide +kernel)) ac_o (ac_f22 I8) ?_
  refine am_e_iload_n (am_nxt_of (i := (41, 1, .iload_n 1, (0, 0, 0), 0)) (by decide +kernel)) (v := 2) rfl ?_
  refine am_e_iconst (w := 0) (am_nxt_of (i := (42, 1, .iconst 0, (0, 0, 0), 0)) (by decide +kernel)) rfl ?_
  refine am_e_bastore (q := 2) (am_nxt_of (i := (43, 1, .bastore, (0, 0, 0), 0)) (by decide +kernel)) ac_k167 rfl (by decide) (by decide) ?_
  have I9 := ac_w167 (q := 2) (v := 0) I8 (by decide) (by decide)
  have J9 := ac_JX_fr hX (md := [(167, 0)]) rfl _ (am_up h8 167 2 (.int 0)) (ab_Fr_up rfl ab_Fr_refl) J8
  have F9 : ab_Fr ac_plM h (am_up h8 167 2 (.int 0)) := ab_Fr_up rfl F8
  have e164_21' : (am_up h8 167 2 (.int 0)) 164 21 = .int 0 := e164_21
  have e164_44' : (am_up h8 167 2 (.int 0)) 164 44 = .int 0 := e164_44
  have e167_2' : (am_up h8 167 2 (.int 0)) 167 2 = .int 0 := rfl
  generalize am_up h8 167 2 (.int 0) = h9 at I9 J9 F9 e164_21' e164_44' e167_2' ⊢
  clear e164_21
  have e164_21 := e164_21'
  clear e164_21'
  clear e164_44
  have e164_44 := e164_44'
  clear e164_44'
  have e167_2 := e167_2'
  clear e167_2'
  clear e167_2
  refine am_e_iinc (w := 3) (ls' := [(1, .int 3), (0, .ref 164)]) (am_nxt_of (i := (44, 3, .iinc 1 1, (0, 0, 0), 0)) (by decide +kernel)) (v := 2) rfl (by decide +kernel) (by decide) rfl ?_
  refine am_e_goto (am_cur_of (i := (47, 3, .goto (-15), (20, 0, 0), 0)) (by decide +kernel)) (am_tgt_of (by decide +kernel)) ?_
  refine am_e_iload_n (am_nxt_of (i := (32, 1, .iload_n 1, (0, 0, 0), 0)) (by decide +kernel)) (v := 3) rfl ?_
  refine am_e_iconst (w := 4) (am_nxt_of (i := (33, 1, .iconst 4, (0, 0, 0), 0)) (by decide +kernel)) rfl ?_
  refine am_e_cmpF (am_nxt_of (i := (34, 3, .if_icmp .ge 16, (30, 0, 0), 0)) (by decide +kernel)) (am_c_geF (by decide)) ?_
  refine am_e_aload_n (am_nxt_of (i := (37, 1, .aload_n 0, (0, 0, 0), 0)) (by decide +kernel)) (v := 164) rfl ?_
  refine am_e_getf (am_nxt_of (i := (38, 3, .getfield 20, (12, 22, 1406), 0)) (by decide +kernel)) ac_o (ac_f22 I9) ?_
  refine am_e_iload_n (am_nxt_of (i := (41, 1, .iload_n 1, (0, 0, 0), 0)) (by decide +kernel)) (v := 3) rfl ?_
  refine am_e_iconst (w := 0) (am_nxt_of (i := (42, 1, .iconst 0, (0, 0, 0), 0)) (by decide +kernel)) rfl ?_
  refine am_e_bastore (q := 3) (am_nxt_of (i := (43, 1, .bastore, (0, 0, 0), 0)) (by decide +kernel)) ac_k167 rfl (by decide) (by decide) ?_
  have I10 := ac_w167 (q := 3) (v := 0) I9 (by decide) (by decide)
  have J10 := ac_JX_fr hX (md := [(167, 0)]) rfl _ (am_up h9 167 3 (.int 0)) (ab_Fr_up rfl ab_Fr_refl) J9
  have F10 : ab_Fr ac_plM h (am_up h9 167 3 (.int 0)) := ab_Fr_up rfl F9
  have e164_21' : (am_up h9 167 3 (.int 0)) 164 21 = .int 0 := e164_21
  have e164_44' : (am_up h9 167 3 (.int 0)) 164 44 = .int 0 := e164_44
  have e167_3' : (am_up h9 167 3 (.int 0)) 167 3 = .int 0 := rfl
  generalize am_up h9 167 3 (.int 0) = h10 at I10 J10 F10 e164_21' e164_44' e167_3' ⊢
  clear e164_21
  have e164_21 := e164_21'
  clear e164_21'
  clear e164_44
  have e164_44 := e164_44'
  clear e164_44'
  have e167_3 := e167_3'
  clear e167_3'
  clear e167_3
  refine am_e_iinc (w := 4) (ls' := [(1, .int 4), (0, .ref 164)]) (am_nxt_of (i := (44, 3, .iinc 1 1, (0, 0, 0), 0)) (by decide +kernel)) (v := 3) rfl (by decide +kernel) (by decide) rfl ?_
  refine am_e_goto (am_cur_of (i := (47, 3, .goto (-15), (20, 0, 0), 0)) (by decide +kernel)) (am_tgt_of (by decide +kernel)) ?_
  refine am_e_iload_n (am_nxt_of (i := (32, 1, .iload_n 1, (0, 0, 0), 0)) (by decide +kernel)) (v := 4) rfl ?_
  refine am_e_iconst (w := 4) (am_nxt_of (i := (33, 1, .iconst 4, (0, 0, 0), 0)) (by decide +kernel)) rfl ?_
  refine am_e_cmpT (am_nxt_of (i := (34, 3, .if_icmp .ge 16, (30, 0, 0), 0)) (by decide +kernel)) (am_c_geT (by decide)) (am_tgt_of (by decide +kernel)) ?_
  refine am_e_aload_n (am_nxt_of (i := (50, 1, .aload_n 0, (0, 0, 0), 0)) (by decide +kernel)) (v := 164) rfl ?_
  refine am_e_getf (am_nxt_of (i := (51, 3, .getfield 24, (12, 23, 1407), 0)) (by decide +kernel)) ac_o (ac_f23 I10) ?_
  refine am_e_bipush (w := 6) (am_nxt_of (i := (54, 2, .bipush 6, (0, 0, 0), 0)) (by decide +kernel)) (by decide) ?_
  refine am_e_sipush (w := 500) (am_nxt_of (i := (56, 3, .sipush 500, (0, 0, 0), 0)) (by decide +kernel)) (by decide) ?_
  refine am_e_iastore (q := 6) (am_nxt_of (i := (59, 1, .iastore, (0, 0, 0), 0)) (by decide +kernel)) ac_k168 (by decide) (by decide) ?_
  have I11 := ac_w168 (q := 6) (v := 500) I10 (by decide) (by decide)
  have J11 := ac_JX_fr hX (md := [(168, 0)]) rfl _ (am_up h10 168 6 (.int 500)) (ab_Fr_up rfl ab_Fr_refl) J10
  have F11 : ab_Fr ac_plM h (am_up h10 168 6 (.int 500)) := ab_Fr_up rfl F10
  have e164_21' : (am_up h10 168 6 (.int 500)) 164 21 = .int 0 := e164_21
  have e164_44' : (am_up h10 168 6 (.int 500)) 164 44 = .int 0 := e164_44
  have e168_6' : (am_up h10 168 6 (.int 500)) 168 6 = .int 500 := rfl
  generalize am_up h10 168 6 (.int 500) = h11 at I11 J11 F11 e164_21' e164_44' e168_6' ⊢
  clear e164_21
  have e164_21 := e164_21'
  clear e164_21'
  clear e164_44
  have e164_44 := e164_44'
  clear e164_44'
  have e168_6 := e168_6'
  clear e168_6'
  clear e168_6
  refine am_e_bipush (w := 7) (am_nxt_of (i := (60, 2, .bipush 7, (0, 0, 0), 0)) (by decide +kernel)) (by decide) ?_
  refine am_e_istore_n (ls' := [(1, .int 7), (0, .ref 164)]) (am_nxt_of (i := (62, 1, .istore_n 1, (0, 0, 0), 0)) (by decide +kernel)) (by decide +kernel) rfl ?_
  refine am_e_iload_n (am_nxt_of (i := (63, 1, .iload_n 1, (0, 0, 0), 0)) (by decide +kernel)) (v := 7) rfl ?_
  refine am_e_bipush (w := 12) (am_nxt_of (i := (64, 2, .bipush 12, (0, 0, 0), 0)) (by decide +kernel)) (by decide) ?_
  refine am_e_cmpF (am_nxt_of (i := (66, 3, .if_icmp .ge 16, (47, 0, 0), 0)) (by decide +kernel)) (am_c_geF (by decide)) ?_
  refine am_e_aload_n (am_nxt_of (i := (69, 1, .aload_n 0, (0, 0, 0), 0)) (by decide +kernel)) (v := 164) rfl ?_
  refine am_e_getf (am_nxt_of (i := (70, 3, .getfield 24, (12, 23, 1407), 0)) (by decide +kernel)) ac_o (ac_f23 I11) ?_
  refine am_e_iload_n (am_nxt_of (i := (73, 1, .iload_n 1, (0, 0, 0), 0)) (by decide +kernel)) (v := 7) rfl ?_
  refine am_e_iconst (w := 0) (am_nxt_of (i := (74, 1, .iconst 0, (0, 0, 0), 0)) (by decide +kernel)) rfl ?_
  refine am_e_iastore (q := 7) (am_nxt_of (i := (75, 1, .iastore, (0, 0, 0), 0)) (by decide +kernel)) ac_k168 (by decide) (by decide) ?_
  have I12 := ac_w168 (q := 7) (v := 0) I11 (by decide) (by decide)
  have J12 := ac_JX_fr hX (md := [(168, 0)]) rfl _ (am_up h11 168 7 (.int 0)) (ab_Fr_up rfl ab_Fr_refl) J11
  have F12 : ab_Fr ac_plM h (am_up h11 168 7 (.int 0)) := ab_Fr_up rfl F11
  have e164_21' : (am_up h11 168 7 (.int 0)) 164 21 = .int 0 := e164_21
  have e164_44' : (am_up h11 168 7 (.int 0)) 164 44 = .int 0 := e164_44
  have e168_7' : (am_up h11 168 7 (.int 0)) 168 7 = .int 0 := rfl
  generalize am_up h11 168 7 (.int 0) = h12 at I12 J12 F12 e164_21' e164_44' e168_7' ⊢
  clear e164_21
  have e164_21 := e164_21'
  clear e164_21'
  clear e164_44
  have e164_44 := e164_44'
  clear e164_44'
  have e168_7 := e168_7'
  clear e168_7'
  clear e168_7
  refine am_e_iinc (w := 8) (ls' := [(1, .int 8), (0, .ref 164)]) (am_nxt_of (i := (76, 3, .iinc 1 1, (0, 0, 0), 0)) (by decide +kernel)) (v := 7) rfl (by decide +kernel) (by decide) rfl ?_
  refine am_e_goto (am_cur_of (i := (79, 3, .goto (-16), (37, 0, 0), 0)) (by decide +kernel)) (am_tgt_of (by decide +kernel)) ?_
  refine am_e_iload_n (am_nxt_of (i := (63, 1, .iload_n 1, (0, 0, 0), 0)) (by decide +kernel)) (v := 8) rfl ?_
  refine am_e_bipush (w := 12) (am_nxt_of (i := (64, 2, .bipush 12, (0, 0, 0), 0)) (by decide +kernel)) (by decide) ?_
  refine am_e_cmpF (am_nxt_of (i := (66, 3, .if_icmp .ge 16, (47, 0, 0), 0)) (by decide +kernel)) (am_c_geF (by decide)) ?_
  refine am_e_aload_n (am_nxt_of (i := (69, 1, .aload_n 0, (0, 0, 0), 0)) (by decide +kernel)) (v := 164) rfl ?_
  refine am_e_getf (am_nxt_of (i := (70, 3, .getfield 24, (12, 23, 1407), 0)) (by decide +kernel)) ac_o (ac_f23 I12) ?_
  refine am_e_iload_n (am_nxt_of (i := (73, 1, .iload_n 1, (0, 0, 0), 0)) (by decide +kernel)) (v := 8) rfl ?_
  refine am_e_iconst (w := 0) (am_nxt_of (i := (74, 1, .iconst 0, (0, 0, 0), 0)) (by decide +kernel)) rfl ?_
  refine am_e_iastore (q := 8) (am_nxt_of (i := (75, 1, .iastore, (0, 0, 0), 0)) (by decide +kernel)) ac_k168 (by decide) (by decide) ?_
  have I13 := ac_w168 (q := 8) (v := 0) I12 (by decide) (by decide)
  have J13 := ac_JX_fr hX (md := [(168, 0)]) rfl _ (am_up h12 168 8 (.int 0)) (ab_Fr_up rfl ab_Fr_refl) J12
  have F13 : ab_Fr ac_plM h (am_up h12 168 8 (.int 0)) := ab_Fr_up rfl F12
  have e164_21' : (am_up h12 168 8 (.int 0)) 164 21 = .int 0 := e164_21
  have e164_44' : (am_up h12 168 8 (.int 0)) 164 44 = .int 0 := e164_44
  have e168_8' : (am_up h12 168 8 (.int 0)) 168 8 = .int 0 := rfl
  generalize am_up h12 168 8 (.int 0) = h13 at I13 J13 F13 e164_21' e164_44' e168_8' ⊢
  clear e164_21
  have e164_21 := e164_21'
  clear e164_21'
  clear e164_44
  have e164_44 := e164_44'
  clear e164_44'
  have e168_8 := e168_8'
  clear e168_8'
  clear e168_8
  refine am_e_iinc (w := 9) (ls' := [(1, .int 9), (0, .ref 164)]) (am_nxt_of (i := (76, 3, .iinc 1 1, (0, 0, 0), 0)) (by decide +kernel)) (v := 8) rfl (by decide +kernel) (by decide) rfl ?_
  refine am_e_goto (am_cur_of (i := (79, 3, .goto (-16), (37, 0, 0), 0)) (by decide +kernel)) (am_tgt_of (by decide +kernel)) ?_
  refine am_e_iload_n (am_nxt_of (i := (63, 1, .iload_n 1, (0, 0, 0), 0)) (by decide +kernel)) (v := 9) rfl ?_
  refine am_e_bipush (w := 12) (am_nxt_of (i := (64, 2, .bipush 12, (0, 0, 0), 0)) (by decide +kernel)) (by decide) ?_
  refine am_e_cmpF (am_nxt_of (i := (66, 3, .if_icmp .ge 16, (47, 0, 0), 0)) (by decide +kernel)) (am_c_geF (by decide)) ?_
  refine am_e_aload_n (am_nxt_of (i := (69, 1, .aload_n 0, (0, 0, 0), 0)) (by decide +kernel)) (v := 164) rfl ?_
  refine am_e_getf (am_nxt_of (i := (70, 3, .getfield 24, (12, 23, 1407), 0)) (by decide +kernel)) ac_o (ac_f23 I13) ?_
  refine am_e_iload_n (am_nxt_of (i := (73, 1, .iload_n 1, (0, 0, 0), 0)) (by decide +kernel)) (v := 9) rfl ?_
  refine am_e_iconst (w := 0) (am_nxt_of (i := (74, 1, .iconst 0, (0, 0, 0), 0)) (by decide +kernel)) rfl ?_
  refine am_e_iastore (q := 9) (am_nxt_of (i := (75, 1, .iastore, (0, 0, 0), 0)) (by decide +kernel)) ac_k168 (by decide) (by decide) ?_
  have I14 := ac_w168 (q := 9) (v := 0) I13 (by decide) (by decide)
  have J14 := ac_JX_fr hX (md := [(168, 0)]) rfl _ (am_up h13 168 9 (.int 0)) (ab_Fr_up rfl ab_Fr_refl) J13
  have F14 : ab_Fr ac_plM h (am_up h13 168 9 (.int 0)) := ab_Fr_up rfl F13
  have e164_21' : (am_up h13 168 9 (.int 0)) 164 21 = .int 0 := e164_21
  have e164_44' : (am_up h13 168 9 (.int 0)) 164 44 = .int 0 := e164_44
  have e168_9' : (am_up h13 168 9 (.int 0)) 168 9 = .int 0 := rfl
  generalize am_up h13 168 9 (.int 0) = h14 at I14 J14 F14 e164_21' e164_44' e168_9' ⊢
  clear e164_21
  have e164_21 := e164_21'
  clear e164_21'
  clear e164_44
  have e164_44 := e164_44'
  clear e164_44'
  have e168_9 := e168_9'
  clear e168_9'
  clear e168_9
  refine am_e_iinc (w := 10) (ls' := [(1, .int 10), (0, .ref 164)]) (am_nxt_of (i := (76, 3, .iinc 1 1, (0, 0, 0), 0)) (by decide +kernel)) (v := 9) rfl (by decide +kernel) (by decide) rfl ?_
  refine am_e_goto (am_cur_of (i := (79, 3, .goto (-16), (37, 0, 0), 0)) (by decide +kernel)) (am_tgt_of (by decide +kernel)) ?_
  refine am_e_iload_n (am_nxt_of (i := (63, 1, .iload_n 1, (0, 0, 0), 0)) (by decide +kernel)) (v := 10) rfl ?_
  refine am_e_bipush (w := 12) (am_nxt_of (i := (64, 2, .bipush 12, (0, 0, 0), 0)) (by decide +kernel)) (by decide) ?_
  refine am_e_cmpF (am_nxt_of (i := (66, 3, .if_icmp .ge 16, (47, 0, 0), 0)) (by decide +kernel)) (am_c_geF (by decide)) ?_
  refine am_e_aload_n (am_nxt_of (i := (69, 1, .aload_n 0, (0, 0, 0), 0)) (by decide +kernel)) (v := 164) rfl ?_
  refine am_e_getf (am_nxt_of (i := (70, 3, .getfield 24, (12, 23, 1407), 0)) (by decide +kernel)) ac_o (ac_f23 I14) ?_
  refine am_e_iload_n (am_nxt_of (i := (73, 1, .iload_n 1, (0, 0, 0), 0)) (by decide +kernel)) (v := 10) rfl ?_
  refine am_e_iconst (w := 0) (am_nxt_of (i := (74, 1, .iconst 0, (0, 0, 0), 0)) (by decide +kernel)) rfl ?_
  refine am_e_iastore (q := 10) (am_nxt_of (i := (75, 1, .iastore, (0, 0, 0), 0)) (by decide +kernel)) ac_k168 (by decide) (by decide) ?_
  have I15 := ac_w168 (q := 10) (v := 0) I14 (by decide) (by decide)
  have J15 := ac_JX_fr hX (md := [(168, 0)]) rfl _ (am_up h14 168 10 (.int 0)) (ab_Fr_up rfl ab_Fr_refl) J14
  have F15 : ab_Fr ac_plM h (am_up h14 168 10 (.int 0)) := ab_Fr_up rfl F14
  have e164_21' : (am_up h14 168 10 (.int 0)) 164 21 = .int 0 := e164_21
  have e164_44' : (am_up h14 168 10 (.int 0)) 164 44 = .int 0 := e164_44
  have e168_10' : (am_up h14 168 10 (.int 0)) 168 10 = .int 0 := rfl
  generalize am_up h14 168 10 (.int 0) = h15 at I15 J15 F15 e164_21' e164_44' e168_10' ⊢
  clear e164_21
  have e164_21 := e164_21'
  clear e164_21'
  clear e164_44
  have e164_44 := e164_44'
  clear e164_44'
  have e168_10 := e168_10'
  clear e168_10'
  clear e168_10
  refine am_e_iinc (w := 11) (ls' := [(1, .int 11), (0, .ref 164)]) (am_nxt_of (i := (76, 3, .iinc 1 1, (0, 0, 0), 0)) (by decide +kernel)) (v := 10) rfl (by decide +kernel) (by decide) rfl ?_
  refine am_e_goto (am_cur_of (i := (79, 3, .goto (-16), (37, 0, 0), 0)) (by decide +kernel)) (am_tgt_of (by decide +kernel)) ?_
  refine am_e_iload_n (am_nxt_of (i := (63, 1, .iload_n 1, (0, 0, 0), 0)) (by decide +kernel)) (v := 11) rfl ?_
  refine am_e_bipush (w := 12) (am_nxt_of (i := (64, 2, .bipush 12, (0, 0, 0), 0)) (by decide +kernel)) (by decide) ?_
  refine am_e_cmpF (am_nxt_of (i := (66, 3, .if_icmp .ge 16, (47, 0, 0), 0)) (by decide +kernel)) (am_c_geF (by decide)) ?_
  refine am_e_aload_n (am_nxt_of (i := (69, 1, .aload_n 0, (0, 0, 0), 0)) (by decide +kernel)) (v := 164) rfl ?_
  refine am_e_getf (am_nxt_of (i := (70, 3, .getfield 24, (12, 23, 1407), 0)) (by decide +kernel)) ac_o (ac_f23 I15) ?_
  refine am_e_iload_n (am_nxt_of (i := (73, 1, .iload_n 1, (0, 0, 0), 0)) (by decide +kernel)) (v := 11) rfl ?_
  refine am_e_iconst (w := 0) (am_nxt_of (i := (74, 1, .iconst 0, (0, 0, 0), 0)) (by decide +kernel)) rfl ?_
  refine am_e_iastore (q := 11) (am_nxt_of (i := (75, 1, .iastore, (0, 0, 0), 0)) (by decide +kernel)) ac_k168 (by decide) (by decide) ?_
  have I16 := ac_w168 (q := 11) (v := 0) I15 (by decide) (by decide)
  have J16 := ac_JX_fr hX (md := [(168, 0)]) rfl _ (am_up h15 168 11 (.int 0)) (ab_Fr_up rfl ab_Fr_refl) J15
  have F16 : ab_Fr ac_plM h (am_up h15 168 11 (.int 0)) := ab_Fr_up rfl F15
  have e164_21' : (am_up h15 168 11 (.int 0)) 164 21 = .int 0 := e164_21
  have e164_44' : (am_up h15 168 11 (.int 0)) 164 44 = .int 0 := e164_44
  have e168_11' : (am_up h15 168 11 (.int 0)) 168 11 = .int 0 := rfl
  generalize am_up h15 168 11 (.int 0) = h16 at I16 J16 F16 e164_21' e164_44' e168_11' ⊢
  clear e164_21
  have e164_21 := e164_21'
  clear e164_21'
  clear e164_44
  have e164_44 := e164_44'
  clear e164_44'
  have e168_11 := e168_11'
  clear e168_11'
  clear e168_11
  refine am_e_iinc (w := 12) (ls' := [(1, .int 12), (0, .ref 164)]) (am_nxt_of (i := (76, 3, .iinc 1 1, (0, 0, 0), 0)) (by decide +kernel)) (v := 11) rfl (by decide +kernel) (by decide) rfl ?_
  refine am_e_goto (am_cur_of (i := (79, 3, .goto (-16), (37, 0, 0), 0)) (by decide +kernel)) (am_tgt_of (by decide +kernel)) ?_
  refine am_e_iload_n (am_nxt_of (i := (63, 1, .iload_n 1, (0, 0, 0), 0)) (by decide +kernel)) (v := 12) rfl ?_
  refine am_e_bipush (w := 12) (am_nxt_of (i := (64, 2, .bipush 12, (0, 0, 0), 0)) (by decide +kernel)) (by decide) ?_
  refine am_e_cmpT (am_nxt_of (i := (66, 3, .if_icmp .ge 16, (47, 0, 0), 0)) (by decide +kernel)) (am_c_geT (by decide)) (am_tgt_of (by decide +kernel)) ?_
  refine am_e_iconst (w := 3) (am_nxt_of (i := (82, 1, .iconst 3, (0, 0, 0), 0)) (by decide +kernel)) rfl ?_
  refine am_e_istore_n (ls' := [(1, .int 3), (0, .ref 164)]) (am_nxt_of (i := (83, 1, .istore_n 1, (0, 0, 0), 0)) (by decide +kernel)) (by decide +kernel) rfl ?_
  refine am_e_iload_n (am_nxt_of (i := (84, 1, .iload_n 1, (0, 0, 0), 0)) (by decide +kernel)) (v := 3) rfl ?_
  refine am_e_bipush (w := 6) (am_nxt_of (i := (85, 2, .bipush 6, (0, 0, 0), 0)) (by decide +kernel)) (by decide) ?_
  refine am_e_cmpF (am_nxt_of (i := (87, 3, .if_icmp .ge 16, (59, 0, 0), 0)) (by decide +kernel)) (am_c_geF (by decide)) ?_
  refine am_e_aload_n (am_nxt_of (i := (90, 1, .aload_n 0, (0, 0, 0), 0)) (by decide +kernel)) (v := 164) rfl ?_
  refine am_e_getf (am_nxt_of (i := (91, 3, .getfield 54, (12, 33, 1417), 0)) (by decide +kernel)) ac_o (ac_f33 I16) ?_
  refine am_e_iload_n (am_nxt_of (i := (94, 1, .iload_n 1, (0, 0, 0), 0)) (by decide +kernel)) (v := 3) rfl ?_
  refine am_e_iconst (w := 0) (am_nxt_of (i := (95, 1, .iconst 0, (0, 0, 0), 0)) (by decide +kernel)) rfl ?_
  refine am_e_bastore (q := 3) (am_nxt_of (i := (96, 1, .bastore, (0, 0, 0), 0)) (by decide +kernel)) ac_k178 rfl (by decide) (by decide) ?_
  have I17 := ac_w178 (q := 3) (v := 0) I16 (by decide) (by decide)
  have J17 := ac_J_178 hX (q := 3) (v := .int 0) (by decide) J16
  have F17 : ab_Fr ac_plM h (am_up h16 178 3 (.int 0)) := ab_Fr_up rfl F16
  have e164_21' : (am_up h16 178 3 (.int 0)) 164 21 = .int 0 := e164_21
  have e164_44' : (am_up h16 178 3 (.int 0)) 164 44 = .int 0 := e164_44
  have e178_3' : (am_up h16 178 3 (.int 0)) 178 3 = .int 0 := rfl
  generalize am_up h16 178 3 (.int 0) = h17 at I17 J17 F17 e164_21' e164_44' e178_3' ⊢
  clear e164_21
  have e164_21 := e164_21'
  clear e164_21'
  clear e164_44
  have e164_44 := e164_44'
  clear e164_44'
  have e178_3 := e178_3'
  clear e178_3'
  refine am_e_iinc (w := 4) (ls' := [(1, .int 4), (0, .ref 164)]) (am_nxt_of (i := (97, 3, .iinc 1 1, (0, 0, 0), 0)) (by decide +kernel)) (v := 3) rfl (by decide +kernel) (by decide) rfl ?_
  refine am_e_goto (am_cur_of (i := (100, 3, .goto (-16), (49, 0, 0), 0)) (by decide +kernel)) (am_tgt_of (by decide +kernel)) ?_
  refine am_e_iload_n (am_nxt_of (i := (84, 1, .iload_n 1, (0, 0, 0), 0)) (by decide +kernel)) (v := 4) rfl ?_
  refine am_e_bipush (w := 6) (am_nxt_of (i := (85, 2, .bipush 6, (0, 0, 0), 0)) (by decide +kernel)) (by decide) ?_
  refine am_e_cmpF (am_nxt_of (i := (87, 3, .if_icmp .ge 16, (59, 0, 0), 0)) (by decide +kernel)) (am_c_geF (by decide)) ?_
  refine am_e_aload_n (am_nxt_of (i := (90, 1, .aload_n 0, (0, 0, 0), 0)) (by decide +kernel)) (v := 164) rfl ?_
  refine am_e_getf (am_nxt_of (i := (91, 3, .getfield 54, (12, 33, 1417), 0)) (by decide +kernel)) ac_o (ac_f33 I17) ?_
  refine am_e_iload_n (am_nxt_of (i := (94, 1, .iload_n 1, (0, 0, 0), 0)) (by decide +kernel)) (v := 4) rfl ?_
  refine am_e_iconst (w := 0) (am_nxt_of (i := (95, 1, .iconst 0, (0, 0, 0), 0)) (by decide +kernel)) rfl ?_
  refine am_e_bastore (q := 4) (am_nxt_of (i := (96, 1, .bastore, (0, 0, 0), 0)) (by decide +kernel)) ac_k178 rfl (by decide) (by decide) ?_
  have I18 := ac_w178 (q := 4) (v := 0) I17 (by decide) (by decide)
  have J18 := ac_J_178 hX (q := 4) (v := .int 0) (by decide) J17
  have F18 : ab_Fr ac_plM h (am_up h17 178 4 (.int 0)) := ab_Fr_up rfl F17
  have e164_21' : (am_up h17 178 4 (.int 0)) 164 21 = .int 0 := e164_21
  have e164_44' : (am_up h17 178 4 (.int 0)) 164 44 = .int 0 := e164_44
  have e178_3' : (am_up h17 178 4 (.int 0)) 178 3 = .int 0 := e178_3
  have e178_4' : (am_up h17 178 4 (.int 0)) 178 4 = .int 0 := rfl
  generalize am_up h17 178 4 (.int 0) = h18 at I18 J18 F18 e164_21' e164_44' e178_3' e178_4' ⊢
  clear e164_21
  have e164_21 := e164_21'
  clear e164_21'
  clear e164_44
  have e164_44 := e164_44'
  clear e164_44'
  clear e178_3
  have e178_3 := e178_3'
  clear e178_3'
  have e178_4 := e178_4'
  clear e178_4'
  refine am_e_iinc (w := 5) (ls' := [(1, .int 5), (0, .ref 164)]) (am_nxt_of (i := (97, 3, .iinc 1 1, (0, 0, 0), 0)) (by decide +kernel)) (v := 4) rfl (by decide +kernel) (by decide) rfl ?_
  refine am_e_goto (am_cur_of (i := (100, 3, .goto (-16), (49, 0, 0), 0)) (by decide +kernel)) (am_tgt_of (by decide +kernel)) ?_
  refine am_e_iload_n (am_nxt_of (i := (84, 1, .iload_n 1, (0, 0, 0), 0)) (by decide +kernel)) (v := 5) rfl ?_
  refine am_e_bipush (w := 6) (am_nxt_of (i := (85, 2, .bipush 6, (0, 0, 0), 0)) (by decide +kernel)) (by decide) ?_
  refine am_e_cmpF (am_nxt_of (i := (87, 3, .if_icmp .ge 16, (59, 0, 0), 0)) (by decide +kernel)) (am_c_geF (by decide)) ?_
  refine am_e_aload_n (am_nxt_of (i := (90, 1, .aload_n 0, (0, 0, 0), 0)) (by decide +kernel)) (v := 164) rfl ?_
  refine am_e_getf (am_nxt_of (i := (91, 3, .getfield 54, (12, 33, 1417), 0)) (by decide +kernel)) ac_o (ac_f33 I18) ?_
  refine am_e_iload_n (am_nxt_of (i := (94, 1, .iload_n 1, (0, 0, 0), 0)) (by decide +kernel)) (v := 5) rfl ?_
  refine am_e_iconst (w := 0) (am_nxt_of (i := (95, 1, .iconst 0, (0, 0, 0), 0)) (by decide +kernel)) rfl ?_
  refine am_e_bastore (q := 5) (am_nxt_of (i := (96, 1, .bastore, (0, 0, 0), 0)) (by decide +kernel)) ac_k178 rfl (by decide) (by decide) ?_
  have I19 := ac_w178 (q := 5) (v := 0) I18 (by decide) (by decide)
  have J19 := ac_J_178 hX (q := 5) (v := .int 0) (by decide) J18
  have F19 : ab_Fr ac_plM h (am_up h18 178 5 (.int 0)) := ab_Fr_up rfl F18
  have e164_21' : (am_up h18 178 5 (.int 0)) 164 21 = .int 0 := e164_21
  have e164_44' : (am_up h18 178 5 (.int 0)) 164 44 = .int 0 := e164_44
  have e178_3' : (am_up h18 178 5 (.int 0)) 178 3 = .int 0 := e178_3
  have e178_4' : (am_up h18 178 5 (.int 0)) 178 4 = .int 0 := e178_4
  have e178_5' : (am_up h18 178 5 (.int 0)) 178 5 = .int 0 := rfl
  generalize am_up h18 178 5 (.int 0) = h19 at I19 J19 F19 e164_21' e164_44' e178_3' e178_4' e178_5' ⊢
  clear e164_21
  have e164_21 := e164_21'
  clear e164_21'
  clear e164_44
  have e164_44 := e164_44'
  clear e164_44'
  clear e178_3
  have e178_3 := e178_3'
  clear e178_3'
  clear e178_4
  have e178_4 := e178_4'
  clear e178_4'
  have e178_5 := e178_5'
  clear e178_5'
  refine am_e_iinc (w := 6) (ls' := [(1, .int 6), (0, .ref 164)]) (am_nxt_of (i := (97, 3, .iinc 1 1, (0, 0, 0), 0)) (by decide +kernel)) (v := 5) rfl (by decide +kernel) (by decide) rfl ?_
  refine am_e_goto (am_cur_of (i := (100, 3, .goto (-16), (49, 0, 0), 0)) (by decide +kernel)) (am_tgt_of (by decide +kernel)) ?_
  refine am_e_iload_n (am_nxt_of (i := (84, 1, .iload_n 1, (0, 0, 0), 0)) (by decide +kernel)) (v := 6) rfl ?_
  refine am_e_bipush (w := 6) (am_nxt_of (i := (85, 2, .bipush 6, (0, 0, 0), 0)) (by decide +kernel)) (by decide) ?_
  refine am_e_cmpT (am_nxt_of (i := (87, 3, .if_icmp .ge 16, (59, 0, 0), 0)) (by decide +kernel)) (am_c_geT (by decide)) (am_tgt_of (by decide +kernel)) ?_
  refine am_e_vret (am_cur_of (i := (103, 1, .return_, (0, 0, 0), 0)) (by decide +kernel)) rfl rfl ⟨rfl, rfl, I19, J19, F19, fun k hk e => ?_, 0, e164_21, e164_44⟩
  exfalso
  match k, hk, e with
  | 0, _, e => rw [e178_3] at e; exact absurd e (by decide)
  | 1, _, e => rw [e178_4] at e; exact absurd e (by decide)
  | 2, _, e => rw [e178_5] at e; exact absurd e (by decide)
/-- a row's second half lies in its first -/
def ac_Cp (c n : Nat) (h h' : am_H) : Prop := ∀ o k, h' o k = if o = c ∧ k < n then h c (n + k) else h o k
def ac_Cq (c n m : Nat) (h h' : am_H) : Prop := ∀ o k, h' o k = if o = c ∧ k < m then h c (n + k) else h o k
theorem ac_cp_l {h : am_H} {N : Int32} {c L n : Nat} (hk : am_ks0[c]? = some (.inr (.int, L))) (hv : ∀ q, q < L → ∃ v : Int32, h c q = .int v) (hN : N.toInt = n) (hn : n ≤ 64) (hL : n + n ≤ L) : ∀ (d : Nat) (k : Int32) (g : am_H), k.toInt + d = n → 0 ≤ k.toInt → ac_Cq c n k.toInt.toNat h g → am_Ek false am_G0 am_m145 2 [(0, .ref c), (1, .int N), (2, .int k)] [] am_ks0 g 0 0 (fun r ks h' => ks = am_ks0 ∧ r = none ∧ ac_Cp c n h h') := by
  intro d
  induction d with
  | zero =>
    intro k g hd k0 hg
    refine am_e_iload_n (am_nxt_of (i := (2, 1, .iload_n 2, (0, 0, 0), 0)) (by decide +kernel)) (v := k) rfl ?_
    refine am_e_iload_n (am_nxt_of (i := (3, 1, .iload_n 1, (0, 0, 0), 0)) (by decide +kernel)) (v := N) rfl ?_
    refine am_e_cmpT (am_nxt_of (i := (4, 3, .if_icmp .ge 17, (15, 0, 0), 0)) (by decide +kernel)) (am_c_geT (ac_nlt (by omega))) (am_tgt_of (by decide +kernel)) ?_
    exact am_e_vret (am_cur_of (i := (21, 1, .return_, (0, 0, 0), 0)) (by decide +kernel)) rfl rfl ⟨rfl, rfl, by rw [show k.toInt.toNat = n by omega] at hg; exact hg⟩
  | succ d ih =>
    intro k g hd k0 hg
    refine am_e_iload_n (am_nxt_of (i := (2, 1, .iload_n 2, (0, 0, 0), 0)) (by decide +kernel)) (v := k) rfl ?_
    refine am_e_iload_n (am_nxt_of (i := (3, 1, .iload_n 1, (0, 0, 0), 0)) (by decide +kernel)) (v := N) rfl ?_
    refine am_e_cmpF (am_nxt_of (i := (4, 3, .if_icmp .ge 17, (15, 0, 0), 0)) (by decide +kernel)) (am_c_geF (ac_lt (by omega))) ?_
    have e1 := ab_iadd (x := N) (y := k) (by omega) (by omega)
    have hix := ab_ix (x := N + k) (n := L) (by omega) (by omega)
    have hix2 := ab_ix (x := k) (n := L) (by omega) (by omega)
    have ec : (N + k).toNatClampNeg = n + k.toInt.toNat := ab_clamp (by omega)
    have ec2 : k.toNatClampNeg = k.toInt.toNat := ab_clamp (by omega)
    obtain ⟨v, ev⟩ := hv (n + k.toInt.toNat) (by omega)
    have ev2 : g c (n + k.toInt.toNat) = .int v := by
      rw [hg, if_neg (by omega)]
      exact ev
    refine am_e_aload_n (am_nxt_of (i := (7, 1, .aload_n 0, (0, 0, 0), 0)) (by decide +kernel)) (v := c) rfl ?_
    refine am_e_iload_n (am_nxt_of (i := (8, 1, .iload_n 2, (0, 0, 0), 0)) (by decide +kernel)) (v := k) rfl ?_
    refine am_e_aload_n (am_nxt_of (i := (9, 1, .aload_n 0, (0, 0, 0), 0)) (by decide +kernel)) (v := c) rfl ?_
    refine am_e_iload_n (am_nxt_of (i := (10, 1, .iload_n 1, (0, 0, 0), 0)) (by decide +kernel)) (v := N) rfl ?_
    refine am_e_iload_n (am_nxt_of (i := (11, 1, .iload_n 2, (0, 0, 0), 0)) (by decide +kernel)) (v := k) rfl ?_
    refine am_e_iadd (w := N + k) (am_nxt_of (i := (12, 1, .iadd, (0, 0, 0), 0)) (by decide +kernel)) rfl ?_
    refine am_e_iaload (v := v) (am_nxt_of (i := (13, 1, .iaload, (0, 0, 0), 0)) (by decide +kernel)) hk hix ec ev2 ?_
    refine am_e_iastore (am_nxt_of (i := (14, 1, .iastore, (0, 0, 0), 0)) (by decide +kernel)) hk hix2 ec2 ?_
    refine am_e_iinc (w := k + Int32.ofInt 1) (ls' := [(2, .int (k + Int32.ofInt 1)), (0, .ref c), (1, .int N)]) (am_nxt_of (i := (15, 3, .iinc 2 1, (0, 0, 0), 0)) (by decide +kernel)) (v := k) rfl (by decide +kernel) rfl rfl ?_
    refine am_e_goto (am_cur_of (i := (18, 3, .goto (-16), (2, 0, 0), 0)) (by decide +kernel)) (am_tgt_of (by decide +kernel)) ?_
    refine am_Ek_ls (ls' := [(0, .ref c), (1, .int N), (2, .int (k + Int32.ofInt 1))]) ⟨rfl, rfl, rfl, trivial⟩ ?_
    have e2 := ab_inc1 k0 (by omega)
    refine ih _ _ (by omega) (by omega) (fun o q => ?_)
    rw [show (k + Int32.ofInt 1).toInt.toNat = k.toInt.toNat + 1 by omega]
    by_cases ho : o = c
    · subst ho
      by_cases hq : q = k.toInt.toNat
      · subst hq
        rw [am_up_self, if_pos ⟨rfl, by omega⟩]
        exact ev.symm
      · rw [am_up_same _ _ _ _ _ hq, hg]
        by_cases h1 : q < k.toInt.toNat
        · rw [if_pos ⟨rfl, h1⟩, if_pos ⟨rfl, by omega⟩]
        · rw [if_neg (by omega), if_neg (by omega)]
    · rw [am_up_other _ _ _ _ _ ho, hg, if_neg (fun q => ho q.1), if_neg (fun q => ho q.1)]
theorem ac_copies {h : am_H} {N : Int32} {c L n : Nat} (hk : am_ks0[c]? = some (.inr (.int, L))) (hv : ∀ q, q < L → ∃ v : Int32, h c q = .int v) (hN : N.toInt = n) (hn : n ≤ 64) (hL : n + n ≤ L) : am_Ek false am_G0 am_m145 0 (lv_args 0 [.ref c, .int N]) [] am_ks0 h 0 0 (fun r ks h' => ks = am_ks0 ∧ r = none ∧ ac_Cp c n h h') := by
  refine am_e_iconst (w := 0) (am_nxt_of (i := (0, 1, .iconst 0, (0, 0, 0), 0)) (by decide +kernel)) rfl ?_
  refine am_e_istore_n (ls' := [(2, .int 0), (0, .ref c), (1, .int N)]) (am_nxt_of (i := (1, 1, .istore_n 2, (0, 0, 0), 0)) (by decide +kernel)) (by decide +kernel) rfl ?_
  refine am_Ek_ls (ls' := [(0, .ref c), (1, .int N), (2, .int 0)]) ⟨rfl, rfl, rfl, trivial⟩ ?_
  exact ac_cp_l hk hv hN hn hL n 0 h (by rw [show (0 : Int32).toInt = 0 by decide]; omega) (by decide) (fun o k => by rw [if_neg (by intro q; have := q.2; exact absurd this (Nat.not_lt_zero k))])
def ac_lk : List (Nat × Nat) → Nat → Nat
  | [], _ => 0
  | q :: l, o => if q.1 = o then q.2 else ac_lk l o
/-- these rows' second halves lie in their first -/
def ac_Cl (l : List (Nat × Nat)) (h h' : am_H) : Prop := ∀ o k, h' o k = if k < ac_lk l o then h o (ac_lk l o + k) else h o k
theorem ac_Cl_cons {l : List (Nat × Nat)} {h h' h'' : am_H} {c n : Nat} (hl : ac_Cl l h h') (hp : ac_Cp c n h' h'') (hc : ac_lk l c = 0) : ac_Cl ((c, n) :: l) h h'' := by
  intro o k
  rw [hp o k]
  show _ = if k < (if c = o then n else ac_lk l o) then h o ((if c = o then n else ac_lk l o) + k) else h o k
  by_cases ho : o = c
  · subst ho
    rw [if_pos (rfl : o = o)]
    by_cases hk : k < n
    · rw [if_pos ⟨rfl, hk⟩, if_pos hk, hl, hc, if_neg (Nat.not_lt_zero _)]
    · rw [if_neg (fun q => hk q.2), if_neg hk, hl, hc, if_neg (Nat.not_lt_zero _)]
  · have hz : (if c = o then n else ac_lk l o) = ac_lk l o := if_neg (fun e => ho e.symm)
    rw [if_neg (fun q => ho q.1), hz]
    exact hl o k
theorem ac_Cl_same {l : List (Nat × Nat)} {h h' : am_H} (hl : ac_Cl l h h') {o : Nat} (ho : ac_lk l o = 0) (k : Nat) : h' o k = h o k := by
  rw [hl o k, ho, if_neg (Nat.not_lt_zero _)]
theorem ac_Cl_hi {l : List (Nat × Nat)} {h h' : am_H} (hl : ac_Cl l h h') {o k n : Nat} (ho : ac_lk l o = n) (hk : n ≤ k) : h' o k = h o k := by
  rw [hl o k, ho, if_neg (by omega)]
theorem ac_Cl_lo {l : List (Nat × Nat)} {h h' : am_H} (hl : ac_Cl l h h') {o k n : Nat} (ho : ac_lk l o = n) (hk : k < n) : h' o k = h o (n + k) := by
  rw [hl o k, ho, if_pos hk]
/-- which rows: of an array, twice as long -/
def ac_rowB (q : Nat × Nat) : Bool := ab_isA ab_tab q.1 && match am_ks0[q.1]? with
  | some (.inr w) => Nat.ble (q.2 + q.2) w.2
  | _ => false
theorem ac_lk_row {l : List (Nat × Nat)} (hl : l.all ac_rowB = true) {o n : Nat} (ho : ac_lk l o = n) (hn : ¬ n = 0) : ac_rowB (o, n) = true := by
  induction l with
  | nil => exact absurd ho.symm hn
  | cons q l ih =>
    rw [List.all_cons, Bool.and_eq_true] at hl
    by_cases hq : q.1 = o
    · have e : ac_lk (q :: l) o = q.2 := if_pos hq
      rw [e] at ho
      rw [← hq, ← ho]
      exact hl.1
    · have e : ac_lk (q :: l) o = ac_lk l o := if_neg hq
      rw [e] at ho
      exact ih hl.2 ho
theorem ac_Cl_Inv {l : List (Nat × Nat)} {h h' : am_H} (hr : l.all ac_rowB = true) (hI : ab_Inv (ab_hi ab_tab) h) (hl : ac_Cl l h h') : ab_Inv (ab_hi ab_tab) h' := by
  intro o k kd hkd hk
  by_cases h1 : k < ac_lk l o
  · rw [hl o k, if_pos h1]
    have hb := ac_lk_row hr (o := o) (n := ac_lk l o) rfl (by omega)
    unfold ac_rowB at hb
    rw [Bool.and_eq_true] at hb
    obtain ⟨b1, b2⟩ := hb
    dsimp only at b1 b2
    rw [hkd] at b2
    split at b2
    · rename_i w e
      cases e
      have b2 := Nat.le_of_ble_eq_true b2
      have := hI o (ac_lk l o + k) _ hkd (show ac_lk l o + k < w.2 by omega)
      rw [ab_hi_arr b1] at this ⊢
      exact this
    · cases b2
  · rw [hl o k, if_neg h1]
    exact hI o k kd hkd hk
theorem ac_Cl_Fr {l md : List (Nat × Nat)} {h h' : am_H} (hl : ac_Cl l h h') (hm : l.all (fun q => md.any (fun w => Nat.beq w.1 q.1 && Nat.beq w.2 0)) = true) : ab_Fr md h h' := by
  intro o k hk
  by_cases h1 : ac_lk l o = 0
  · exact ac_Cl_same hl h1 k
  · exfalso
    have hx : ∀ l : List (Nat × Nat), l.all (fun q => md.any (fun w => Nat.beq w.1 q.1 && Nat.beq w.2 0)) = true → ¬ ac_lk l o = 0 → ab_in md o k = true := by
      intro l
      induction l with
      | nil => intro _ h2; exact absurd rfl h2
      | cons q l ih =>
        intro h2 h3
        rw [List.all_cons, Bool.and_eq_true] at h2
        by_cases hq : q.1 = o
        · obtain ⟨w, hw, hb⟩ := List.any_eq_true.mp h2.1
          rw [Bool.and_eq_true] at hb
          refine List.any_eq_true.mpr ⟨w, hw, ?_⟩
          rw [Bool.and_eq_true, ← hq]
          exact ⟨hb.1, by rw [hb.2]; rfl⟩
        · have e : ac_lk (q :: l) o = ac_lk l o := if_neg hq
          rw [e] at h3
          exact ih h2.2 h3
    rw [hx l hm h1] at hk
    cases hk
abbrev ac_ktL : List (Nat × Nat) := [(183, 64), (182, 64), (181, 64), (180, 3), (179, 3), (178, 3), (177, 3), (176, 3), (175, 3), (174, 6), (173, 6), (172, 8), (171, 8), (170, 28), (169, 4), (168, 6)]
abbrev ac_ktM : List (Nat × Nat) := [(164, 13), (164, 14), (164, 15), (164, 16), (164, 17), (168, 0), (169, 0), (170, 0), (171, 0), (172, 0), (173, 0), (174, 0), (175, 0), (176, 0), (177, 0), (178, 0), (179, 0), (180, 0), (181, 0), (182, 0), (183, 0)]
/-- what was read is kept -/
theorem ac_J_kt (hX : ac_XF X) {h h' : am_H} {b t l a c : Int32} (hI : ab_Inv (ab_hi ab_tab) h) (hj : ac_JX X h) (h3 : ac_R3 h) (eb : h 164 17 = .int b) (et : h 164 18 = .int t) (el : h 164 19 = .int l)
    (hl : ac_Cl ac_ktL (am_up (am_up (am_up (am_up (am_up h 164 12 (.int b)) 164 13 (.int t)) 164 14 (.int l)) 164 15 (.int a)) 164 16 (.int c)) h') : ac_JX X h' := by
  obtain ⟨⟨j1, j2, j3, j4, j5, j6, j7, j8, j9, j10, j11, j12, j13⟩, hx⟩ := hj
  have f6 : h' 164 6 = h 164 6 := ac_Cl_same hl rfl 6
  have f7 : h' 164 7 = h 164 7 := ac_Cl_same hl rfl 7
  have f8 : h' 164 8 = h 164 8 := ac_Cl_same hl rfl 8
  have f9 : h' 164 9 = h 164 9 := ac_Cl_same hl rfl 9
  have f12 : h' 164 12 = .int b := ac_Cl_same hl rfl 12
  have f13 : h' 164 13 = .int t := ac_Cl_same hl rfl 13
  have f14 : h' 164 14 = .int l := ac_Cl_same hl rfl 14
  have f17 : h' 164 17 = h 164 17 := ac_Cl_same hl rfl 17
  have f18 : h' 164 18 = h 164 18 := ac_Cl_same hl rfl 18
  have f19 : h' 164 19 = h 164 19 := ac_Cl_same hl rfl 19
  have c170l : ∀ k, k < 28 → h' 170 k = h 170 (28 + k) := fun k hk => ac_Cl_lo hl rfl hk
  have c170h : ∀ k, 28 ≤ k → h' 170 k = h 170 k := fun k hk => ac_Cl_hi hl rfl hk
  have c171l : ∀ k, k < 8 → h' 171 k = h 171 (8 + k) := fun k hk => ac_Cl_lo hl rfl hk
  have c171h : ∀ k, 8 ≤ k → h' 171 k = h 171 k := fun k hk => ac_Cl_hi hl rfl hk
  obtain ⟨b', eb', b0, b4⟩ := ac_g17 hI
  rw [eb] at eb'
  cases eb'
  obtain ⟨t', et', t0, t8⟩ := ac_g18 hI
  rw [et] at et'
  cases et'
  refine ⟨⟨ab_M1_fr (fun k => ac_Cl_same hl rfl k) j1, ?_, ?_, ?_, ?_, ac_M6_fr (fun k => ac_Cl_same hl rfl k) j6, ?_, ?_, ?_, ?_, ?_, ?_, ?_⟩, hX.2 h h' (fun o k ho => ?_) f6 f7 f8 hx⟩
  · intro k hk x ex
    by_cases h1 : k < 64
    · have e1 : h' 181 k = h 181 (64 + k) := ac_Cl_lo hl rfl h1
      have e2 : h' 182 k = h 182 (64 + k) := ac_Cl_lo hl rfl h1
      have e3 : h' 183 k = h 183 (64 + k) := ac_Cl_lo hl rfl h1
      rw [e1] at ex
      rw [e2, e3]
      exact j2 (64 + k) (by omega) x ex
    · have e1 : h' 181 k = h 181 k := ac_Cl_hi hl (n := 64) rfl (by omega)
      have e2 : h' 182 k = h 182 k := ac_Cl_hi hl (n := 64) rfl (by omega)
      have e3 : h' 183 k = h 183 k := ac_Cl_hi hl (n := 64) rfl (by omega)
      rw [e1] at ex
      rw [e2, e3]
      exact j2 k hk x ex
  · intro k hk e
    have e1 : h' 178 k = h 178 (3 + k) := ac_Cl_lo hl rfl hk
    have e2 : h' 180 k = h 180 (3 + k) := ac_Cl_lo hl rfl hk
    rw [e1] at e
    rw [e2]
    exact h3 k hk e
  · intro l' e hl'
    rw [f14] at e
    cases e
    have e2 : h' 173 0 = h 173 6 := ac_Cl_lo hl (n := 6) rfl (by decide)
    rw [e2]
    exact j9 l el hl'
  · intro t1 n e ht
    rw [f13] at e
    cases e
    obtain ⟨k, v, g1, g2, g3, g4, g5⟩ := j10 t1 t et ht
    refine ⟨k, v, (c171l t1 (by omega)).trans g1, g2, g3, ?_, g5⟩
    rw [c170l _ (by omega), show 28 + (7 * k.toInt.toNat + 3) = 28 + 7 * k.toInt.toNat + 3 by omega]
    exact g4
  · intro k n e hk
    rw [f12] at e
    cases e
    obtain ⟨⟨v, g1, g2⟩, v', g3, g4⟩ := j11 k b eb hk
    refine ⟨⟨v, ?_, g2⟩, v', ?_, g4⟩
    · rw [c170l _ (by omega), show 28 + (0 + 7 * k + 2) = 28 + 7 * k + 2 by omega]
      exact g1
    · rw [c170l _ (by omega), show 28 + (0 + 7 * k + 3) = 28 + 7 * k + 3 by omega]
      exact g3
  · obtain ⟨u1, v, u2, u3⟩ := j8
    have c200 : ∀ k, h' 200 k = h 200 k := fun k => ac_Cl_same hl rfl k
    have c201 : ∀ k, h' 201 k = h 201 k := fun k => ac_Cl_same hl rfl k
    refine ⟨fun u hu => ?_, v, (c201 _).trans u2, u3⟩
    obtain ⟨w, w1, w2⟩ := u1 u hu
    exact ⟨w, (c200 _).trans w1, w2⟩
  · intro l' e hl'
    rw [f19] at e
    have e2 : h' 173 6 = h 173 6 := ac_Cl_hi hl (n := 6) rfl (by decide)
    rw [e2]
    exact j9 l' e hl'
  · intro t1 n e ht
    rw [f18] at e
    obtain ⟨k, v, g1, g2, g3, g4, g5⟩ := j10 t1 n e ht
    exact ⟨k, v, (c171h _ (by omega)).trans g1, g2, g3, (c170h _ (by omega)).trans g4, g5⟩
  · intro k n e hk
    rw [f17] at e
    obtain ⟨⟨v, g1, g2⟩, v', g3, g4⟩ := j11 k n e hk
    exact ⟨⟨v, (c170h _ (by omega)).trans g1, g2⟩, v', (c170h _ (by omega)).trans g3, g4⟩
  · obtain ⟨n, s, g1, g2, g3⟩ := j12
    exact ⟨n, s, f7.trans g1, f6.trans g2, g3⟩
  · obtain ⟨k, w, g1, g2, g3⟩ := j13
    exact ⟨k, w, f8.trans g1, f9.trans g2, g3⟩
  · have hz : ac_lk ac_ktL o = 0 := by
      have : ∀ l : List (Nat × Nat), (∀ q ∈ l, 164 ≤ q.1) → ac_lk l o = 0 := by
        intro l
        induction l with
        | nil => intro _; rfl
        | cons q l ih =>
          intro hq
          have := hq q List.mem_cons_self
          have e : ac_lk (q :: l) o = ac_lk l o := if_neg (by omega)
          rw [e]
          exact ih (fun q hq' => hq q (List.mem_cons_of_mem _ hq'))
      exact this _ (by decide)
    rw [ac_Cl_same hl hz k]
    rw [am_up_other _ _ _ _ _ (show ¬ o = 164 by omega), am_up_other _ _ _ _ _ (show ¬ o = 164 by omega), am_up_other _ _ _ _ _ (show ¬ o = 164 by omega), am_up_other _ _ _ _ _ (show ¬ o = 164 by omega), am_up_other _ _ _ _ _ (show ¬ o = 164 by omega)]
theorem ac_keepText (hX : ac_XF X) (hbg : ab_Con ab_tab (ac_JX X) ab_S_begin) {h : am_H} (hI : ab_Inv (ab_hi ab_tab) h) (hj : ac_JX X h) (h3 : ac_R3 h) : am_Ek false am_G0 am_m144 0 (lv_args 0 [.ref 164]) [] am_ks0 h 0 0 (fun r ks h' => ks = am_ks0 ∧ r = none ∧ ab_Inv (ab_hi ab_tab) h' ∧ ac_JX X h' ∧ ∃ g, ab_Fr ac_ktM h g ∧ ab_Fr ab_S_begin.2.2.2.1 g h') := by
  obtain ⟨b, eb, b_0, b_1⟩ := ac_g17 hI
  obtain ⟨t, et, t_0, t_1⟩ := ac_g18 hI
  obtain ⟨l, el, l_0, l_1⟩ := ac_g19 hI
  obtain ⟨a, ea, a_0, a_1⟩ := ac_g20 hI
  obtain ⟨c, ec, c_0, c_1⟩ := ac_g21 hI
  refine am_e_aload_n (am_nxt_of (i := (0, 1, .aload_n 0, (0, 0, 0), 0)) (by decide +kernel)) (v := 164) rfl ?_
  refine am_e_aload_n (am_nxt_of (i := (1, 1, .aload_n 0, (0, 0, 0), 0)) (by decide +kernel)) (v := 164) rfl ?_
  refine am_e_getf (v := .int b) (am_nxt_of (i := (2, 3, .getfield 201, (12, 17, 1401), 0)) (by decide +kernel)) ac_o eb ?_
  have I1 := ac_p12 (v := b) hI (by omega) (by omega)
  refine am_e_putf (am_nxt_of (i := (5, 3, .putfield 219, (12, 12, 1396), 0)) (by decide +kernel)) ac_o rfl ?_
  refine am_e_aload_n (am_nxt_of (i := (8, 1, .aload_n 0, (0, 0, 0), 0)) (by decide +kernel)) (v := 164) rfl ?_
  refine am_e_aload_n (am_nxt_of (i := (9, 1, .aload_n 0, (0, 0, 0), 0)) (by decide +kernel)) (v := 164) rfl ?_
  refine am_e_getf (v := .int t) (am_nxt_of (i := (10, 3, .getfield 204, (12, 18, 1402), 0)) (by decide +kernel)) ac_o et ?_
  have I2 := ac_p13 (v := t) I1 (by omega) (by omega)
  refine am_e_putf (am_nxt_of (i := (13, 3, .putfield 222, (12, 13, 1397), 0)) (by decide +kernel)) ac_o rfl ?_
  refine am_e_aload_n (am_nxt_of (i := (16, 1, .aload_n 0, (0, 0, 0), 0)) (by decide +kernel)) (v := 164) rfl ?_
  refine am_e_aload_n (am_nxt_of (i := (17, 1, .aload_n 0, (0, 0, 0), 0)) (by decide +kernel)) (v := 164) rfl ?_
  refine am_e_getf (v := .int l) (am_nxt_of (i := (18, 3, .getfield 207, (12, 19, 1403), 0)) (by decide +kernel)) ac_o el ?_
  have I3 := ac_p14 (v := l) I2 (by omega) (by omega)
  refine am_e_putf (am_nxt_of (i := (21, 3, .putfield 225, (12, 14, 1398), 0)) (by decide +kernel)) ac_o rfl ?_
  refine am_e_aload_n (am_nxt_of (i := (24, 1, .aload_n 0, (0, 0, 0), 0)) (by decide +kernel)) (v := 164) rfl ?_
  refine am_e_aload_n (am_nxt_of (i := (25, 1, .aload_n 0, (0, 0, 0), 0)) (by decide +kernel)) (v := 164) rfl ?_
  refine am_e_getf (v := .int a) (am_nxt_of (i := (26, 3, .getfield 210, (12, 20, 1404), 0)) (by decide +kernel)) ac_o ea ?_
  have I4 := ac_p15 (v := a) I3 (by omega) (by omega)
  refine am_e_putf (am_nxt_of (i := (29, 3, .putfield 228, (12, 15, 1399), 0)) (by decide +kernel)) ac_o rfl ?_
  refine am_e_aload_n (am_nxt_of (i := (32, 1, .aload_n 0, (0, 0, 0), 0)) (by decide +kernel)) (v := 164) rfl ?_
  refine am_e_aload_n (am_nxt_of (i := (33, 1, .aload_n 0, (0, 0, 0), 0)) (by decide +kernel)) (v := 164) rfl ?_
  refine am_e_getf (v := .int c) (am_nxt_of (i := (34, 3, .getfield 213, (12, 21, 1405), 0)) (by decide +kernel)) ac_o ec ?_
  have I5 := ac_p16 (v := c) I4 (by omega) (by omega)
  refine am_e_putf (am_nxt_of (i := (37, 3, .putfield 231, (12, 16, 1400), 0)) (by decide +kernel)) ac_o rfl ?_
  have hC0 : ac_Cl [] (am_up (am_up (am_up (am_up (am_up h 164 12 (.int b)) 164 13 (.int t)) 164 14 (.int l)) 164 15 (.int a)) 164 16 (.int c)) (am_up (am_up (am_up (am_up (am_up h 164 12 (.int b)) 164 13 (.int t)) 164 14 (.int l)) 164 15 (.int a)) 164 16 (.int c)) := fun o k => by rw [show ac_lk [] o = 0 from rfl, if_neg (Nat.not_lt_zero _)]
  have F0 : ab_Fr ac_ktM h (am_up (am_up (am_up (am_up (am_up h 164 12 (.int b)) 164 13 (.int t)) 164 14 (.int l)) 164 15 (.int a)) 164 16 (.int c)) := ab_Fr_up rfl (ab_Fr_up rfl (ab_Fr_up rfl (ab_Fr_up rfl (ab_Fr_up rfl ab_Fr_refl))))
  have hJf := fun h' => ac_J_kt hX (h' := h') (a := a) (c := c) hI hj h3 eb et el
  generalize (am_up (am_up (am_up (am_up (am_up h 164 12 (.int b)) 164 13 (.int t)) 164 14 (.int l)) 164 15 (.int a)) 164 16 (.int c)) = g0 at hC0 I5 F0 hJf ⊢
  have hg0 : ab_Inv (ab_hi ab_tab) g0 := I5
  refine am_e_aload_n (am_nxt_of (i := (40, 1, .aload_n 0, (0, 0, 0), 0)) (by decide +kernel)) (v := 164) rfl ?_
  refine am_e_getf (am_nxt_of (i := (41, 3, .getfield 24, (12, 23, 1407), 0)) (by decide +kernel)) ac_o (ac_f23 hg0) ?_
  refine am_e_bipush (w := 6) (am_nxt_of (i := (44, 2, .bipush 6, (0, 0, 0), 0)) (by decide +kernel)) (by decide) ?_
  refine am_e_callS (M' := am_m145) (ar := [.int 6, .ref 168]) (rest := []) (L := lv_args 0 [.ref 168, .int 6]) (am_nxt_of (i := (46, 3, .invokestatic 234, (145, 1365, 3), 0)) (by decide +kernel)) rfl rfl rfl rfl rfl rfl rfl ?_
  refine am_Ev_mono (ac_copies (c := 168) (L := 12) (n := 6) ac_k168 (fun q hq => by obtain ⟨v, ev, -⟩ := ac_r168 hg0 hq; exact ⟨v, ev⟩) (by decide) (by decide) (by decide)) (fun r ks g1 hq => ?_)
  obtain ⟨rfl, rfl, hp⟩ := hq
  show am_Ek false am_G0 am_m144 24 _ [] _ _ _ _ _
  have hC1 := ac_Cl_cons hC0 hp rfl
  clear hp
  have hg1 := ac_Cl_Inv (by decide +kernel) I5 hC1
  refine am_e_aload_n (am_nxt_of (i := (49, 1, .aload_n 0, (0, 0, 0), 0)) (by decide +kernel)) (v := 164) rfl ?_
  refine am_e_getf (am_nxt_of (i := (50, 3, .getfield 27, (12, 24, 1408), 0)) (by decide +kernel)) ac_o (ac_f24 hg1) ?_
  refine am_e_iconst (w := 4) (am_nxt_of (i := (53, 1, .iconst 4, (0, 0, 0), 0)) (by decide +kernel)) rfl ?_
  refine am_e_callS (M' := am_m145) (ar := [.int 4, .ref 169]) (rest := []) (L := lv_args 0 [.ref 169, .int 4]) (am_nxt_of (i := (54, 3, .invokestatic 234, (145, 1365, 3), 0)) (by decide +kernel)) rfl rfl rfl rfl rfl rfl rfl ?_
  refine am_Ev_mono (ac_copies (c := 169) (L := 8) (n := 4) ac_k169 (fun q hq => by obtain ⟨v, ev, -⟩ := ac_r169 hg1 hq; exact ⟨v, ev⟩) (by decide) (by decide) (by decide)) (fun r ks g2 hq => ?_)
  obtain ⟨rfl, rfl, hp⟩ := hq
  show am_Ek false am_G0 am_m144 28 _ [] _ _ _ _ _
  have hC2 := ac_Cl_cons hC1 hp rfl
  clear hp
  have hg2 := ac_Cl_Inv (by decide +kernel) I5 hC2
  refine am_e_aload_n (am_nxt_of (i := (57, 1, .aload_n 0, (0, 0, 0), 0)) (by decide +kernel)) (v := 164) rfl ?_
  refine am_e_getf (am_nxt_of (i := (58, 3, .getfield 30, (12, 25, 1409), 0)) (by decide +kernel)) ac_o (ac_f25 hg2) ?_
  refine am_e_bipush (w := 28) (am_nxt_of (i := (61, 2, .bipush 28, (0, 0, 0), 0)) (by decide +kernel)) (by decide) ?_
  refine am_e_callS (M' := am_m145) (ar := [.int 28, .ref 170]) (rest := []) (L := lv_args 0 [.ref 170, .int 28]) (am_nxt_of (i := (63, 3, .invokestatic 234, (145, 1365, 3), 0)) (by decide +kernel)) rfl rfl rfl rfl rfl rfl rfl ?_
  refine am_Ev_mono (ac_copies (c := 170) (L := 56) (n := 28) ac_k170 (fun q hq => by obtain ⟨v, ev, -⟩ := ac_r170 hg2 hq; exact ⟨v, ev⟩) (by decide) (by decide) (by decide)) (fun r ks g3 hq => ?_)
  obtain ⟨rfl, rfl, hp⟩ := hq
  show am_Ek false am_G0 am_m144 32 _ [] _ _ _ _ _
  have hC3 := ac_Cl_cons hC2 hp rfl
  clear hp
  have hg3 := ac_Cl_Inv (by decide +kernel) I5 hC3
  refine am_e_aload_n (am_nxt_of (i := (66, 1, .aload_n 0, (0, 0, 0), 0)) (by decide +kernel)) (v := 164) rfl ?_
  refine am_e_getf (am_nxt_of (i := (67, 3, .getfield 33, (12, 26, 1410), 0)) (by decide +kernel)) ac_o (ac_f26 hg3) ?_
  refine am_e_bipush (w := 8) (am_nxt_of (i := (70, 2, .bipush 8, (0, 0, 0), 0)) (by decide +kernel)) (by decide) ?_
  refine am_e_callS (M' := am_m145) (ar := [.int 8, .ref 171]) (rest := []) (L := lv_args 0 [.ref 171, .int 8]) (am_nxt_of (i := (72, 3, .invokestatic 234, (145, 1365, 3), 0)) (by decide +kernel)) rfl rfl rfl rfl rfl rfl rfl ?_
  refine am_Ev_mono (ac_copies (c := 171) (L := 16) (n := 8) ac_k171 (fun q hq => by obtain ⟨v, ev, -⟩ := ac_r171 hg3 hq; exact ⟨v, ev⟩) (by decide) (by decide) (by decide)) (fun r ks g4 hq => ?_)
  obtain ⟨rfl, rfl, hp⟩ := hq
  show am_Ek false am_G0 am_m144 36 _ [] _ _ _ _ _
  have hC4 := ac_Cl_cons hC3 hp rfl
  clear hp
  have hg4 := ac_Cl_Inv (by decide +kernel) I5 hC4
  refine am_e_aload_n (am_nxt_of (i := (75, 1, .aload_n 0, (0, 0, 0), 0)) (by decide +kernel)) (v := 164) rfl ?_
  refine am_e_getf (am_nxt_of (i := (76, 3, .getfield 36, (12, 27, 1411), 0)) (by decide +kernel)) ac_o (ac_f27 hg4) ?_
  refine am_e_bipush (w := 8) (am_nxt_of (i := (79, 2, .bipush 8, (0, 0, 0), 0)) (by decide +kernel)) (by decide) ?_
  refine am_e_callS (M' := am_m145) (ar := [.int 8, .ref 172]) (rest := []) (L := lv_args 0 [.ref 172, .int 8]) (am_nxt_of (i := (81, 3, .invokestatic 234, (145, 1365, 3), 0)) (by decide +kernel)) rfl rfl rfl rfl rfl rfl rfl ?_
  refine am_Ev_mono (ac_copies (c := 172) (L := 16) (n := 8) ac_k172 (fun q hq => by obtain ⟨v, ev, -⟩ := ac_r172 hg4 hq; exact ⟨v, ev⟩) (by decide) (by decide) (by decide)) (fun r ks g5 hq => ?_)
  obtain ⟨rfl, rfl, hp⟩ := hq
  show am_Ek false am_G0 am_m144 40 _ [] _ _ _ _ _
  have hC5 := ac_Cl_cons hC4 hp rfl
  clear hp
  have hg5 := ac_Cl_Inv (by decide +kernel) I5 hC5
  refine am_e_aload_n (am_nxt_of (i := (84, 1, .aload_n 0, (0, 0, 0), 0)) (by decide +kernel)) (v := 164) rfl ?_
  refine am_e_getf (am_nxt_of (i := (85, 3, .getfield 39, (12, 28, 1412), 0)) (by decide +kernel)) ac_o (ac_f28 hg5) ?_
  refine am_e_bipush (w := 6) (am_nxt_of (i := (88, 2, .bipush 6, (0, 0, 0), 0)) (by decide +kernel)) (by decide) ?_
  refine am_e_callS (M' := am_m145) (ar := [.int 6, .ref 173]) (rest := []) (L := lv_args 0 [.ref 173, .int 6]) (am_nxt_of (i := (90, 3, .invokestatic 234, (145, 1365, 3), 0)) (by decide +kernel)) rfl rfl rfl rfl rfl rfl rfl ?_
  refine am_Ev_mono (ac_copies (c := 173) (L := 12) (n := 6) ac_k173 (fun q hq => by obtain ⟨v, ev, -⟩ := ac_r173 hg5 hq; exact ⟨v, ev⟩) (by decide) (by decide) (by decide)) (fun r ks g6 hq => ?_)
  obtain ⟨rfl, rfl, hp⟩ := hq
  show am_Ek false am_G0 am_m144 44 _ [] _ _ _ _ _
  have hC6 := ac_Cl_cons hC5 hp rfl
  clear hp
  have hg6 := ac_Cl_Inv (by decide +kernel) I5 hC6
  refine am_e_aload_n (am_nxt_of (i := (93, 1, .aload_n 0, (0, 0, 0), 0)) (by decide +kernel)) (v := 164) rfl ?_
  refine am_e_getf (am_nxt_of (i := (94, 3, .getfield 42, (12, 29, 1413), 0)) (by decide +kernel)) ac_o (ac_f29 hg6) ?_
  refine am_e_bipush (w := 6) (am_nxt_of (i := (97, 2, .bipush 6, (0, 0, 0), 0)) (by decide +kernel)) (by decide) ?_
  refine am_e_callS (M' := am_m145) (ar := [.int 6, .ref 174]) (rest := []) (L := lv_args 0 [.ref 174, .int 6]) (am_nxt_of (i := (99, 3, .invokestatic 234, (145, 1365, 3), 0)) (by decide +kernel)) rfl rfl rfl rfl rfl rfl rfl ?_
  refine am_Ev_mono (ac_copies (c := 174) (L := 12) (n := 6) ac_k174 (fun q hq => by obtain ⟨v, ev, -⟩ := ac_r174 hg6 hq; exact ⟨v, ev⟩) (by decide) (by decide) (by decide)) (fun r ks g7 hq => ?_)
  obtain ⟨rfl, rfl, hp⟩ := hq
  show am_Ek false am_G0 am_m144 48 _ [] _ _ _ _ _
  have hC7 := ac_Cl_cons hC6 hp rfl
  clear hp
  have hg7 := ac_Cl_Inv (by decide +kernel) I5 hC7
  refine am_e_aload_n (am_nxt_of (i := (102, 1, .aload_n 0, (0, 0, 0), 0)) (by decide +kernel)) (v := 164) rfl ?_
  refine am_e_getf (am_nxt_of (i := (103, 3, .getfield 45, (12, 30, 1414), 0)) (by decide +kernel)) ac_o (ac_f30 hg7) ?_
  refine am_e_iconst (w := 3) (am_nxt_of (i := (106, 1, .iconst 3, (0, 0, 0), 0)) (by decide +kernel)) rfl ?_
  refine am_e_callS (M' := am_m145) (ar := [.int 3, .ref 175]) (rest := []) (L := lv_args 0 [.ref 175, .int 3]) (am_nxt_of (i := (107, 3, .invokestatic 234, (145, 1365, 3), 0)) (by decide +kernel)) rfl rfl rfl rfl rfl rfl rfl ?_
  refine am_Ev_mono (ac_copies (c := 175) (L := 6) (n := 3) ac_k175 (fun q hq => by obtain ⟨v, ev, -⟩ := ac_r175 hg7 hq; exact ⟨v, ev⟩) (by decide) (by decide) (by decide)) (fun r ks g8 hq => ?_)
  obtain ⟨rfl, rfl, hp⟩ := hq
  show am_Ek false am_G0 am_m144 52 _ [] _ _ _ _ _
  have hC8 := ac_Cl_cons hC7 hp rfl
  clear hp
  have hg8 := ac_Cl_Inv (by decide +kernel) I5 hC8
  refine am_e_aload_n (am_nxt_of (i := (110, 1, .aload_n 0, (0, 0, 0), 0)) (by decide +kernel)) (v := 164) rfl ?_
  refine am_e_getf (am_nxt_of (i := (111, 3, .getfield 48, (12, 31, 1415), 0)) (by decide +kernel)) ac_o (ac_f31 hg8) ?_
  refine am_e_iconst (w := 3) (am_nxt_of (i := (114, 1, .iconst 3, (0, 0, 0), 0)) (by decide +kernel)) rfl ?_
  refine am_e_callS (M' := am_m145) (ar := [.int 3, .ref 176]) (rest := []) (L := lv_args 0 [.ref 176, .int 3]) (am_nxt_of (i := (115, 3, .invokestatic 234, (145, 1365, 3), 0)) (by decide +kernel)) rfl rfl rfl rfl rfl rfl rfl ?_
  refine am_Ev_mono (ac_copies (c := 176) (L := 6) (n := 3) ac_k176 (fun q hq => by obtain ⟨v, ev, -⟩ := ac_r176 hg8 hq; exact ⟨v, ev⟩) (by decide) (by decide) (by decide)) (fun r ks g9 hq => ?_)
  obtain ⟨rfl, rfl, hp⟩ := hq
  show am_Ek false am_G0 am_m144 56 _ [] _ _ _ _ _
  have hC9 := ac_Cl_cons hC8 hp rfl
  clear hp
  have hg9 := ac_Cl_Inv (by decide +kernel) I5 hC9
  refine am_e_aload_n (am_nxt_of (i := (118, 1, .aload_n 0, (0, 0, 0), 0)) (by decide +kernel)) (v := 164) rfl ?_
  refine am_e_getf (am_nxt_of (i := (119, 3, .getfield 51, (12, 32, 1416), 0)) (by decide +kernel)) ac_o (ac_f32 hg9) ?_
  refine am_e_iconst (w := 3) (am_nxt_of (i := (122, 1, .iconst 3, (0, 0, 0), 0)) (by decide +kernel)) rfl ?_
  refine am_e_callS (M' := am_m145) (ar := [.int 3, .ref 177]) (rest := []) (L := lv_args 0 [.ref 177, .int 3]) (am_nxt_of (i := (123, 3, .invokestatic 234, (145, 1365, 3), 0)) (by decide +kernel)) rfl rfl rfl rfl rfl rfl rfl ?_
  refine am_Ev_mono (ac_copies (c := 177) (L := 6) (n := 3) ac_k177 (fun q hq => by obtain ⟨v, ev, -⟩ := ac_r177 hg9 hq; exact ⟨v, ev⟩) (by decide) (by decide) (by decide)) (fun r ks g10 hq => ?_)
  obtain ⟨rfl, rfl, hp⟩ := hq
  show am_Ek false am_G0 am_m144 60 _ [] _ _ _ _ _
  have hC10 := ac_Cl_cons hC9 hp rfl
  clear hp
  have hg10 := ac_Cl_Inv (by decide +kernel) I5 hC10
  refine am_e_iconst (w := 0) (am_nxt_of (i := (126, 1, .iconst 0, (0, 0, 0), 0)) (by decide +kernel)) rfl ?_
  refine am_e_istore_n (ls' := [(1, .int 0), (0, .ref 164)]) (am_nxt_of (i := (127, 1, .istore_n 1, (0, 0, 0), 0)) (by decide +kernel)) (by decide +kernel) rfl ?_
  obtain ⟨v3, ev3, v30, v31⟩ := ac_r178 hg10 (q := 3) (by decide)
  obtain ⟨v4, ev4, v40, v41⟩ := ac_r178 hg10 (q := 4) (by decide)
  obtain ⟨v5, ev5, v50, v51⟩ := ac_r178 hg10 (q := 5) (by decide)
  have hfit : ∀ v : Int32, 0 ≤ v.toInt → v.toInt ≤ 1 → am_fit .boolean (.int v) = true := by
    intro v h0 h1
    by_cases h2 : v.toInt = 0
    · rw [show v = 0 from Int32.toInt_inj.mp h2]; rfl
    · rw [show v = 1 from Int32.toInt_inj.mp (by rw [show (1 : Int32).toInt = 1 by decide]; omega)]; rfl
  refine am_e_iload_n (am_nxt_of (i := (128, 1, .iload_n 1, (0, 0, 0), 0)) (by decide +kernel)) (v := 0) rfl ?_
  refine am_e_iconst (w := 3) (am_nxt_of (i := (129, 1, .iconst 3, (0, 0, 0), 0)) (by decide +kernel)) rfl ?_
  refine am_e_cmpF (am_nxt_of (i := (130, 3, .if_icmp .ge 23, (77, 0, 0), 0)) (by decide +kernel)) (am_c_geF (by decide)) ?_
  refine am_e_aload_n (am_nxt_of (i := (133, 1, .aload_n 0, (0, 0, 0), 0)) (by decide +kernel)) (v := 164) rfl ?_
  refine am_e_getf (am_nxt_of (i := (134, 3, .getfield 54, (12, 33, 1417), 0)) (by decide +kernel)) ac_o (ac_f33 hg10) ?_
  refine am_e_iload_n (am_nxt_of (i := (137, 1, .iload_n 1, (0, 0, 0), 0)) (by decide +kernel)) (v := 0) rfl ?_
  refine am_e_aload_n (am_nxt_of (i := (138, 1, .aload_n 0, (0, 0, 0), 0)) (by decide +kernel)) (v := 164) rfl ?_
  refine am_e_getf (am_nxt_of (i := (139, 3, .getfield 54, (12, 33, 1417), 0)) (by decide +kernel)) ac_o (ac_f33 hg10) ?_
  refine am_e_iconst (w := 3) (am_nxt_of (i := (142, 1, .iconst 3, (0, 0, 0), 0)) (by decide +kernel)) rfl ?_
  refine am_e_iload_n (am_nxt_of (i := (143, 1, .iload_n 1, (0, 0, 0), 0)) (by decide +kernel)) (v := 0) rfl ?_
  refine am_e_iadd (w := 3) (am_nxt_of (i := (144, 1, .iadd, (0, 0, 0), 0)) (by decide +kernel)) (by decide) ?_
  refine am_e_baload (v := v3) (q := 3) (am_nxt_of (i := (145, 1, .baload, (0, 0, 0), 0)) (by decide +kernel)) ac_k178 (by decide) (by decide) ev3 ?_
  refine am_e_bastore (q := 0) (am_nxt_of (i := (146, 1, .bastore, (0, 0, 0), 0)) (by decide +kernel)) ac_k178 (hfit _ v30 v31) (by decide) (by decide) ?_
  have L0 := ac_w178 (q := 0) (v := v3) hg10 v30 v31
  refine am_e_iinc (w := 1) (ls' := [(1, .int 1), (0, .ref 164)]) (am_nxt_of (i := (147, 3, .iinc 1 1, (0, 0, 0), 0)) (by decide +kernel)) (v := 0) rfl (by decide +kernel) (by decide) rfl ?_
  refine am_e_goto (am_cur_of (i := (150, 3, .goto (-22), (62, 0, 0), 0)) (by decide +kernel)) (am_tgt_of (by decide +kernel)) ?_
  refine am_e_iload_n (am_nxt_of (i := (128, 1, .iload_n 1, (0, 0, 0), 0)) (by decide +kernel)) (v := 1) rfl ?_
  refine am_e_iconst (w := 3) (am_nxt_of (i := (129, 1, .iconst 3, (0, 0, 0), 0)) (by decide +kernel)) rfl ?_
  refine am_e_cmpF (am_nxt_of (i := (130, 3, .if_icmp .ge 23, (77, 0, 0), 0)) (by decide +kernel)) (am_c_geF (by decide)) ?_
  refine am_e_aload_n (am_nxt_of (i := (133, 1, .aload_n 0, (0, 0, 0), 0)) (by decide +kernel)) (v := 164) rfl ?_
  refine am_e_getf (am_nxt_of (i := (134, 3, .getfield 54, (12, 33, 1417), 0)) (by decide +kernel)) ac_o (ac_f33 L0) ?_
  refine am_e_iload_n (am_nxt_of (i := (137, 1, .iload_n 1, (0, 0, 0), 0)) (by decide +kernel)) (v := 1) rfl ?_
  refine am_e_aload_n (am_nxt_of (i := (138, 1, .aload_n 0, (0, 0, 0), 0)) (by decide +kernel)) (v := 164) rfl ?_
  refine am_e_getf (am_nxt_of (i := (139, 3, .getfield 54, (12, 33, 1417), 0)) (by decide +kernel)) ac_o (ac_f33 L0) ?_
  refine am_e_iconst (w := 3) (am_nxt_of (i := (142, 1, .iconst 3, (0, 0, 0), 0)) (by decide +kernel)) rfl ?_
  refine am_e_iload_n (am_nxt_of (i := (143, 1, .iload_n 1, (0, 0, 0), 0)) (by decide +kernel)) (v := 1) rfl ?_
  refine am_e_iadd (w := 4) (am_nxt_of (i := (144, 1, .iadd, (0, 0, 0), 0)) (by decide +kernel)) (by decide) ?_
  refine am_e_baload (v := v4) (q := 4) (am_nxt_of (i := (145, 1, .baload, (0, 0, 0), 0)) (by decide +kernel)) ac_k178 (by decide) (by decide) ev4 ?_
  refine am_e_bastore (q := 1) (am_nxt_of (i := (146, 1, .bastore, (0, 0, 0), 0)) (by decide +kernel)) ac_k178 (hfit _ v40 v41) (by decide) (by decide) ?_
  have L1 := ac_w178 (q := 1) (v := v4) L0 v40 v41
  refine am_e_iinc (w := 2) (ls' := [(1, .int 2), (0, .ref 164)]) (am_nxt_of (i := (147, 3, .iinc 1 1, (0, 0, 0), 0)) (by decide +kernel)) (v := 1) rfl (by decide +kernel) (by decide) rfl ?_
  refine am_e_goto (am_cur_of (i := (150, 3, .goto (-22), (62, 0, 0), 0)) (by decide +kernel)) (am_tgt_of (by decide +kernel)) ?_
  refine am_e_iload_n (am_nxt_of (i := (128, 1, .iload_n 1, (0, 0, 0), 0)) (by decide +kernel)) (v := 2) rfl ?_
  refine am_e_iconst (w := 3) (am_nxt_of (i := (129, 1, .iconst 3, (0, 0, 0), 0)) (by decide +kernel)) rfl ?_
  refine am_e_cmpF (am_nxt_of (i := (130, 3, .if_icmp .ge 23, (77, 0, 0), 0)) (by decide +kernel)) (am_c_geF (by decide)) ?_
  refine am_e_aload_n (am_nxt_of (i := (133, 1, .aload_n 0, (0, 0, 0), 0)) (by decide +kernel)) (v := 164) rfl ?_
  refine am_e_getf (am_nxt_of (i := (134, 3, .getfield 54, (12, 33, 1417), 0)) (by decide +kernel)) ac_o (ac_f33 L1) ?_
  refine am_e_iload_n (am_nxt_of (i := (137, 1, .iload_n 1, (0, 0, 0), 0)) (by decide +kernel)) (v := 2) rfl ?_
  refine am_e_aload_n (am_nxt_of (i := (138, 1, .aload_n 0, (0, 0, 0), 0)) (by decide +kernel)) (v := 164) rfl ?_
  refine am_e_getf (am_nxt_of (i := (139, 3, .getfield 54, (12, 33, 1417), 0)) (by decide +kernel)) ac_o (ac_f33 L1) ?_
  refine am_e_iconst (w := 3) (am_nxt_of (i := (142, 1, .iconst 3, (0, 0, 0), 0)) (by decide +kernel)) rfl ?_
  refine am_e_iload_n (am_nxt_of (i := (143, 1, .iload_n 1, (0, 0, 0), 0)) (by decide +kernel)) (v := 2) rfl ?_
  refine am_e_iadd (w := 5) (am_nxt_of (i := (144, 1, .iadd, (0, 0, 0), 0)) (by decide +kernel)) (by decide) ?_
  refine am_e_baload (v := v5) (q := 5) (am_nxt_of (i := (145, 1, .baload, (0, 0, 0), 0)) (by decide +kernel)) ac_k178 (by decide) (by decide) ev5 ?_
  refine am_e_bastore (q := 2) (am_nxt_of (i := (146, 1, .bastore, (0, 0, 0), 0)) (by decide +kernel)) ac_k178 (hfit _ v50 v51) (by decide) (by decide) ?_
  have L2 := ac_w178 (q := 2) (v := v5) L1 v50 v51
  refine am_e_iinc (w := 3) (ls' := [(1, .int 3), (0, .ref 164)]) (am_nxt_of (i := (147, 3, .iinc 1 1, (0, 0, 0), 0)) (by decide +kernel)) (v := 2) rfl (by decide +kernel) (by decide) rfl ?_
  refine am_e_goto (am_cur_of (i := (150, 3, .goto (-22), (62, 0, 0), 0)) (by decide +kernel)) (am_tgt_of (by decide +kernel)) ?_
  refine am_e_iload_n (am_nxt_of (i := (128, 1, .iload_n 1, (0, 0, 0), 0)) (by decide +kernel)) (v := 3) rfl ?_
  refine am_e_iconst (w := 3) (am_nxt_of (i := (129, 1, .iconst 3, (0, 0, 0), 0)) (by decide +kernel)) rfl ?_
  refine am_e_cmpT (am_nxt_of (i := (130, 3, .if_icmp .ge 23, (77, 0, 0), 0)) (by decide +kernel)) (am_c_geT (by decide)) (am_tgt_of (by decide +kernel)) ?_
  have hp : ac_Cp 178 3 g10 (am_up (am_up (am_up g10 178 0 (.int v3)) 178 1 (.int v4)) 178 2 (.int v5)) := by
    intro o k
    by_cases ho : o = 178
    · subst ho
      match k with
      | 0 => exact ev3.symm
      | 1 => exact ev4.symm
      | 2 => exact ev5.symm
      | k + 3 => rw [am_up_same _ _ _ _ _ (by omega), am_up_same _ _ _ _ _ (by omega), am_up_same _ _ _ _ _ (by omega), if_neg (by omega)]
    · rw [am_up_other _ _ _ _ _ ho, am_up_other _ _ _ _ _ ho, am_up_other _ _ _ _ _ ho, if_neg (fun q => ho q.1)]
  have hC11 := ac_Cl_cons hC10 hp rfl
  have hg11 := ac_Cl_Inv (by decide +kernel) I5 hC11
  clear hp
  generalize (am_up (am_up (am_up g10 178 0 (.int v3)) 178 1 (.int v4)) 178 2 (.int v5)) = g11 at L2 hC11 hg11 ⊢
  refine am_Ek_ls (ls' := [(0, .ref 164)]) ⟨rfl, trivial⟩ ?_
  refine am_e_aload_n (am_nxt_of (i := (153, 1, .aload_n 0, (0, 0, 0), 0)) (by decide +kernel)) (v := 164) rfl ?_
  refine am_e_getf (am_nxt_of (i := (154, 3, .getfield 57, (12, 34, 1418), 0)) (by decide +kernel)) ac_o (ac_f34 hg11) ?_
  refine am_e_iconst (w := 3) (am_nxt_of (i := (157, 1, .iconst 3, (0, 0, 0), 0)) (by decide +kernel)) rfl ?_
  refine am_e_callS (M' := am_m145) (ar := [.int 3, .ref 179]) (rest := []) (L := lv_args 0 [.ref 179, .int 3]) (am_nxt_of (i := (158, 3, .invokestatic 234, (145, 1365, 3), 0)) (by decide +kernel)) rfl rfl rfl rfl rfl rfl rfl ?_
  refine am_Ev_mono (ac_copies (c := 179) (L := 6) (n := 3) ac_k179 (fun q hq => by obtain ⟨v, ev, -⟩ := ac_r179 hg11 hq; exact ⟨v, ev⟩) (by decide) (by decide) (by decide)) (fun r ks g12 hq => ?_)
  obtain ⟨rfl, rfl, hp⟩ := hq
  show am_Ek false am_G0 am_m144 81 _ [] _ _ _ _ _
  have hC12 := ac_Cl_cons hC11 hp rfl
  clear hp
  have hg12 := ac_Cl_Inv (by decide +kernel) I5 hC12
  refine am_e_aload_n (am_nxt_of (i := (161, 1, .aload_n 0, (0, 0, 0), 0)) (by decide +kernel)) (v := 164) rfl ?_
  refine am_e_getf (am_nxt_of (i := (162, 3, .getfield 60, (12, 35, 1419), 0)) (by decide +kernel)) ac_o (ac_f35 hg12) ?_
  refine am_e_iconst (w := 3) (am_nxt_of (i := (165, 1, .iconst 3, (0, 0, 0), 0)) (by decide +kernel)) rfl ?_
  refine am_e_callS (M' := am_m145) (ar := [.int 3, .ref 180]) (rest := []) (L := lv_args 0 [.ref 180, .int 3]) (am_nxt_of (i := (166, 3, .invokestatic 234, (145, 1365, 3), 0)) (by decide +kernel)) rfl rfl rfl rfl rfl rfl rfl ?_
  refine am_Ev_mono (ac_copies (c := 180) (L := 6) (n := 3) ac_k180 (fun q hq => by obtain ⟨v, ev, -⟩ := ac_r180 hg12 hq; exact ⟨v, ev⟩) (by decide) (by decide) (by decide)) (fun r ks g13 hq => ?_)
  obtain ⟨rfl, rfl, hp⟩ := hq
  show am_Ek false am_G0 am_m144 85 _ [] _ _ _ _ _
  have hC13 := ac_Cl_cons hC12 hp rfl
  clear hp
  have hg13 := ac_Cl_Inv (by decide +kernel) I5 hC13
  refine am_e_aload_n (am_nxt_of (i := (169, 1, .aload_n 0, (0, 0, 0), 0)) (by decide +kernel)) (v := 164) rfl ?_
  refine am_e_getf (am_nxt_of (i := (170, 3, .getfield 63, (12, 36, 1420), 0)) (by decide +kernel)) ac_o (ac_f36 hg13) ?_
  refine am_e_bipush (w := 64) (am_nxt_of (i := (173, 2, .bipush 64, (0, 0, 0), 0)) (by decide +kernel)) (by decide) ?_
  refine am_e_callS (M' := am_m145) (ar := [.int 64, .ref 181]) (rest := []) (L := lv_args 0 [.ref 181, .int 64]) (am_nxt_of (i := (175, 3, .invokestatic 234, (145, 1365, 3), 0)) (by decide +kernel)) rfl rfl rfl rfl rfl rfl rfl ?_
  refine am_Ev_mono (ac_copies (c := 181) (L := 128) (n := 64) ac_k181 (fun q hq => by obtain ⟨v, ev, -⟩ := ac_r181 hg13 hq; exact ⟨v, ev⟩) (by decide) (by decide) (by decide)) (fun r ks g14 hq => ?_)
  obtain ⟨rfl, rfl, hp⟩ := hq
  show am_Ek false am_G0 am_m144 89 _ [] _ _ _ _ _
  have hC14 := ac_Cl_cons hC13 hp rfl
  clear hp
  have hg14 := ac_Cl_Inv (by decide +kernel) I5 hC14
  refine am_e_aload_n (am_nxt_of (i := (178, 1, .aload_n 0, (0, 0, 0), 0)) (by decide +kernel)) (v := 164) rfl ?_
  refine am_e_getf (am_nxt_of (i := (179, 3, .getfield 66, (12, 37, 1421), 0)) (by decide +kernel)) ac_o (ac_f37 hg14) ?_
  refine am_e_bipush (w := 64) (am_nxt_of (i := (182, 2, .bipush 64, (0, 0, 0), 0)) (by decide +kernel)) (by decide) ?_
  refine am_e_callS (M' := am_m145) (ar := [.int 64, .ref 182]) (rest := []) (L := lv_args 0 [.ref 182, .int 64]) (am_nxt_of (i := (184, 3, .invokestatic 234, (145, 1365, 3), 0)) (by decide +kernel)) rfl rfl rfl rfl rfl rfl rfl ?_
  refine am_Ev_mono (ac_copies (c := 182) (L := 128) (n := 64) ac_k182 (fun q hq => by obtain ⟨v, ev, -⟩ := ac_r182 hg14 hq; exact ⟨v, ev⟩) (by decide) (by decide) (by decide)) (fun r ks g15 hq => ?_)
  obtain ⟨rfl, rfl, hp⟩ := hq
  show am_Ek false am_G0 am_m144 93 _ [] _ _ _ _ _
  have hC15 := ac_Cl_cons hC14 hp rfl
  clear hp
  have hg15 := ac_Cl_Inv (by decide +kernel) I5 hC15
  refine am_e_aload_n (am_nxt_of (i := (187, 1, .aload_n 0, (0, 0, 0), 0)) (by decide +kernel)) (v := 164) rfl ?_
  refine am_e_getf (am_nxt_of (i := (188, 3, .getfield 69, (12, 38, 1422), 0)) (by decide +kernel)) ac_o (ac_f38 hg15) ?_
  refine am_e_bipush (w := 64) (am_nxt_of (i := (191, 2, .bipush 64, (0, 0, 0), 0)) (by decide +kernel)) (by decide) ?_
  refine am_e_callS (M' := am_m145) (ar := [.int 64, .ref 183]) (rest := []) (L := lv_args 0 [.ref 183, .int 64]) (am_nxt_of (i := (193, 3, .invokestatic 234, (145, 1365, 3), 0)) (by decide +kernel)) rfl rfl rfl rfl rfl rfl rfl ?_
  refine am_Ev_mono (ac_copies (c := 183) (L := 128) (n := 64) ac_k183 (fun q hq => by obtain ⟨v, ev, -⟩ := ac_r183 hg15 hq; exact ⟨v, ev⟩) (by decide) (by decide) (by decide)) (fun r ks g16 hq => ?_)
  obtain ⟨rfl, rfl, hp⟩ := hq
  show am_Ek false am_G0 am_m144 97 _ [] _ _ _ _ _
  have hC16 := ac_Cl_cons hC15 hp rfl
  clear hp
  have hg16 := ac_Cl_Inv (by decide +kernel) I5 hC16
  have Jf := hJf _ hC16
  refine am_e_aload_n (am_nxt_of (i := (196, 1, .aload_n 0, (0, 0, 0), 0)) (by decide +kernel)) (v := 164) rfl ?_
  refine am_e_callV (M' := am_m146) (o := 164) (ar := []) (rest := []) (L := lv_args 0 [.ref 164]) (am_nxt_of (i := (197, 3, .invokevirtual 238, (146, 1368, 3), 0)) (by decide +kernel)) rfl rfl rfl rfl ac_o rfl rfl rfl ?_
  refine am_Ev_mono (ac_use hbg rfl ⟨⟨164, rfl, List.mem_singleton.mpr rfl⟩, trivial⟩ hg16 Jf ac_p0) (fun r ks g hq => ?_)
  obtain ⟨rfl, q1, q2, q3, c', hc, hg⟩ := hq
  have hr : r = none := ab_voidC_ok (s := ab_S_begin) rfl ⟨c', hc, hg.1⟩
  subst hr
  show am_Ek false am_G0 am_m144 99 _ [] _ _ _ _ _
  exact am_e_vret (am_cur_of (i := (200, 1, .return_, (0, 0, 0), 0)) (by decide +kernel)) rfl rfl ⟨rfl, rfl, q1, q2, g16, ab_Fr_trans F0 (ac_Cl_Fr hC16 (by decide)), q3⟩
end ACE
