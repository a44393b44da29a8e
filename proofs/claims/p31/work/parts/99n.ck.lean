/-! ===== THE MODEL'S noted, cheek, strike (wip/s/gen99n.py) ===== -/
section ACO
variable {X : am_H → Prop}
theorem ac_J_198 (hX : ac_XF X) {h : am_H} {c : Nat} {k n f l : Int32} (hj : ac_JX X h) (k0 : -1 ≤ k.toInt) (k3 : k.toInt ≤ 3) (hn : k.toInt < 0 → 0 ≤ n.toInt ∧ n.toInt ≤ 23) : ac_JX X (am_up (am_up (am_up (am_up h 198 (4 * c) (.int k)) 198 (4 * c + 1) (.int n)) 198 (4 * c + 2) (.int f)) 198 (4 * c + 3) (.int l)) := by
  obtain ⟨⟨j1, j2, j3, j4, j5, j6, j7, j8, j9, j10, j11, j12, j13⟩, hx⟩ := hj
  have a : ∀ {h : am_H} {q : Nat} {v : Int32}, X h → X (am_up h 198 q (.int v)) := fun hx => ac_X_up hX (by decide) (fun e => absurd e (by decide)) hx
  refine ⟨⟨j1, j2, j3, j4, j5, ?_, j7, j8, j9, j10, j11, j12, j13⟩, a (a (a (a hx)))⟩
  intro i hi
  by_cases e : i = c
  · subst e
    refine ⟨k, n, ?_, k0, k3, ?_, hn⟩
    · rw [am_up_same _ _ _ _ _ (show ¬ 4 * i = 4 * i + 3 by omega), am_up_same _ _ _ _ _ (show ¬ 4 * i = 4 * i + 2 by omega), am_up_same _ _ _ _ _ (show ¬ 4 * i = 4 * i + 1 by omega), am_up_self]
    · rw [am_up_same _ _ _ _ _ (show ¬ 4 * i + 1 = 4 * i + 3 by omega), am_up_same _ _ _ _ _ (show ¬ 4 * i + 1 = 4 * i + 2 by omega), am_up_self]
  · obtain ⟨k', n', g1, g2, g3, g4, g5⟩ := j6 i hi
    refine ⟨k', n', ?_, g2, g3, ?_, g5⟩
    · rw [am_up_same _ _ _ _ _ (show ¬ 4 * i = 4 * c + 3 by omega), am_up_same _ _ _ _ _ (show ¬ 4 * i = 4 * c + 2 by omega), am_up_same _ _ _ _ _ (show ¬ 4 * i = 4 * c + 1 by omega), am_up_same _ _ _ _ _ (show ¬ 4 * i = 4 * c by omega)]
      exact g1
    · rw [am_up_same _ _ _ _ _ (show ¬ 4 * i + 1 = 4 * c + 3 by omega), am_up_same _ _ _ _ _ (show ¬ 4 * i + 1 = 4 * c + 2 by omega), am_up_same _ _ _ _ _ (show ¬ 4 * i + 1 = 4 * c + 1 by omega), am_up_same _ _ _ _ _ (show ¬ 4 * i + 1 = 4 * c by omega)]
      exact g4
theorem ac_4c {c z : Int32} {d : Nat} (c0 : 0 ≤ c.toInt) (c1 : c.toInt ≤ 23) (hz : z.toInt = d) (hd : d ≤ 3) : ((4 : Int32) * c + z).toInt = 4 * c.toInt + d := by
  have m4 := ab_mul4 c0 (by omega)
  rw [ab_iadd (by omega) (by omega), m4, hz]
abbrev ac_nt : List (Nat × Nat) := [(164, 74), (198, 0)]
theorem ac_noted (hX : ac_XF X) {h : am_H} (hI : ab_Inv (ab_hi ab_tab) h) (hj : ac_JX X h) {k n f l c : Int32} (ec : h 164 73 = .int c) (c0 : 0 ≤ c.toInt) (c1 : c.toInt ≤ 23) (k0 : -1 ≤ k.toInt) (k3 : k.toInt ≤ 3) (n0 : 0 ≤ n.toInt) (n9 : n.toInt ≤ 99) (hn : k.toInt < 0 → 0 ≤ n.toInt ∧ n.toInt ≤ 23) (f0 : 0 ≤ f.toInt) (f9 : f.toInt ≤ 9999) (l0 : 0 ≤ l.toInt) (l1 : l.toInt ≤ 1) : am_Ek false am_G0 am_m241 0 (lv_args 0 [.ref 164, .int k, .int n, .int f, .int l]) [] am_ks0 h 0 0 (ac_opQ X ac_nt h) := by
  have m4 := ab_mul4 c0 (by omega)
  have a1 := ac_4c (z := 1) (d := 1) c0 c1 (by decide) (by decide)
  have a2 := ac_4c (z := 2) (d := 2) c0 c1 (by decide) (by decide)
  have a3 := ac_4c (z := 3) (d := 3) c0 c1 (by decide) (by decide)
  obtain ⟨q, hq⟩ : ∃ q : Nat, c.toInt = q := ⟨c.toInt.toNat, by omega⟩
  have i0 := ab_ix (x := (4 : Int32) * c) (n := 96) (by omega) (by omega)
  have i1 := ab_ix (x := (4 : Int32) * c + 1) (n := 96) (by omega) (by omega)
  have i2 := ab_ix (x := (4 : Int32) * c + 2) (n := 96) (by omega) (by omega)
  have i3 := ab_ix (x := (4 : Int32) * c + 3) (n := 96) (by omega) (by omega)
  have q0 : ((4 : Int32) * c).toNatClampNeg = 4 * q := ab_clamp (by omega)
  have q1 : ((4 : Int32) * c + 1).toNatClampNeg = 4 * q + 1 := ab_clamp (by omega)
  have q2 : ((4 : Int32) * c + 2).toNatClampNeg = 4 * q + 2 := ab_clamp (by omega)
  have q3 : ((4 : Int32) * c + 3).toNatClampNeg = 4 * q + 3 := ab_clamp (by omega)
  have I0 := ac_w198 (q := 4 * q) (v := k) hI (by omega) (by omega)
  have I1 := ac_w198 (q := 4 * q + 1) (v := n) I0 (by omega) (by omega)
  have I2 := ac_w198 (q := 4 * q + 2) (v := f) I1 (by omega) (by omega)
  have I3 := ac_w198 (q := 4 * q + 3) (v := l) I2 (by omega) (by omega)
  have e1 := ac_c1 (x := c) c0 (by omega)
  have I4 := ac_p73 (v := c + 1) I3 (by omega) (by omega)
  refine am_e_aload_n (am_nxt_of (i := (0, 1, .aload_n 0, (0, 0, 0), 0)) (by decide +kernel)) (v := 164) rfl ?_
  refine am_e_getf (am_nxt_of (i := (1, 3, .getfield 121, (12, 75, 1459), 0)) (by decide +kernel)) ac_o (ac_f75 hI) ?_
  refine am_e_iconst (w := 4) (am_nxt_of (i := (4, 1, .iconst 4, (0, 0, 0), 0)) (by decide +kernel)) rfl ?_
  refine am_e_aload_n (am_nxt_of (i := (5, 1, .aload_n 0, (0, 0, 0), 0)) (by decide +kernel)) (v := 164) rfl ?_
  refine am_e_getf (v := .int c) (am_nxt_of (i := (6, 3, .getfield 368, (12, 73, 1457), 0)) (by decide +kernel)) ac_o ec ?_
  refine am_e_imul (w := 4 * c) (am_nxt_of (i := (9, 1, .imul, (0, 0, 0), 0)) (by decide +kernel)) rfl ?_
  refine am_e_iload_n (am_nxt_of (i := (10, 1, .iload_n 1, (0, 0, 0), 0)) (by decide +kernel)) (v := k) rfl ?_
  refine am_e_iastore (am_nxt_of (i := (11, 1, .iastore, (0, 0, 0), 0)) (by decide +kernel)) ac_k198 i0 q0 ?_
  refine am_e_aload_n (am_nxt_of (i := (12, 1, .aload_n 0, (0, 0, 0), 0)) (by decide +kernel)) (v := 164) rfl ?_
  refine am_e_getf (am_nxt_of (i := (13, 3, .getfield 121, (12, 75, 1459), 0)) (by decide +kernel)) ac_o (ac_f75 I0) ?_
  refine am_e_iconst (w := 4) (am_nxt_of (i := (16, 1, .iconst 4, (0, 0, 0), 0)) (by decide +kernel)) rfl ?_
  refine am_e_aload_n (am_nxt_of (i := (17, 1, .aload_n 0, (0, 0, 0), 0)) (by decide +kernel)) (v := 164) rfl ?_
  refine am_e_getf (v := .int c) (am_nxt_of (i := (18, 3, .getfield 368, (12, 73, 1457), 0)) (by decide +kernel)) ac_o ec ?_
  refine am_e_imul (w := 4 * c) (am_nxt_of (i := (21, 1, .imul, (0, 0, 0), 0)) (by decide +kernel)) rfl ?_
  refine am_e_iconst (w := 1) (am_nxt_of (i := (22, 1, .iconst 1, (0, 0, 0), 0)) (by decide +kernel)) rfl ?_
  refine am_e_iadd (w := (4 * c) + 1) (am_nxt_of (i := (23, 1, .iadd, (0, 0, 0), 0)) (by decide +kernel)) rfl ?_
  refine am_e_iload_n (am_nxt_of (i := (24, 1, .iload_n 2, (0, 0, 0), 0)) (by decide +kernel)) (v := n) rfl ?_
  refine am_e_iastore (am_nxt_of (i := (25, 1, .iastore, (0, 0, 0), 0)) (by decide +kernel)) ac_k198 i1 q1 ?_
  refine am_e_aload_n (am_nxt_of (i := (26, 1, .aload_n 0, (0, 0, 0), 0)) (by decide +kernel)) (v := 164) rfl ?_
  refine am_e_getf (am_nxt_of (i := (27, 3, .getfield 121, (12, 75, 1459), 0)) (by decide +kernel)) ac_o (ac_f75 I1) ?_
  refine am_e_iconst (w := 4) (am_nxt_of (i := (30, 1, .iconst 4, (0, 0, 0), 0)) (by decide +kernel)) rfl ?_
  refine am_e_aload_n (am_nxt_of (i := (31, 1, .aload_n 0, (0, 0, 0), 0)) (by decide +kernel)) (v := 164) rfl ?_
  refine am_e_getf (v := .int c) (am_nxt_of (i := (32, 3, .getfield 368, (12, 73, 1457), 0)) (by decide +kernel)) ac_o ec ?_
  refine am_e_imul (w := 4 * c) (am_nxt_of (i := (35, 1, .imul, (0, 0, 0), 0)) (by decide +kernel)) rfl ?_
  refine am_e_iconst (w := 2) (am_nxt_of (i := (36, 1, .iconst 2, (0, 0, 0), 0)) (by decide +kernel)) rfl ?_
  refine am_e_iadd (w := (4 * c) + 2) (am_nxt_of (i := (37, 1, .iadd, (0, 0, 0), 0)) (by decide +kernel)) rfl ?_
  refine am_e_iload_n (am_nxt_of (i := (38, 1, .iload_n 3, (0, 0, 0), 0)) (by decide +kernel)) (v := f) rfl ?_
  refine am_e_iastore (am_nxt_of (i := (39, 1, .iastore, (0, 0, 0), 0)) (by decide +kernel)) ac_k198 i2 q2 ?_
  refine am_e_aload_n (am_nxt_of (i := (40, 1, .aload_n 0, (0, 0, 0), 0)) (by decide +kernel)) (v := 164) rfl ?_
  refine am_e_getf (am_nxt_of (i := (41, 3, .getfield 121, (12, 75, 1459), 0)) (by decide +kernel)) ac_o (ac_f75 I2) ?_
  refine am_e_iconst (w := 4) (am_nxt_of (i := (44, 1, .iconst 4, (0, 0, 0), 0)) (by decide +kernel)) rfl ?_
  refine am_e_aload_n (am_nxt_of (i := (45, 1, .aload_n 0, (0, 0, 0), 0)) (by decide +kernel)) (v := 164) rfl ?_
  refine am_e_getf (v := .int c) (am_nxt_of (i := (46, 3, .getfield 368, (12, 73, 1457), 0)) (by decide +kernel)) ac_o ec ?_
  refine am_e_imul (w := 4 * c) (am_nxt_of (i := (49, 1, .imul, (0, 0, 0), 0)) (by decide +kernel)) rfl ?_
  refine am_e_iconst (w := 3) (am_nxt_of (i := (50, 1, .iconst 3, (0, 0, 0), 0)) (by decide +kernel)) rfl ?_
  refine am_e_iadd (w := (4 * c) + 3) (am_nxt_of (i := (51, 1, .iadd, (0, 0, 0), 0)) (by decide +kernel)) rfl ?_
  refine am_e_iload (am_nxt_of (i := (52, 2, .iload 4, (0, 0, 0), 0)) (by decide +kernel)) (v := l) rfl ?_
  refine am_e_iastore (am_nxt_of (i := (54, 1, .iastore, (0, 0, 0), 0)) (by decide +kernel)) ac_k198 i3 q3 ?_
  refine am_e_aload_n (am_nxt_of (i := (55, 1, .aload_n 0, (0, 0, 0), 0)) (by decide +kernel)) (v := 164) rfl ?_
  refine am_e_dup (am_nxt_of (i := (56, 1, .dup, (0, 0, 0), 0)) (by decide +kernel)) rfl ?_
  refine am_e_getf (v := .int c) (am_nxt_of (i := (57, 3, .getfield 368, (12, 73, 1457), 0)) (by decide +kernel)) ac_o ec ?_
  refine am_e_iconst (w := 1) (am_nxt_of (i := (60, 1, .iconst 1, (0, 0, 0), 0)) (by decide +kernel)) rfl ?_
  refine am_e_iadd (w := c + 1) (am_nxt_of (i := (61, 1, .iadd, (0, 0, 0), 0)) (by decide +kernel)) rfl ?_
  refine am_e_putf (am_nxt_of (i := (62, 3, .putfield 368, (12, 73, 1457), 0)) (by decide +kernel)) ac_o rfl ?_
  have hfr : ab_Fr [(164, 74)] _ (am_up (am_up (am_up (am_up (am_up h 198 (4 * q) (.int k)) 198 (4 * q + 1) (.int n)) 198 (4 * q + 2) (.int f)) 198 (4 * q + 3) (.int l)) 164 73 (.int (c + 1))) := ab_Fr_up rfl ab_Fr_refl
  refine am_e_aload_n (am_nxt_of (i := (65, 1, .aload_n 0, (0, 0, 0), 0)) (by decide +kernel)) (v := 164) rfl ?_
  refine am_e_getf (v := .int (c + 1)) (am_nxt_of (i := (66, 3, .getfield 368, (12, 73, 1457), 0)) (by decide +kernel)) ac_o rfl ?_
  refine am_e_iconst (w := 1) (am_nxt_of (i := (69, 1, .iconst 1, (0, 0, 0), 0)) (by decide +kernel)) rfl ?_
  refine am_e_isub (w := (c + 1) - 1) (am_nxt_of (i := (70, 1, .isub, (0, 0, 0), 0)) (by decide +kernel)) rfl ?_
  exact am_e_iret (ty := .int) (am_cur_of (i := (71, 1, .ireturn, (0, 0, 0), 0)) (by decide +kernel)) rfl rfl rfl ⟨rfl, I4, ac_JX_fr hX rfl _ _ hfr (ac_J_198 hX hj k0 k3 hn), ab_Fr_up rfl (ab_Fr_up rfl (ab_Fr_up rfl (ab_Fr_up rfl (ab_Fr_up rfl ab_Fr_refl)))), _, rfl⟩
abbrev ac_ntO : List (Nat × Nat) := [(164, 3), (164, 74), (198, 0)]
theorem ac_strike (hX : ac_XF X) {h : am_H} (hI : ab_Inv (ab_hi ab_tab) h) (hj : ac_JX X h) {k : Int32} : am_Ek false am_G0 am_m242 0 (lv_args 0 [.ref 164, .int k]) [] am_ks0 h 0 0 (ac_opQ X ac_ntO h) := by
  have z24 : (24 : Int32).toInt = 24 := by decide
  have z0 : (0 : Int32).toInt = 0 := by decide
  have I1 := ac_p2 (v := 0) hI (by decide) (by decide)
  have J1 := ac_JX_fr hX (md := [(164, 3)]) rfl _ (am_up h 164 2 (.int 0)) (ab_Fr_up rfl ab_Fr_refl) hj
  have f1 : ab_Fr ac_ntO h (am_up h 164 2 (.int 0)) := ab_Fr_up rfl ab_Fr_refl
  obtain ⟨c, ec, c0, c24⟩ := ac_g73 I1
  obtain ⟨b, eb, b0, b4⟩ := ac_g12 I1
  refine am_e_aload_n (am_nxt_of (i := (0, 1, .aload_n 0, (0, 0, 0), 0)) (by decide +kernel)) (v := 164) rfl ?_
  refine am_e_iconst (w := 0) (am_nxt_of (i := (1, 1, .iconst 0, (0, 0, 0), 0)) (by decide +kernel)) rfl ?_
  refine am_e_putf (am_nxt_of (i := (2, 3, .putfield 139, (12, 2, 1386), 0)) (by decide +kernel)) ac_o rfl ?_
  refine am_e_aload_n (am_nxt_of (i := (5, 1, .aload_n 0, (0, 0, 0), 0)) (by decide +kernel)) (v := 164) rfl ?_
  refine am_e_getf (v := .int c) (am_nxt_of (i := (6, 3, .getfield 368, (12, 73, 1457), 0)) (by decide +kernel)) ac_o ec ?_
  refine am_e_bipush (w := 24) (am_nxt_of (i := (9, 2, .bipush 24, (0, 0, 0), 0)) (by decide +kernel)) (by decide) ?_
  by_cases hc : (c : Int32) = 24
  · refine am_e_cmpT (am_nxt_of (i := (11, 3, .if_icmp .eq 15, (13, 0, 0), 0)) (by decide +kernel)) (am_c_eqT hc) (am_tgt_of (by decide +kernel)) ?_
    refine am_e_iconst (w := (-1)) (am_nxt_of (i := (26, 1, .iconst (-1), (0, 0, 0), 0)) (by decide +kernel)) rfl ?_
    refine am_e_goto (am_cur_of (i := (27, 3, .goto 11, (21, 0, 0), 0)) (by decide +kernel)) (am_tgt_of (by decide +kernel)) ?_
    exact am_e_iret (ty := .int) (am_cur_of (i := (38, 1, .ireturn, (0, 0, 0), 0)) (by decide +kernel)) rfl rfl rfl ⟨rfl, I1, J1, f1, _, rfl⟩
  · refine am_e_cmpF (am_nxt_of (i := (11, 3, .if_icmp .eq 15, (13, 0, 0), 0)) (by decide +kernel)) (am_c_eqF hc) ?_
    have c23 := ac_ne' hc
    refine am_e_iload_n (am_nxt_of (i := (14, 1, .iload_n 1, (0, 0, 0), 0)) (by decide +kernel)) (v := k) rfl ?_
    by_cases hk : (k : Int32) < 0
    · refine am_e_ifT (am_nxt_of (i := (15, 3, .ifCond .lt 11, (13, 0, 0), 0)) (by decide +kernel)) (am_c_ltT hk) (am_tgt_of (by decide +kernel)) ?_
      refine am_e_iconst (w := (-1)) (am_nxt_of (i := (26, 1, .iconst (-1), (0, 0, 0), 0)) (by decide +kernel)) rfl ?_
      refine am_e_goto (am_cur_of (i := (27, 3, .goto 11, (21, 0, 0), 0)) (by decide +kernel)) (am_tgt_of (by decide +kernel)) ?_
      exact am_e_iret (ty := .int) (am_cur_of (i := (38, 1, .ireturn, (0, 0, 0), 0)) (by decide +kernel)) rfl rfl rfl ⟨rfl, I1, J1, f1, _, rfl⟩
    · refine am_e_ifF (am_nxt_of (i := (15, 3, .ifCond .lt 11, (13, 0, 0), 0)) (by decide +kernel)) (am_c_ltF hk) ?_
      have k0 := ac_nlt' hk
      refine am_e_iload_n (am_nxt_of (i := (18, 1, .iload_n 1, (0, 0, 0), 0)) (by decide +kernel)) (v := k) rfl ?_
      refine am_e_aload_n (am_nxt_of (i := (19, 1, .aload_n 0, (0, 0, 0), 0)) (by decide +kernel)) (v := 164) rfl ?_
      refine am_e_getf (v := .int c) (am_nxt_of (i := (20, 3, .getfield 368, (12, 73, 1457), 0)) (by decide +kernel)) ac_o ec ?_
      by_cases hkc : (k : Int32) < c
      · refine am_e_cmpT (am_nxt_of (i := (23, 3, .if_icmp .lt 7, (15, 0, 0), 0)) (by decide +kernel)) (am_c_ltT hkc) (am_tgt_of (by decide +kernel)) ?_
        have kc := ac_lt' hkc
        refine am_e_aload_n (am_nxt_of (i := (30, 1, .aload_n 0, (0, 0, 0), 0)) (by decide +kernel)) (v := 164) rfl ?_
        refine am_e_iconst (w := (-1)) (am_nxt_of (i := (31, 1, .iconst (-1), (0, 0, 0), 0)) (by decide +kernel)) rfl ?_
        refine am_e_iload_n (am_nxt_of (i := (32, 1, .iload_n 1, (0, 0, 0), 0)) (by decide +kernel)) (v := k) rfl ?_
        refine am_e_iconst (w := 0) (am_nxt_of (i := (33, 1, .iconst 0, (0, 0, 0), 0)) (by decide +kernel)) rfl ?_
        refine am_e_iconst (w := 0) (am_nxt_of (i := (34, 1, .iconst 0, (0, 0, 0), 0)) (by decide +kernel)) rfl ?_
        refine am_e_callV (M' := am_m241) (o := 164) (ar := [.int 0, .int 0, .int k, .int (-1)]) (rest := []) (L := lv_args 0 [.ref 164, .int (-1), .int k, .int 0, .int 0]) (am_nxt_of (i := (35, 3, .invokevirtual 520, (241, 1995, 3), 0)) (by decide +kernel)) rfl rfl rfl rfl ac_o rfl rfl rfl ?_
        refine am_Ev_mono (ac_noted hX I1 J1 ec c0 (by omega) (by decide) (by decide) (by omega) (by omega) (fun _ => ⟨by omega, by omega⟩) (by decide) (by decide) (by decide) (by decide)) (fun r ks g2 hq => ?_)
        obtain ⟨rfl, I2, J2, F2, x, rfl⟩ := hq
        have f3 : ab_Fr ac_ntO h g2 := ab_Fr_trans f1 (ab_mdle_Fr (by decide) F2)
        show am_Ek false am_G0 am_m242 21 _ [.int x] _ _ _ _ _
        exact am_e_iret (ty := .int) (am_cur_of (i := (38, 1, .ireturn, (0, 0, 0), 0)) (by decide +kernel)) rfl rfl rfl ⟨rfl, I2, J2, f3, _, rfl⟩
      · refine am_e_cmpF (am_nxt_of (i := (23, 3, .if_icmp .lt 7, (15, 0, 0), 0)) (by decide +kernel)) (am_c_ltF hkc) ?_
        refine am_e_iconst (w := (-1)) (am_nxt_of (i := (26, 1, .iconst (-1), (0, 0, 0), 0)) (by decide +kernel)) rfl ?_
        refine am_e_goto (am_cur_of (i := (27, 3, .goto 11, (21, 0, 0), 0)) (by decide +kernel)) (am_tgt_of (by decide +kernel)) ?_
        exact am_e_iret (ty := .int) (am_cur_of (i := (38, 1, .ireturn, (0, 0, 0), 0)) (by decide +kernel)) rfl rfl rfl ⟨rfl, I1, J1, f1, _, rfl⟩
theorem ac_cheek (hX : ac_XF X) (hN1 : ab_Con ab_tab (ac_JX X) ab_S_isIn_x_1_x) (hN2 : ab_Con ab_tab (ac_JX X) ab_S_isIn_x_0_9999) {h : am_H} (hI : ab_Inv (ab_hi ab_tab) h) (hj : ac_JX X h) {k n f l : Int32} : am_Ek false am_G0 am_m240 0 (lv_args 0 [.ref 164, .int k, .int n, .int f, .int l]) [] am_ks0 h 0 0 (ac_opQ X ac_ntO h) := by
  have z24 : (24 : Int32).toInt = 24 := by decide
  have z0 : (0 : Int32).toInt = 0 := by decide
  have I1 := ac_p2 (v := 0) hI (by decide) (by decide)
  have J1 := ac_JX_fr hX (md := [(164, 3)]) rfl _ (am_up h 164 2 (.int 0)) (ab_Fr_up rfl ab_Fr_refl) hj
  have f1 : ab_Fr ac_ntO h (am_up h 164 2 (.int 0)) := ab_Fr_up rfl ab_Fr_refl
  obtain ⟨c, ec, c0, c24⟩ := ac_g73 I1
  obtain ⟨b, eb, b0, b4⟩ := ac_g12 I1
  refine am_e_aload_n (am_nxt_of (i := (0, 1, .aload_n 0, (0, 0, 0), 0)) (by decide +kernel)) (v := 164) rfl ?_
  refine am_e_iconst (w := 0) (am_nxt_of (i := (1, 1, .iconst 0, (0, 0, 0), 0)) (by decide +kernel)) rfl ?_
  refine am_e_putf (am_nxt_of (i := (2, 3, .putfield 139, (12, 2, 1386), 0)) (by decide +kernel)) ac_o rfl ?_
  refine am_e_aload_n (am_nxt_of (i := (5, 1, .aload_n 0, (0, 0, 0), 0)) (by decide +kernel)) (v := 164) rfl ?_
  refine am_e_getf (v := .int c) (am_nxt_of (i := (6, 3, .getfield 368, (12, 73, 1457), 0)) (by decide +kernel)) ac_o ec ?_
  refine am_e_bipush (w := 24) (am_nxt_of (i := (9, 2, .bipush 24, (0, 0, 0), 0)) (by decide +kernel)) (by decide) ?_
  by_cases hc : (c : Int32) = 24
  · refine am_e_cmpT (am_nxt_of (i := (11, 3, .if_icmp .eq 41, (28, 0, 0), 0)) (by decide +kernel)) (am_c_eqT hc) (am_tgt_of (by decide +kernel)) ?_
    refine am_e_iconst (w := (-1)) (am_nxt_of (i := (52, 1, .iconst (-1), (0, 0, 0), 0)) (by decide +kernel)) rfl ?_
    refine am_e_goto (am_cur_of (i := (53, 3, .goto 20, (40, 0, 0), 0)) (by decide +kernel)) (am_tgt_of (by decide +kernel)) ?_
    exact am_e_iret (ty := .int) (am_cur_of (i := (73, 1, .ireturn, (0, 0, 0), 0)) (by decide +kernel)) rfl rfl rfl ⟨rfl, I1, J1, f1, _, rfl⟩
  · refine am_e_cmpF (am_nxt_of (i := (11, 3, .if_icmp .eq 41, (28, 0, 0), 0)) (by decide +kernel)) (am_c_eqF hc) ?_
    have c23 := ac_ne' hc
    refine am_e_aload_n (am_nxt_of (i := (14, 1, .aload_n 0, (0, 0, 0), 0)) (by decide +kernel)) (v := 164) rfl ?_
    refine am_e_iload_n (am_nxt_of (i := (15, 1, .iload_n 1, (0, 0, 0), 0)) (by decide +kernel)) (v := k) rfl ?_
    refine am_e_callV (M' := am_m185) (o := 164) (ar := [.int k]) (rest := []) (L := lv_args 0 [.ref 164, .int k]) (am_nxt_of (i := (16, 3, .invokevirtual 420, (185, 1770, 3), 0)) (by decide +kernel)) rfl rfl rfl rfl ac_o rfl rfl rfl ?_
    refine am_Ev_mono (ac_isBlower I1 eb) (fun r ks g hq => ?_)
    obtain ⟨rfl, rfl, hr⟩ := hq
    rcases hr with rfl | ⟨rfl, kk, kb⟩
    · show am_Ek false am_G0 am_m240 10 _ [.int 0] _ _ _ _ _
      refine am_e_ifT (am_nxt_of (i := (19, 3, .ifCond .eq 33, (28, 0, 0), 0)) (by decide +kernel)) (am_c_eqT rfl) (am_tgt_of (by decide +kernel)) ?_
      refine am_e_iconst (w := (-1)) (am_nxt_of (i := (52, 1, .iconst (-1), (0, 0, 0), 0)) (by decide +kernel)) rfl ?_
      refine am_e_goto (am_cur_of (i := (53, 3, .goto 20, (40, 0, 0), 0)) (by decide +kernel)) (am_tgt_of (by decide +kernel)) ?_
      exact am_e_iret (ty := .int) (am_cur_of (i := (73, 1, .ireturn, (0, 0, 0), 0)) (by decide +kernel)) rfl rfl rfl ⟨rfl, I1, J1, f1, _, rfl⟩
    · show am_Ek false am_G0 am_m240 10 _ [.int 1] _ _ _ _ _
      refine am_e_ifF (am_nxt_of (i := (19, 3, .ifCond .eq 33, (28, 0, 0), 0)) (by decide +kernel)) (am_c_eqF (by decide)) ?_
      have z2 : (2 : Int32).toInt = 2 := by decide
      have m2 := ab_m7 (k := k) (c := 2) kk (by omega) (by decide) (by decide)
      have x2 := ab_ix (x := (7 : Int32) * k + 2) (n := 56) (by omega) (by omega)
      obtain ⟨v2, ev2, v2_0, v2_1⟩ := ac_r170 I1 (q := ((7 : Int32) * k + 2).toNatClampNeg) (Nat.lt_of_not_le (fun q => x2 (Or.inr q)))
      refine am_e_iload_n (am_nxt_of (i := (22, 1, .iload_n 2, (0, 0, 0), 0)) (by decide +kernel)) (v := n) rfl ?_
      refine am_e_iconst (w := 1) (am_nxt_of (i := (23, 1, .iconst 1, (0, 0, 0), 0)) (by decide +kernel)) rfl ?_
      refine am_e_aload_n (am_nxt_of (i := (24, 1, .aload_n 0, (0, 0, 0), 0)) (by decide +kernel)) (v := 164) rfl ?_
      refine am_e_getf (am_nxt_of (i := (25, 3, .getfield 30, (12, 25, 1409), 0)) (by decide +kernel)) ac_o (ac_f25 I1) ?_
      refine am_e_bipush (w := 7) (am_nxt_of (i := (28, 2, .bipush 7, (0, 0, 0), 0)) (by decide +kernel)) (by decide) ?_
      refine am_e_iload_n (am_nxt_of (i := (30, 1, .iload_n 1, (0, 0, 0), 0)) (by decide +kernel)) (v := k) rfl ?_
      refine am_e_imul (w := 7 * k) (am_nxt_of (i := (31, 1, .imul, (0, 0, 0), 0)) (by decide +kernel)) rfl ?_
      refine am_e_iconst (w := 2) (am_nxt_of (i := (32, 1, .iconst 2, (0, 0, 0), 0)) (by decide +kernel)) rfl ?_
      refine am_e_iadd (w := (7 * k) + 2) (am_nxt_of (i := (33, 1, .iadd, (0, 0, 0), 0)) (by decide +kernel)) rfl ?_
      refine am_e_iaload (v := v2) (am_nxt_of (i := (34, 1, .iaload, (0, 0, 0), 0)) (by decide +kernel)) ac_k170 x2 rfl ev2 ?_
      refine am_e_callS (M' := am_m162) (ar := [.int v2, .int 1, .int n]) (rest := []) (L := lv_args 0 [.int n, .int 1, .int v2]) (am_nxt_of (i := (35, 3, .invokestatic 184, (162, 1681, 3), 0)) (by decide +kernel)) rfl rfl rfl rfl rfl rfl rfl ?_
      refine am_Ev_mono (ac_use hN1 rfl ⟨ab_top_ok _, ab_i_ok (by decide) (by decide), ab_i_ok v2_0 v2_1, trivial⟩ I1 J1 ac_p0) (fun r ks g hq => ?_)
      obtain ⟨rfl, gI, gj, gF, cc, hcc, hg⟩ := hq
      have f2 : ab_Fr ac_ntO h g := ab_Fr_trans f1 (ab_mdle_Fr (by decide) gF)
      have hr : r = some (.int 0) ∨ r = some (.int 1) ∧ 1 ≤ n.toInt ∧ n.toInt ≤ 99 := by
        rcases List.mem_cons.mp hcc with rfl | hcc
        · refine Or.inr ⟨ac_g0 hg.1 (v := 1) (by decide), ?_⟩
          obtain ⟨x, g1, g2⟩ := hg.2.1 _ List.mem_cons_self
          have e : some (Value.int n) = some (.int x) := g1
          cases e
          obtain ⟨x2, e2, x0, x1⟩ := g2
          cases e2
          exact ⟨x0, x1⟩
        · have e := List.mem_singleton.mp hcc
          subst e
          exact Or.inl (ac_g0 hg.1 (v := 0) (by decide))
      rcases hr with rfl | ⟨rfl, n0, n9⟩
      · show am_Ek false am_G0 am_m240 22 _ [.int 0] _ _ _ _ _
        refine am_e_ifT (am_nxt_of (i := (38, 3, .ifCond .eq 14, (28, 0, 0), 0)) (by decide +kernel)) (am_c_eqT rfl) (am_tgt_of (by decide +kernel)) ?_
        refine am_e_iconst (w := (-1)) (am_nxt_of (i := (52, 1, .iconst (-1), (0, 0, 0), 0)) (by decide +kernel)) rfl ?_
        refine am_e_goto (am_cur_of (i := (53, 3, .goto 20, (40, 0, 0), 0)) (by decide +kernel)) (am_tgt_of (by decide +kernel)) ?_
        exact am_e_iret (ty := .int) (am_cur_of (i := (73, 1, .ireturn, (0, 0, 0), 0)) (by decide +kernel)) rfl rfl rfl ⟨rfl, gI, gj, f2, _, rfl⟩
      · show am_Ek false am_G0 am_m240 22 _ [.int 1] _ _ _ _ _
        refine am_e_ifF (am_nxt_of (i := (38, 3, .ifCond .eq 14, (28, 0, 0), 0)) (by decide +kernel)) (am_c_eqF (by decide)) ?_
        refine am_e_iload_n (am_nxt_of (i := (41, 1, .iload_n 3, (0, 0, 0), 0)) (by decide +kernel)) (v := f) rfl ?_
        refine am_e_iconst (w := 0) (am_nxt_of (i := (42, 1, .iconst 0, (0, 0, 0), 0)) (by decide +kernel)) rfl ?_
        refine am_e_sipush (w := 9999) (am_nxt_of (i := (43, 3, .sipush 9999, (0, 0, 0), 0)) (by decide +kernel)) (by decide) ?_
        refine am_e_callS (M' := am_m162) (ar := [.int 9999, .int 0, .int f]) (rest := []) (L := lv_args 0 [.int f, .int 0, .int 9999]) (am_nxt_of (i := (46, 3, .invokestatic 184, (162, 1681, 3), 0)) (by decide +kernel)) rfl rfl rfl rfl rfl rfl rfl ?_
        refine am_Ev_mono (ac_use hN2 rfl ⟨ab_top_ok _, ab_i_ok (by decide) (by decide), ab_i_ok (by decide) (by decide), trivial⟩ gI gj ac_p0) (fun r ks g3 hq => ?_)
        obtain ⟨rfl, I3, J3, F3, c3, hc3, hg3⟩ := hq
        have f4 : ab_Fr ac_ntO h g3 := ab_Fr_trans f2 (ab_mdle_Fr (by decide) F3)
        have ec3 : g3 164 73 = .int c := (F3 164 73 rfl).trans ((gF 164 73 rfl).trans ec)
        have hr : r = some (.int 0) ∨ r = some (.int 1) ∧ 0 ≤ f.toInt ∧ f.toInt ≤ 9999 := by
          rcases List.mem_cons.mp hc3 with rfl | hc3
          · refine Or.inr ⟨ac_g0 hg3.1 (v := 1) (by decide), ?_⟩
            obtain ⟨x, g1, g2⟩ := hg3.2.1 _ List.mem_cons_self
            have e : some (Value.int f) = some (.int x) := g1
            cases e
            obtain ⟨x2, e2, x0, x1⟩ := g2
            cases e2
            exact ⟨x0, x1⟩
          · have e := List.mem_singleton.mp hc3
            subst e
            exact Or.inl (ac_g0 hg3.1 (v := 0) (by decide))
        rcases hr with rfl | ⟨rfl, f0, f9⟩
        · show am_Ek false am_G0 am_m240 27 _ [.int 0] _ _ _ _ _
          refine am_e_ifF (am_nxt_of (i := (49, 3, .ifCond .ne 7, (30, 0, 0), 0)) (by decide +kernel)) (am_c_neF rfl) ?_
          refine am_e_iconst (w := (-1)) (am_nxt_of (i := (52, 1, .iconst (-1), (0, 0, 0), 0)) (by decide +kernel)) rfl ?_
          refine am_e_goto (am_cur_of (i := (53, 3, .goto 20, (40, 0, 0), 0)) (by decide +kernel)) (am_tgt_of (by decide +kernel)) ?_
          exact am_e_iret (ty := .int) (am_cur_of (i := (73, 1, .ireturn, (0, 0, 0), 0)) (by decide +kernel)) rfl rfl rfl ⟨rfl, I3, J3, f4, _, rfl⟩
        · show am_Ek false am_G0 am_m240 27 _ [.int 1] _ _ _ _ _
          refine am_e_ifT (am_nxt_of (i := (49, 3, .ifCond .ne 7, (30, 0, 0), 0)) (by decide +kernel)) (am_c_neT (by decide)) (am_tgt_of (by decide +kernel)) ?_
          refine am_e_aload_n (am_nxt_of (i := (56, 1, .aload_n 0, (0, 0, 0), 0)) (by decide +kernel)) (v := 164) rfl ?_
          refine am_e_iload_n (am_nxt_of (i := (57, 1, .iload_n 1, (0, 0, 0), 0)) (by decide +kernel)) (v := k) rfl ?_
          refine am_e_iload_n (am_nxt_of (i := (58, 1, .iload_n 2, (0, 0, 0), 0)) (by decide +kernel)) (v := n) rfl ?_
          refine am_e_iload_n (am_nxt_of (i := (59, 1, .iload_n 3, (0, 0, 0), 0)) (by decide +kernel)) (v := f) rfl ?_
          refine am_e_iload (am_nxt_of (i := (60, 2, .iload 4, (0, 0, 0), 0)) (by decide +kernel)) (v := l) rfl ?_
          by_cases hl : (l : Int32) = 0
          · refine am_e_ifT (am_nxt_of (i := (62, 3, .ifCond .eq 7, (38, 0, 0), 0)) (by decide +kernel)) (am_c_eqT hl) (am_tgt_of (by decide +kernel)) ?_
            refine am_e_iconst (w := 0) (am_nxt_of (i := (69, 1, .iconst 0, (0, 0, 0), 0)) (by decide +kernel)) rfl ?_
            refine am_e_callV (M' := am_m241) (o := 164) (ar := [.int 0, .int f, .int n, .int k]) (rest := []) (L := lv_args 0 [.ref 164, .int k, .int n, .int f, .int 0]) (am_nxt_of (i := (70, 3, .invokevirtual 520, (241, 1995, 3), 0)) (by decide +kernel)) rfl rfl rfl rfl ac_o rfl rfl rfl ?_
            refine am_Ev_mono (ac_noted hX I3 J3 ec3 c0 (by omega) (by omega) (by omega) (by omega) n9 (fun q => by omega) f0 f9 (by decide) (by decide)) (fun r ks g2 hq => ?_)
            obtain ⟨rfl, I2, J2, F2, x, rfl⟩ := hq
            have f3 : ab_Fr ac_ntO h g2 := ab_Fr_trans f4 (ab_mdle_Fr (by decide) F2)
            show am_Ek false am_G0 am_m240 40 _ [.int x] _ _ _ _ _
            exact am_e_iret (ty := .int) (am_cur_of (i := (73, 1, .ireturn, (0, 0, 0), 0)) (by decide +kernel)) rfl rfl rfl ⟨rfl, I2, J2, f3, _, rfl⟩
          · refine am_e_ifF (am_nxt_of (i := (62, 3, .ifCond .eq 7, (38, 0, 0), 0)) (by decide +kernel)) (am_c_eqF hl) ?_
            refine am_e_iconst (w := 1) (am_nxt_of (i := (65, 1, .iconst 1, (0, 0, 0), 0)) (by decide +kernel)) rfl ?_
            refine am_e_goto (am_cur_of (i := (66, 3, .goto 4, (39, 0, 0), 0)) (by decide +kernel)) (am_tgt_of (by decide +kernel)) ?_
            refine am_e_callV (M' := am_m241) (o := 164) (ar := [.int 1, .int f, .int n, .int k]) (rest := []) (L := lv_args 0 [.ref 164, .int k, .int n, .int f, .int 1]) (am_nxt_of (i := (70, 3, .invokevirtual 520, (241, 1995, 3), 0)) (by decide +kernel)) rfl rfl rfl rfl ac_o rfl rfl rfl ?_
            refine am_Ev_mono (ac_noted hX I3 J3 ec3 c0 (by omega) (by omega) (by omega) (by omega) n9 (fun q => by omega) f0 f9 (by decide) (by decide)) (fun r ks g2 hq => ?_)
            obtain ⟨rfl, I2, J2, F2, x, rfl⟩ := hq
            have f3 : ab_Fr ac_ntO h g2 := ab_Fr_trans f4 (ab_mdle_Fr (by decide) F2)
            show am_Ek false am_G0 am_m240 40 _ [.int x] _ _ _ _ _
            exact am_e_iret (ty := .int) (am_cur_of (i := (73, 1, .ireturn, (0, 0, 0), 0)) (by decide +kernel)) rfl rfl rfl ⟨rfl, I2, J2, f3, _, rfl⟩
end ACO
