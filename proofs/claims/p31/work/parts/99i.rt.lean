/-! ===== THE MODEL'S nextBy, ruleTime, ever, rule, fairest (wip/s/gen99i.py) ===== -/
theorem ac_rem {x y : Int32} (hx : 0 ≤ x.toInt) (hy : 1 ≤ y.toInt) : 0 ≤ (x - x / y * y).toInt ∧ (x - x / y * y).toInt < y.toInt := by
  have e1 : (x - x / y * y).toInt = (x.toInt - x.toInt.tdiv y.toInt * y.toInt).bmod (2 ^ 32) := by
    rw [Int32.toInt_sub, Int32.toInt_mul, Int32.toInt_div, Int.sub_bmod_bmod]
    rw [← Int.sub_bmod_bmod, Int.bmod_mul_bmod, Int.sub_bmod_bmod]
  have e2 : x.toInt - x.toInt.tdiv y.toInt * y.toInt = x.toInt.tmod y.toInt := by
    rw [Int.tmod_def, Int.mul_comm]
  have e3 : x.toInt.tmod y.toInt = x.toInt % y.toInt := Int.tmod_eq_emod_of_nonneg hx
  have h1 := Int.emod_nonneg x.toInt (show y.toInt ≠ 0 by omega)
  have h2 := Int.emod_lt_of_pos x.toInt (show 0 < y.toInt by omega)
  have hb := ab_32 y
  rw [e1, e2, e3, ab_bm (by omega) (by omega)]
  exact ⟨h1, h2⟩
abbrev ac_gM : List (Nat × Nat) := [(164, 50), (164, 65), (164, 66), (186, 1), (186, 2), (186, 3), (186, 4), (186, 5), (186, 6), (187, 0), (188, 0), (189, 2), (190, 0), (191, 0), (192, 0), (193, 0)]
/-- the contracts that breaths rest on -/
def ac_SC (J : am_H → Prop) : Prop := ab_Con ab_tab J ab_S_fullNext_x_x_x ∧ ab_Con ab_tab J ab_S_handsOver_x_x ∧ ab_Con ab_tab J ab_S_isDizzy_x_x ∧ ab_Con ab_tab J ab_S_rests_x_x ∧ ab_Con ab_tab J ab_S_fills_x_x ∧ ab_Con ab_tab J ab_S_breathOf_x_x
section ACJ
variable {X : am_H → Prop}
theorem ac_BrC (hX : ac_XF X) (hS : ac_SC (ac_JX X)) : ab_BrC (ac_JX X) ac_gM ab_S_fullNext_x_x_x ab_S_handsOver_x_x ab_S_isDizzy_x_x ab_S_rests_x_x ab_S_fills_x_x := by
  obtain ⟨c1, c2, c3, c4, c5, -⟩ := hS
  exact ⟨⟨c1, rfl, rfl, by decide, by decide⟩, by decide, ac_JX_fr hX rfl, ⟨c2, rfl, by decide, by decide, by decide⟩, ⟨c3, rfl, by decide, by decide, by decide⟩, ⟨c4, rfl, by decide, by decide, by decide⟩, ⟨c5, rfl, by decide, by decide, by decide⟩⟩
theorem ac_c13 {k : Int32} (k0 : 0 ≤ k.toInt) (k3 : k.toInt ≤ 3) {a b : Int} (ha : a ≤ 1) (hb : 1 ≤ b) : ab_gAs [ab_rf [164], ab_i a b, ab_i 0 3] [.ref 164, .int 1, .int k] := ⟨⟨164, rfl, List.mem_singleton.mpr rfl⟩, ab_i_ok (by rw [show (1 : Int32).toInt = 1 by decide]; exact ha) (by rw [show (1 : Int32).toInt = 1 by decide]; exact hb), ab_i_ok k0 k3, trivial⟩
abbrev ac_nbQ (X : am_H → Prop) (n : Int32) (h0 : am_H) : Option Value → List am_k → am_H → Prop := fun r ks h' => ks = am_ks0 ∧ ab_Inv (ab_hi ab_tab) h' ∧ ac_JX X h' ∧ ab_Fr [(191, 0)] h0 h' ∧ ∃ x : Int32, r = some (.int x) ∧ -1 ≤ x.toInt ∧ x.toInt < n.toInt
theorem ac_nb_A (hS : ac_SC (ac_JX X)) {h0 : am_H} {n : Int32} (en0 : h0 164 12 = .int n) (n1 : 1 ≤ n.toInt) (n4 : n.toInt ≤ 4) {by_ had : Int32} : ∀ (d : Nat) (k be : Int32) (h : am_H), k.toInt + d = n.toInt → 0 ≤ k.toInt → -1 ≤ be.toInt → be.toInt < n.toInt → ab_Inv (ab_hi ab_tab) h → ac_JX X h → ab_Fr [(191, 0)] h0 h → am_Ek false am_G0 am_m238 7 [(0, .ref 164), (1, .int by_), (2, .int had), (3, .int be), (4, .int k)] [] am_ks0 h 0 0 (ac_nbQ X n h0) := by
  obtain ⟨-, -, cdz, -, -, cbr⟩ := hS
  have z3 : (3 : Int32).toInt = 3 := by decide
  have z0 : (0 : Int32).toInt = 0 := by decide
  intro d
  induction d with
  | zero =>
    intro k be h hd k0 b0 bn hI hj hF
    have en : h 164 12 = .int n := (hF 164 12 rfl).trans en0
    refine am_e_iload (am_nxt_of (i := (10, 2, .iload 4, (0, 0, 0), 0)) (by decide +kernel)) (v := k) rfl ?_
    refine am_e_aload_n (am_nxt_of (i := (12, 1, .aload_n 0, (0, 0, 0), 0)) (by decide +kernel)) (v := 164) rfl ?_
    refine am_e_getf (v := .int n) (am_nxt_of (i := (13, 3, .getfield 219, (12, 12, 1396), 0)) (by decide +kernel)) ac_o en ?_
    refine am_e_cmpT (am_nxt_of (i := (16, 3, .if_icmp .ge 102, (66, 0, 0), 0)) (by decide +kernel)) (am_c_geT (ac_nlt (by omega))) (am_tgt_of (by decide +kernel)) ?_
    refine am_e_iload_n (am_nxt_of (i := (118, 1, .iload_n 3, (0, 0, 0), 0)) (by decide +kernel)) (v := be) rfl ?_
    exact am_e_iret (ty := .int) (am_cur_of (i := (119, 1, .ireturn, (0, 0, 0), 0)) (by decide +kernel)) rfl rfl rfl ⟨rfl, hI, hj, hF, _, rfl, b0, bn⟩
  | succ d ih =>
    intro k be h hd k0 b0 bn hI hj hF
    have en : h 164 12 = .int n := (hF 164 12 rfl).trans en0
    refine am_e_iload (am_nxt_of (i := (10, 2, .iload 4, (0, 0, 0), 0)) (by decide +kernel)) (v := k) rfl ?_
    refine am_e_aload_n (am_nxt_of (i := (12, 1, .aload_n 0, (0, 0, 0), 0)) (by decide +kernel)) (v := 164) rfl ?_
    refine am_e_getf (v := .int n) (am_nxt_of (i := (13, 3, .getfield 219, (12, 12, 1396), 0)) (by decide +kernel)) ac_o en ?_
    refine am_e_cmpF (am_nxt_of (i := (16, 3, .if_icmp .ge 102, (66, 0, 0), 0)) (by decide +kernel)) (am_c_geF (ac_lt (by omega))) ?_
    have hnx : ∀ (g : am_H) (b' : Int32), ab_Inv (ab_hi ab_tab) g → ac_JX X g → ab_Fr [(191, 0)] h0 g → -1 ≤ b'.toInt → b'.toInt < n.toInt → am_Ek false am_G0 am_m238 64 [(0, .ref 164), (1, .int by_), (2, .int had), (3, .int b'), (4, .int k)] [] am_ks0 g 0 0 (ac_nbQ X n h0) := by
      intro g b' gI gj gF b0' bn'
      have e1 := ab_inc1 k0 (by omega)
      refine am_e_iinc (w := k + Int32.ofInt 1) (ls' := [(4, .int (k + Int32.ofInt 1)), (0, .ref 164), (1, .int by_), (2, .int had), (3, .int b')]) (am_nxt_of (i := (112, 3, .iinc 4 1, (0, 0, 0), 0)) (by decide +kernel)) (v := k) rfl (by decide +kernel) rfl rfl ?_
      refine am_e_goto (am_cur_of (i := (115, 3, .goto (-105), (7, 0, 0), 0)) (by decide +kernel)) (am_tgt_of (by decide +kernel)) ?_
      refine am_Ek_ls (ls' := [(0, .ref 164), (1, .int by_), (2, .int had), (3, .int b'), (4, .int (k + Int32.ofInt 1))]) ⟨rfl, rfl, rfl, rfl, rfl, trivial⟩ ?_
      exact ih _ _ _ (by omega) (by omega) b0' bn' gI gj gF
    refine am_e_aload_n (am_nxt_of (i := (19, 1, .aload_n 0, (0, 0, 0), 0)) (by decide +kernel)) (v := 164) rfl ?_
    refine am_e_iconst (w := 1) (am_nxt_of (i := (20, 1, .iconst 1, (0, 0, 0), 0)) (by decide +kernel)) rfl ?_
    refine am_e_iload (am_nxt_of (i := (21, 2, .iload 4, (0, 0, 0), 0)) (by decide +kernel)) (v := k) rfl ?_
    refine am_e_callV (M' := am_m203) (o := 164) (ar := [.int k, .int 1]) (rest := []) (L := lv_args 0 [.ref 164, .int 1, .int k]) (am_nxt_of (i := (23, 3, .invokevirtual 438, (203, 1843, 3), 0)) (by decide +kernel)) rfl rfl rfl rfl ac_o rfl rfl rfl ?_
    refine am_Ev_mono (ac_use cdz rfl (ac_c13 k0 (by omega) (by decide) (by decide)) hI hj ac_p0) (fun r ks h1 hq => ?_)
    obtain ⟨rfl, I1, J1, f1, c', hc, hg⟩ := hq
    have hr := ac_01 (s := ab_S_isDizzy_x_x) rfl hc hg.1
    have F1 := ab_Fr_trans hF f1
    rcases hr with rfl | rfl
    · show am_Ek false am_G0 am_m238 15 _ [.int 0] _ _ _ _ _
      refine am_e_ifT (am_nxt_of (i := (26, 3, .ifCond .eq 6, (17, 0, 0), 0)) (by decide +kernel)) (am_c_eqT rfl) (am_tgt_of (by decide +kernel)) ?_
      refine am_e_iload_n (am_nxt_of (i := (32, 1, .iload_n 3, (0, 0, 0), 0)) (by decide +kernel)) (v := be) rfl ?_
      by_cases hbe : (be : Int32) < 0
      · refine am_e_ifF (am_nxt_of (i := (33, 3, .ifCond .ge 9, (22, 0, 0), 0)) (by decide +kernel)) (am_c_geF hbe) ?_
        refine am_e_iload (am_nxt_of (i := (36, 2, .iload 4, (0, 0, 0), 0)) (by decide +kernel)) (v := k) rfl ?_
        refine am_e_istore_n (ls' := [(3, .int k), (0, .ref 164), (1, .int by_), (2, .int had), (4, .int k)]) (am_nxt_of (i := (38, 1, .istore_n 3, (0, 0, 0), 0)) (by decide +kernel)) (by decide +kernel) rfl ?_
        refine am_e_goto (am_cur_of (i := (39, 3, .goto 73, (64, 0, 0), 0)) (by decide +kernel)) (am_tgt_of (by decide +kernel)) ?_
        refine am_Ek_ls (ls' := [(0, .ref 164), (1, .int by_), (2, .int had), (3, .int k), (4, .int k)]) ⟨rfl, rfl, rfl, rfl, rfl, trivial⟩ ?_
        exact hnx _ _ I1 J1 F1 (by omega) (by omega)
      · refine am_e_ifT (am_nxt_of (i := (33, 3, .ifCond .ge 9, (22, 0, 0), 0)) (by decide +kernel)) (am_c_geT hbe) (am_tgt_of (by decide +kernel)) ?_
        have be0 := ac_nlt' hbe
        have e7b := ab_m7 (k := be) (c := 3) be0 (by omega) (by decide) (by decide)
        have e7k := ab_m7 (k := k) (c := 3) k0 (by omega) (by decide) (by decide)
        have hxb := ab_ix (x := (7 : Int32) * be + 3) (n := 56) (by omega) (by omega)
        have hxk := ab_ix (x := (7 : Int32) * k + 3) (n := 56) (by omega) (by omega)
        refine am_e_aload_n (am_nxt_of (i := (42, 1, .aload_n 0, (0, 0, 0), 0)) (by decide +kernel)) (v := 164) rfl ?_
        refine am_e_iconst (w := 1) (am_nxt_of (i := (43, 1, .iconst 1, (0, 0, 0), 0)) (by decide +kernel)) rfl ?_
        refine am_e_iload (am_nxt_of (i := (44, 2, .iload 4, (0, 0, 0), 0)) (by decide +kernel)) (v := k) rfl ?_
        refine am_e_callV (M' := am_m206) (o := 164) (ar := [.int k, .int 1]) (rest := []) (L := lv_args 0 [.ref 164, .int 1, .int k]) (am_nxt_of (i := (46, 3, .invokevirtual 417, (206, 1855, 3), 0)) (by decide +kernel)) rfl rfl rfl rfl ac_o rfl rfl rfl ?_
        refine am_Ev_mono (ac_use cbr rfl (ac_c13 k0 (by omega) (by decide) (by decide)) I1 J1 ac_p0) (fun r ks h2 hq => ?_)
        obtain ⟨rfl, I2, J2, f2, c2, hc2, hg2⟩ := hq
        obtain ⟨x, rfl⟩ := ab_intC_ok (s := ab_S_breathOf_x_x) rfl ⟨c2, hc2, hg2.1⟩
        have F2 := ab_Fr_trans F1 (ab_mdle_Fr (md' := [(191, 0)]) (by decide) f2)
        obtain ⟨v, ev, -⟩ := ac_r170 I2 (q := ((7 : Int32) * be + 3).toNatClampNeg) (Nat.lt_of_not_le (fun q => hxb (Or.inr q)))
        show am_Ek false am_G0 am_m238 26 _ [.int x] _ _ _ _ _
        refine am_e_aload_n (am_nxt_of (i := (49, 1, .aload_n 0, (0, 0, 0), 0)) (by decide +kernel)) (v := 164) rfl ?_
        refine am_e_getf (am_nxt_of (i := (50, 3, .getfield 30, (12, 25, 1409), 0)) (by decide +kernel)) ac_o (ac_f25 I2) ?_
        refine am_e_bipush (w := 7) (am_nxt_of (i := (53, 2, .bipush 7, (0, 0, 0), 0)) (by decide +kernel)) (by decide) ?_
        refine am_e_iload_n (am_nxt_of (i := (55, 1, .iload_n 3, (0, 0, 0), 0)) (by decide +kernel)) (v := be) rfl ?_
        refine am_e_imul (w := 7 * be) (am_nxt_of (i := (56, 1, .imul, (0, 0, 0), 0)) (by decide +kernel)) rfl ?_
        refine am_e_iconst (w := 3) (am_nxt_of (i := (57, 1, .iconst 3, (0, 0, 0), 0)) (by decide +kernel)) rfl ?_
        refine am_e_iadd (w := (7 * be) + 3) (am_nxt_of (i := (58, 1, .iadd, (0, 0, 0), 0)) (by decide +kernel)) rfl ?_
        refine am_e_iaload (v := v) (am_nxt_of (i := (59, 1, .iaload, (0, 0, 0), 0)) (by decide +kernel)) ac_k170 hxb rfl ev ?_
        refine am_e_imul (w := x * v) (am_nxt_of (i := (60, 1, .imul, (0, 0, 0), 0)) (by decide +kernel)) rfl ?_
        refine am_e_istore (ls' := [(5, .int (x * v)), (0, .ref 164), (1, .int by_), (2, .int had), (3, .int be), (4, .int k)]) (am_nxt_of (i := (61, 2, .istore 5, (0, 0, 0), 0)) (by decide +kernel)) (by decide +kernel) rfl ?_
        refine am_e_aload_n (am_nxt_of (i := (63, 1, .aload_n 0, (0, 0, 0), 0)) (by decide +kernel)) (v := 164) rfl ?_
        refine am_e_iconst (w := 1) (am_nxt_of (i := (64, 1, .iconst 1, (0, 0, 0), 0)) (by decide +kernel)) rfl ?_
        refine am_e_iload_n (am_nxt_of (i := (65, 1, .iload_n 3, (0, 0, 0), 0)) (by decide +kernel)) (v := be) rfl ?_
        refine am_e_callV (M' := am_m206) (o := 164) (ar := [.int be, .int 1]) (rest := []) (L := lv_args 0 [.ref 164, .int 1, .int be]) (am_nxt_of (i := (66, 3, .invokevirtual 417, (206, 1855, 3), 0)) (by decide +kernel)) rfl rfl rfl rfl ac_o rfl rfl rfl ?_
        refine am_Ev_mono (ac_use cbr rfl (ac_c13 be0 (by omega) (by decide) (by decide)) I2 J2 ac_p0) (fun r ks h3 hq => ?_)
        obtain ⟨rfl, I3, J3, f3, c3, hc3, hg3⟩ := hq
        obtain ⟨x2, rfl⟩ := ab_intC_ok (s := ab_S_breathOf_x_x) rfl ⟨c3, hc3, hg3.1⟩
        have F3 := ab_Fr_trans F2 (ab_mdle_Fr (md' := [(191, 0)]) (by decide) f3)
        obtain ⟨v2, ev2, -⟩ := ac_r170 I3 (q := ((7 : Int32) * k + 3).toNatClampNeg) (Nat.lt_of_not_le (fun q => hxk (Or.inr q)))
        obtain ⟨bl, ebl, -⟩ := ac_r190 I3 (q := 1) (by decide)
        show am_Ek false am_G0 am_m238 40 _ [.int x2] _ _ _ _ _
        refine am_e_aload_n (am_nxt_of (i := (69, 1, .aload_n 0, (0, 0, 0), 0)) (by decide +kernel)) (v := 164) rfl ?_
        refine am_e_getf (am_nxt_of (i := (70, 3, .getfield 30, (12, 25, 1409), 0)) (by decide +kernel)) ac_o (ac_f25 I3) ?_
        refine am_e_bipush (w := 7) (am_nxt_of (i := (73, 2, .bipush 7, (0, 0, 0), 0)) (by decide +kernel)) (by decide) ?_
        refine am_e_iload (am_nxt_of (i := (75, 2, .iload 4, (0, 0, 0), 0)) (by decide +kernel)) (v := k) rfl ?_
        refine am_e_imul (w := 7 * k) (am_nxt_of (i := (77, 1, .imul, (0, 0, 0), 0)) (by decide +kernel)) rfl ?_
        refine am_e_iconst (w := 3) (am_nxt_of (i := (78, 1, .iconst 3, (0, 0, 0), 0)) (by decide +kernel)) rfl ?_
        refine am_e_iadd (w := (7 * k) + 3) (am_nxt_of (i := (79, 1, .iadd, (0, 0, 0), 0)) (by decide +kernel)) rfl ?_
        refine am_e_iaload (v := v2) (am_nxt_of (i := (80, 1, .iaload, (0, 0, 0), 0)) (by decide +kernel)) ac_k170 hxk rfl ev2 ?_
        refine am_e_imul (w := x2 * v2) (am_nxt_of (i := (81, 1, .imul, (0, 0, 0), 0)) (by decide +kernel)) rfl ?_
        refine am_e_istore (ls' := [(6, .int (x2 * v2)), (5, .int (x * v)), (0, .ref 164), (1, .int by_), (2, .int had), (3, .int be), (4, .int k)]) (am_nxt_of (i := (82, 2, .istore 6, (0, 0, 0), 0)) (by decide +kernel)) (by decide +kernel) rfl ?_
        refine am_e_iload (am_nxt_of (i := (84, 2, .iload 5, (0, 0, 0), 0)) (by decide +kernel)) (v := x * v) rfl ?_
        refine am_e_iload (am_nxt_of (i := (86, 2, .iload 6, (0, 0, 0), 0)) (by decide +kernel)) (v := x2 * v2) rfl ?_
        by_cases hgt : (x2 * v2 : Int32) < (x * v)
        · refine am_e_cmpT (am_nxt_of (i := (88, 3, .if_icmp .gt 21, (62, 0, 0), 0)) (by decide +kernel)) (am_c_gtT hgt) (am_tgt_of (by decide +kernel)) ?_
          refine am_e_iload (am_nxt_of (i := (109, 2, .iload 4, (0, 0, 0), 0)) (by decide +kernel)) (v := k) rfl ?_
          refine am_e_istore_n (ls' := [(3, .int k), (6, .int (x2 * v2)), (5, .int (x * v)), (0, .ref 164), (1, .int by_), (2, .int had), (4, .int k)]) (am_nxt_of (i := (111, 1, .istore_n 3, (0, 0, 0), 0)) (by decide +kernel)) (by decide +kernel) rfl ?_
          refine am_Ek_ls (ls' := [(0, .ref 164), (1, .int by_), (2, .int had), (3, .int k), (4, .int k)]) ⟨rfl, rfl, rfl, rfl, rfl, trivial⟩ ?_
          exact hnx _ _ I3 J3 F3 (by omega) (by omega)
        · refine am_e_cmpF (am_nxt_of (i := (88, 3, .if_icmp .gt 21, (62, 0, 0), 0)) (by decide +kernel)) (am_c_gtF hgt) ?_
          refine am_e_iload (am_nxt_of (i := (91, 2, .iload 5, (0, 0, 0), 0)) (by decide +kernel)) (v := x * v) rfl ?_
          refine am_e_iload (am_nxt_of (i := (93, 2, .iload 6, (0, 0, 0), 0)) (by decide +kernel)) (v := x2 * v2) rfl ?_
          by_cases heq : (x * v : Int32) = (x2 * v2)
          · refine am_e_cmpF (am_nxt_of (i := (95, 3, .if_icmp .ne 17, (64, 0, 0), 0)) (by decide +kernel)) (am_c_neF heq) ?_
            refine am_e_aload_n (am_nxt_of (i := (98, 1, .aload_n 0, (0, 0, 0), 0)) (by decide +kernel)) (v := 164) rfl ?_
            refine am_e_getf (am_nxt_of (i := (99, 3, .getfield 91, (12, 52, 1436), 0)) (by decide +kernel)) ac_o (ac_f52 I3) ?_
            refine am_e_iconst (w := 1) (am_nxt_of (i := (102, 1, .iconst 1, (0, 0, 0), 0)) (by decide +kernel)) rfl ?_
            refine am_e_iaload (v := bl) (q := 1) (am_nxt_of (i := (103, 1, .iaload, (0, 0, 0), 0)) (by decide +kernel)) ac_k190 (by decide) (by decide) ebl ?_
            refine am_e_iload (am_nxt_of (i := (104, 2, .iload 4, (0, 0, 0), 0)) (by decide +kernel)) (v := k) rfl ?_
            by_cases hbl : (bl : Int32) = k
            · refine am_e_cmpF (am_nxt_of (i := (106, 3, .if_icmp .ne 6, (64, 0, 0), 0)) (by decide +kernel)) (am_c_neF hbl) ?_
              refine am_e_iload (am_nxt_of (i := (109, 2, .iload 4, (0, 0, 0), 0)) (by decide +kernel)) (v := k) rfl ?_
              refine am_e_istore_n (ls' := [(3, .int k), (6, .int (x2 * v2)), (5, .int (x * v)), (0, .ref 164), (1, .int by_), (2, .int had), (4, .int k)]) (am_nxt_of (i := (111, 1, .istore_n 3, (0, 0, 0), 0)) (by decide +kernel)) (by decide +kernel) rfl ?_
              refine am_Ek_ls (ls' := [(0, .ref 164), (1, .int by_), (2, .int had), (3, .int k), (4, .int k)]) ⟨rfl, rfl, rfl, rfl, rfl, trivial⟩ ?_
              exact hnx _ _ I3 J3 F3 (by omega) (by omega)
            · refine am_e_cmpT (am_nxt_of (i := (106, 3, .if_icmp .ne 6, (64, 0, 0), 0)) (by decide +kernel)) (am_c_neT hbl) (am_tgt_of (by decide +kernel)) ?_
              refine am_Ek_ls (ls' := [(0, .ref 164), (1, .int by_), (2, .int had), (3, .int be), (4, .int k)]) ⟨rfl, rfl, rfl, rfl, rfl, trivial⟩ ?_
              exact hnx _ _ I3 J3 F3 (by omega) (by omega)
          · refine am_e_cmpT (am_nxt_of (i := (95, 3, .if_icmp .ne 17, (64, 0, 0), 0)) (by decide +kernel)) (am_c_neT heq) (am_tgt_of (by decide +kernel)) ?_
            refine am_Ek_ls (ls' := [(0, .ref 164), (1, .int by_), (2, .int had), (3, .int be), (4, .int k)]) ⟨rfl, rfl, rfl, rfl, rfl, trivial⟩ ?_
            exact hnx _ _ I3 J3 F3 (by omega) (by omega)
    · show am_Ek false am_G0 am_m238 15 _ [.int 1] _ _ _ _ _
      refine am_e_ifF (am_nxt_of (i := (26, 3, .ifCond .eq 6, (17, 0, 0), 0)) (by decide +kernel)) (am_c_eqF (by decide)) ?_
      refine am_e_goto (am_cur_of (i := (29, 3, .goto 83, (64, 0, 0), 0)) (by decide +kernel)) (am_tgt_of (by decide +kernel)) ?_
      refine am_Ek_ls (ls' := [(0, .ref 164), (1, .int by_), (2, .int had), (3, .int be), (4, .int k)]) ⟨rfl, rfl, rfl, rfl, rfl, trivial⟩ ?_
      exact hnx _ _ I1 J1 F1 b0 bn
theorem ac_nb_B (hS : ac_SC (ac_JX X)) {h0 : am_H} {n : Int32} (en0 : h0 164 12 = .int n) (n1 : 1 ≤ n.toInt) (n4 : n.toInt ≤ 4) {by_ had : Int32} {f : Int32} (f0 : 0 ≤ f.toInt) (f3 : f.toInt ≤ 4) : ∀ (d : Nat) (i : Int32) (h : am_H), i.toInt + d = n.toInt → 0 ≤ i.toInt → ab_Inv (ab_hi ab_tab) h → ac_JX X h → ab_Fr [(191, 0)] h0 h → am_Ek false am_G0 am_m238 86 [(0, .ref 164), (1, .int by_), (2, .int had), (3, .int f), (4, .int i)] [] am_ks0 h 0 0 (ac_nbQ X n h0) := by
  obtain ⟨-, -, cdz, -, -, cbr⟩ := hS
  intro d
  induction d with
  | zero =>
    intro i h hd i0 hI hj hF
    have en : h 164 12 = .int n := (hF 164 12 rfl).trans en0
    refine am_e_iload (am_nxt_of (i := (149, 2, .iload 4, (0, 0, 0), 0)) (by decide +kernel)) (v := i) rfl ?_
    refine am_e_aload_n (am_nxt_of (i := (151, 1, .aload_n 0, (0, 0, 0), 0)) (by decide +kernel)) (v := 164) rfl ?_
    refine am_e_getf (v := .int n) (am_nxt_of (i := (152, 3, .getfield 219, (12, 12, 1396), 0)) (by decide +kernel)) ac_o en ?_
    refine am_e_cmpT (am_nxt_of (i := (155, 3, .if_icmp .ge 33, (106, 0, 0), 0)) (by decide +kernel)) (am_c_geT (ac_nlt (by omega))) (am_tgt_of (by decide +kernel)) ?_
    refine am_e_iconst (w := (-1)) (am_nxt_of (i := (188, 1, .iconst (-1), (0, 0, 0), 0)) (by decide +kernel)) rfl ?_
    exact am_e_iret (ty := .int) (am_cur_of (i := (189, 1, .ireturn, (0, 0, 0), 0)) (by decide +kernel)) rfl rfl rfl ⟨rfl, hI, hj, hF, _, rfl, by decide, by rw [show (-1 : Int32).toInt = -1 by decide]; omega⟩
  | succ d ih =>
    intro i h hd i0 hI hj hF
    have en : h 164 12 = .int n := (hF 164 12 rfl).trans en0
    refine am_e_iload (am_nxt_of (i := (149, 2, .iload 4, (0, 0, 0), 0)) (by decide +kernel)) (v := i) rfl ?_
    refine am_e_aload_n (am_nxt_of (i := (151, 1, .aload_n 0, (0, 0, 0), 0)) (by decide +kernel)) (v := 164) rfl ?_
    refine am_e_getf (v := .int n) (am_nxt_of (i := (152, 3, .getfield 219, (12, 12, 1396), 0)) (by decide +kernel)) ac_o en ?_
    refine am_e_cmpF (am_nxt_of (i := (155, 3, .if_icmp .ge 33, (106, 0, 0), 0)) (by decide +kernel)) (am_c_geF (ac_lt (by omega))) ?_
    have ea := ab_iadd (x := f) (y := i) (by omega) (by omega)
    obtain ⟨r0, r1⟩ := ac_rem (x := f + i) (y := n) (by omega) n1
    have hn0 : ¬ n = 0 := fun e => by rw [e, show (0 : Int32).toInt = 0 by decide] at n1; omega
    refine am_e_iload_n (am_nxt_of (i := (158, 1, .iload_n 3, (0, 0, 0), 0)) (by decide +kernel)) (v := f) rfl ?_
    refine am_e_iload (am_nxt_of (i := (159, 2, .iload 4, (0, 0, 0), 0)) (by decide +kernel)) (v := i) rfl ?_
    refine am_e_iadd (w := f + i) (am_nxt_of (i := (161, 1, .iadd, (0, 0, 0), 0)) (by decide +kernel)) rfl ?_
    refine am_e_aload_n (am_nxt_of (i := (162, 1, .aload_n 0, (0, 0, 0), 0)) (by decide +kernel)) (v := 164) rfl ?_
    refine am_e_getf (v := .int n) (am_nxt_of (i := (163, 3, .getfield 219, (12, 12, 1396), 0)) (by decide +kernel)) ac_o en ?_
    refine am_e_irem (w := (f + i) - (f + i) / n * n) (am_nxt_of (i := (166, 1, .irem, (0, 0, 0), 0)) (by decide +kernel)) hn0 rfl ?_
    generalize f + i - (f + i) / n * n = k at r0 r1 ⊢
    refine am_e_istore (ls' := [(5, .int k), (0, .ref 164), (1, .int by_), (2, .int had), (3, .int f), (4, .int i)]) (am_nxt_of (i := (167, 2, .istore 5, (0, 0, 0), 0)) (by decide +kernel)) (by decide +kernel) rfl ?_
    refine am_e_aload_n (am_nxt_of (i := (169, 1, .aload_n 0, (0, 0, 0), 0)) (by decide +kernel)) (v := 164) rfl ?_
    refine am_e_iconst (w := 1) (am_nxt_of (i := (170, 1, .iconst 1, (0, 0, 0), 0)) (by decide +kernel)) rfl ?_
    refine am_e_iload (am_nxt_of (i := (171, 2, .iload 5, (0, 0, 0), 0)) (by decide +kernel)) (v := k) rfl ?_
    refine am_e_callV (M' := am_m203) (o := 164) (ar := [.int k, .int 1]) (rest := []) (L := lv_args 0 [.ref 164, .int 1, .int k]) (am_nxt_of (i := (173, 3, .invokevirtual 438, (203, 1843, 3), 0)) (by decide +kernel)) rfl rfl rfl rfl ac_o rfl rfl rfl ?_
    refine am_Ev_mono (ac_use cdz rfl (ac_c13 r0 (by omega) (by decide) (by decide)) hI hj ac_p0) (fun r ks h1 hq => ?_)
    obtain ⟨rfl, I1, J1, f1, c', hc, hg⟩ := hq
    have hr := ac_01 (s := ab_S_isDizzy_x_x) rfl hc hg.1
    have F1 := ab_Fr_trans hF f1
    rcases hr with rfl | rfl
    · show am_Ek false am_G0 am_m238 101 _ [.int 0] _ _ _ _ _
      refine am_e_ifF (am_nxt_of (i := (176, 3, .ifCond .ne 6, (104, 0, 0), 0)) (by decide +kernel)) (am_c_neF rfl) ?_
      refine am_e_iload (am_nxt_of (i := (179, 2, .iload 5, (0, 0, 0), 0)) (by decide +kernel)) (v := k) rfl ?_
      exact am_e_iret (ty := .int) (am_cur_of (i := (181, 1, .ireturn, (0, 0, 0), 0)) (by decide +kernel)) rfl rfl rfl ⟨rfl, I1, J1, F1, _, rfl, by omega, r1⟩
    · show am_Ek false am_G0 am_m238 101 _ [.int 1] _ _ _ _ _
      refine am_e_ifT (am_nxt_of (i := (176, 3, .ifCond .ne 6, (104, 0, 0), 0)) (by decide +kernel)) (am_c_neT (by decide)) (am_tgt_of (by decide +kernel)) ?_
      have e1 := ab_inc1 i0 (by omega)
      refine am_e_iinc (w := i + Int32.ofInt 1) (ls' := [(4, .int (i + Int32.ofInt 1)), (5, .int k), (0, .ref 164), (1, .int by_), (2, .int had), (3, .int f)]) (am_nxt_of (i := (182, 3, .iinc 4 1, (0, 0, 0), 0)) (by decide +kernel)) (v := i) rfl (by decide +kernel) rfl rfl ?_
      refine am_e_goto (am_cur_of (i := (185, 3, .goto (-36), (86, 0, 0), 0)) (by decide +kernel)) (am_tgt_of (by decide +kernel)) ?_
      refine am_Ek_ls (ls' := [(0, .ref 164), (1, .int by_), (2, .int had), (3, .int f), (4, .int (i + Int32.ofInt 1))]) ⟨rfl, rfl, rfl, rfl, rfl, trivial⟩ ?_
      exact ih _ _ (by omega) (by omega) I1 J1 F1
theorem ac_nextBy (hS : ac_SC (ac_JX X)) {h0 : am_H} {n : Int32} (en0 : h0 164 12 = .int n) (n1 : 1 ≤ n.toInt) (n4 : n.toInt ≤ 4) {by_ had : Int32} (h1 : -1 ≤ had.toInt) (h2 : had.toInt < n.toInt) (hI : ab_Inv (ab_hi ab_tab) h0) (hj : ac_JX X h0) : am_Ek false am_G0 am_m238 0 (lv_args 0 [.ref 164, .int by_, .int had]) [] am_ks0 h0 0 0 (ac_nbQ X n h0) := by
  have z0 : (0 : Int32).toInt = 0 := by decide
  have z1 : (1 : Int32).toInt = 1 := by decide
  have hn0 : ¬ n = 0 := fun e => by rw [e, z0] at n1; omega
  have hB : ∀ f : Int32, 0 ≤ f.toInt → f.toInt ≤ 4 → am_Ek false am_G0 am_m238 83 [(0, .ref 164), (1, .int by_), (2, .int had)] [.int f] am_ks0 h0 0 0 (ac_nbQ X n h0) := by
    intro f f0 f4
    refine am_e_istore_n (ls' := [(3, .int f), (0, .ref 164), (1, .int by_), (2, .int had)]) (am_nxt_of (i := (145, 1, .istore_n 3, (0, 0, 0), 0)) (by decide +kernel)) (by decide +kernel) rfl ?_
    refine am_e_iconst (w := 0) (am_nxt_of (i := (146, 1, .iconst 0, (0, 0, 0), 0)) (by decide +kernel)) rfl ?_
    refine am_e_istore (ls' := [(4, .int 0), (3, .int f), (0, .ref 164), (1, .int by_), (2, .int had)]) (am_nxt_of (i := (147, 2, .istore 4, (0, 0, 0), 0)) (by decide +kernel)) (by decide +kernel) rfl ?_
    refine am_Ek_ls (ls' := [(0, .ref 164), (1, .int by_), (2, .int had), (3, .int f), (4, .int 0)]) ⟨rfl, rfl, rfl, rfl, rfl, trivial⟩ ?_
    exact ac_nb_B hS en0 n1 n4 f0 f4 n.toInt.toNat 0 h0 (by omega) (by decide) hI hj ab_Fr_refl
  refine am_e_iload_n (am_nxt_of (i := (0, 1, .iload_n 1, (0, 0, 0), 0)) (by decide +kernel)) (v := by_) rfl ?_
  refine am_e_iconst (w := 2) (am_nxt_of (i := (1, 1, .iconst 2, (0, 0, 0), 0)) (by decide +kernel)) rfl ?_
  by_cases hb2 : (by_ : Int32) = 2
  · refine am_e_cmpF (am_nxt_of (i := (2, 3, .if_icmp .ne 118, (68, 0, 0), 0)) (by decide +kernel)) (am_c_neF hb2) ?_
    refine am_e_iconst (w := (-1)) (am_nxt_of (i := (5, 1, .iconst (-1), (0, 0, 0), 0)) (by decide +kernel)) rfl ?_
    refine am_e_istore_n (ls' := [(3, .int (-1)), (0, .ref 164), (1, .int by_), (2, .int had)]) (am_nxt_of (i := (6, 1, .istore_n 3, (0, 0, 0), 0)) (by decide +kernel)) (by decide +kernel) rfl ?_
    refine am_e_iconst (w := 0) (am_nxt_of (i := (7, 1, .iconst 0, (0, 0, 0), 0)) (by decide +kernel)) rfl ?_
    refine am_e_istore (ls' := [(4, .int 0), (3, .int (-1)), (0, .ref 164), (1, .int by_), (2, .int had)]) (am_nxt_of (i := (8, 2, .istore 4, (0, 0, 0), 0)) (by decide +kernel)) (by decide +kernel) rfl ?_
    refine am_Ek_ls (ls' := [(0, .ref 164), (1, .int by_), (2, .int had), (3, .int (-1)), (4, .int 0)]) ⟨rfl, rfl, rfl, rfl, rfl, trivial⟩ ?_
    exact ac_nb_A hS en0 n1 n4 n.toInt.toNat 0 (-1) h0 (by omega) (by decide) (by decide) (by rw [show (-1 : Int32).toInt = -1 by decide]; omega) hI hj ab_Fr_refl
  · refine am_e_cmpT (am_nxt_of (i := (2, 3, .if_icmp .ne 118, (68, 0, 0), 0)) (by decide +kernel)) (am_c_neT hb2) (am_tgt_of (by decide +kernel)) ?_
    refine am_e_iload_n (am_nxt_of (i := (120, 1, .iload_n 2, (0, 0, 0), 0)) (by decide +kernel)) (v := had) rfl ?_
    by_cases hneg : (had : Int32) < 0
    · refine am_e_ifF (am_nxt_of (i := (121, 3, .ifCond .ge 7, (72, 0, 0), 0)) (by decide +kernel)) (am_c_geF hneg) ?_
      refine am_e_iconst (w := 0) (am_nxt_of (i := (124, 1, .iconst 0, (0, 0, 0), 0)) (by decide +kernel)) rfl ?_
      refine am_e_goto (am_cur_of (i := (125, 3, .goto 20, (83, 0, 0), 0)) (by decide +kernel)) (am_tgt_of (by decide +kernel)) ?_
      exact hB _ (by decide) (by decide)
    · refine am_e_ifT (am_nxt_of (i := (121, 3, .ifCond .ge 7, (72, 0, 0), 0)) (by decide +kernel)) (am_c_geT hneg) (am_tgt_of (by decide +kernel)) ?_
      have hh := ac_nlt' hneg
      refine am_e_iload_n (am_nxt_of (i := (128, 1, .iload_n 1, (0, 0, 0), 0)) (by decide +kernel)) (v := by_) rfl ?_
      refine am_e_iconst (w := 1) (am_nxt_of (i := (129, 1, .iconst 1, (0, 0, 0), 0)) (by decide +kernel)) rfl ?_
      by_cases hb1 : (by_ : Int32) = 1
      · refine am_e_cmpF (am_nxt_of (i := (130, 3, .if_icmp .ne 7, (77, 0, 0), 0)) (by decide +kernel)) (am_c_neF hb1) ?_
        refine am_e_iload_n (am_nxt_of (i := (133, 1, .iload_n 2, (0, 0, 0), 0)) (by decide +kernel)) (v := had) rfl ?_
        refine am_e_goto (am_cur_of (i := (134, 3, .goto 11, (83, 0, 0), 0)) (by decide +kernel)) (am_tgt_of (by decide +kernel)) ?_
        exact hB _ hh (by omega)
      · refine am_e_cmpT (am_nxt_of (i := (130, 3, .if_icmp .ne 7, (77, 0, 0), 0)) (by decide +kernel)) (am_c_neT hb1) (am_tgt_of (by decide +kernel)) ?_
        have ea := ab_iadd (x := had) (y := 1) (by omega) (by omega)
        obtain ⟨r0, r1⟩ := ac_rem (x := had + 1) (y := n) (by omega) n1
        refine am_e_iload_n (am_nxt_of (i := (137, 1, .iload_n 2, (0, 0, 0), 0)) (by decide +kernel)) (v := had) rfl ?_
        refine am_e_iconst (w := 1) (am_nxt_of (i := (138, 1, .iconst 1, (0, 0, 0), 0)) (by decide +kernel)) rfl ?_
        refine am_e_iadd (w := had + 1) (am_nxt_of (i := (139, 1, .iadd, (0, 0, 0), 0)) (by decide +kernel)) rfl ?_
        refine am_e_aload_n (am_nxt_of (i := (140, 1, .aload_n 0, (0, 0, 0), 0)) (by decide +kernel)) (v := 164) rfl ?_
        refine am_e_getf (v := .int n) (am_nxt_of (i := (141, 3, .getfield 219, (12, 12, 1396), 0)) (by decide +kernel)) ac_o en0 ?_
        refine am_e_irem (w := (had + 1) - (had + 1) / n * n) (am_nxt_of (i := (144, 1, .irem, (0, 0, 0), 0)) (by decide +kernel)) hn0 rfl ?_
        exact hB _ r0 (by omega)
abbrev ac_rtQ (X : am_H → Prop) (h0 : am_H) : Option Value → List am_k → am_H → Prop := fun r ks h' => ks = am_ks0 ∧ ab_Inv (ab_hi ab_tab) h' ∧ ac_JX X h' ∧ ab_Fr (ac_gM ++ (ab_cbM ++ [(164, 64)])) h0 h' ∧ ∃ x : Int32, r = some (.int x)
theorem ac_Fr_L {a b : List (Nat × Nat)} {h h' : am_H} (hf : ab_Fr a h h') : ab_Fr (a ++ b) h h' := fun o k hk => hf o k (by unfold ab_in at hk ⊢; rw [List.any_append, Bool.or_eq_false_iff] at hk; exact hk.1)
theorem ac_Fr_R {a b : List (Nat × Nat)} {h h' : am_H} (hf : ab_Fr b h h') : ab_Fr (a ++ b) h h' := fun o k hk => hf o k (by unfold ab_in at hk ⊢; rw [List.any_append, Bool.or_eq_false_iff] at hk; exact hk.2)
theorem ac_goRounds (hX : ac_XF X) (hS : ac_SC (ac_JX X)) {h : am_H} (hI : ab_Inv (ab_hi ab_tab) h) (hj : ac_JX X h) (ht : h 164 2 = .int 0) {n : Int32} (en : h 164 13 = .int n) (n1 : 1 ≤ n.toInt) : am_Ek false am_G0 am_m214 0 (lv_args 0 [.ref 164]) [] am_ks0 h 0 0 (fun r ks h' => ks = am_ks0 ∧ (r = some (.int 0) ∨ r = some (.int 1)) ∧ ab_Inv (ab_hi ab_tab) h' ∧ ac_JX X h' ∧ ab_Fr (ac_gM ++ (ab_cbM ++ [(164, 64)])) h h') := by
  obtain ⟨n', en', n0, n8⟩ := ac_g13 hI
  rw [en] at en'
  cases en'
  exact ab_goRounds (ac_BrC hX hS) (by decide) (by decide) (by decide) (by decide) (by decide) (ac_JX_fr hX rfl) (ac_JX_fr hX rfl) (ac_JX_fr hX rfl) (fun h hj => hj.1.2.2.2.2.1) hI hj ht en n1 n8
theorem ac_rt_loop (hX : ac_XF X) (hS : ac_SC (ac_JX X)) {h0 h2 : am_H} {n s by_ : Int32} (en2 : h2 164 12 = .int n) (n1 : 1 ≤ n.toInt) (n4 : n.toInt ≤ 4) (hF2 : ab_Fr (ac_gM ++ (ab_cbM ++ [(164, 64)])) h0 h2) : ∀ (d : Nat) (D : Int) (had : Int32) (h : am_H), D + d = 3600 → 0 ≤ D → D < 3600 → -1 ≤ had.toInt → had.toInt < n.toInt → ab_Bd (ac_JX X) ac_gM h2 s D h → am_Ek false am_G0 am_m237 27 [(0, .ref 164), (1, .int by_), (2, .int had)] [] am_ks0 h 0 0 (ac_rtQ X h0) := by
  have HB := ac_BrC hX hS
  have key : ∀ (d : Nat) (D : Int) (had : Int32) (h : am_H), 3600 - D ≤ d → 0 ≤ D → D < 3600 → -1 ≤ had.toInt → had.toInt < n.toInt → ab_Bd (ac_JX X) ac_gM h2 s D h → am_Ek false am_G0 am_m237 27 [(0, .ref 164), (1, .int by_), (2, .int had)] [] am_ks0 h 0 0 (ac_rtQ X h0) := by
   intro d
   induction d with
   | zero =>
    intro D had h hd D0 D1
    omega
   | succ d ih =>
    intro D had h hd D0 D1 g1 g2 hB
    have en : h 164 12 = .int n := (hB.2.2.1 164 12 (by decide)).trans en2
    obtain ⟨fu, efu, -⟩ := ac_r188 hB.1 (q := 1) (by decide)
    obtain ⟨on, eon, -⟩ := ac_r168 hB.1 (q := 0) (by decide)
    have hend : ∀ (D' : Int) (g : am_H), ab_Bd (ac_JX X) ac_gM h2 s D' g → ab_Fr (ac_gM ++ (ab_cbM ++ [(164, 64)])) h0 g := fun D' g gB => ab_Fr_trans hF2 (ac_Fr_L gB.2.2.1)
    refine am_e_aload_n (am_nxt_of (i := (46, 1, .aload_n 0, (0, 0, 0), 0)) (by decide +kernel)) (v := 164) rfl ?_
    refine am_e_getf (am_nxt_of (i := (47, 3, .getfield 85, (12, 50, 1434), 0)) (by decide +kernel)) ac_o (ac_f50 hB.1) ?_
    refine am_e_iconst (w := 1) (am_nxt_of (i := (50, 1, .iconst 1, (0, 0, 0), 0)) (by decide +kernel)) rfl ?_
    refine am_e_iaload (v := fu) (q := 1) (am_nxt_of (i := (51, 1, .iaload, (0, 0, 0), 0)) (by decide +kernel)) ac_k188 (by decide) (by decide) efu ?_
    refine am_e_aload_n (am_nxt_of (i := (52, 1, .aload_n 0, (0, 0, 0), 0)) (by decide +kernel)) (v := 164) rfl ?_
    refine am_e_getf (am_nxt_of (i := (53, 3, .getfield 24, (12, 23, 1407), 0)) (by decide +kernel)) ac_o (ac_f23 hB.1) ?_
    refine am_e_iconst (w := 0) (am_nxt_of (i := (56, 1, .iconst 0, (0, 0, 0), 0)) (by decide +kernel)) rfl ?_
    refine am_e_iaload (v := on) (q := 0) (am_nxt_of (i := (57, 1, .iaload, (0, 0, 0), 0)) (by decide +kernel)) ac_k168 (by decide) (by decide) eon ?_
    have ihx : ∀ (had' : Int32) (D' : Int) (g : am_H), D < D' → D' < 3600 → -1 ≤ had'.toInt → had'.toInt < n.toInt → ab_Bd (ac_JX X) ac_gM h2 s D' g → am_Ek false am_G0 am_m237 27 [(0, .ref 164), (1, .int by_), (2, .int had')] [] am_ks0 g 0 0 (ac_rtQ X h0) := fun had' D' g q1 q2 q3 q4 q5 => ih D' had' g (by omega) (by omega) q2 q3 q4 q5
    by_cases hlt : (fu : Int32) < on
    · refine am_e_cmpF (am_nxt_of (i := (58, 3, .if_icmp .ge 80, (80, 0, 0), 0)) (by decide +kernel)) (am_c_geF hlt) ?_
      refine am_e_aload_n (am_nxt_of (i := (61, 1, .aload_n 0, (0, 0, 0), 0)) (by decide +kernel)) (v := 164) rfl ?_
      refine am_e_iload_n (am_nxt_of (i := (62, 1, .iload_n 1, (0, 0, 0), 0)) (by decide +kernel)) (v := by_) rfl ?_
      refine am_e_iload_n (am_nxt_of (i := (63, 1, .iload_n 2, (0, 0, 0), 0)) (by decide +kernel)) (v := had) rfl ?_
      refine am_e_callV (M' := am_m238) (o := 164) (ar := [.int had, .int by_]) (rest := []) (L := lv_args 0 [.ref 164, .int by_, .int had]) (am_nxt_of (i := (64, 3, .invokevirtual 514, (238, 1983, 3), 0)) (by decide +kernel)) rfl rfl rfl rfl ac_o rfl rfl rfl ?_
      refine am_Ev_mono (ac_nextBy hS en n1 n4 g1 g2 hB.1 hB.2.1) (fun r ks h3 hq => ?_)
      obtain ⟨rfl, I3, J3, f3, k, rfl, k0, k1⟩ := hq
      have B3 : ab_Bd (ac_JX X) ac_gM h2 s D h3 := by
        obtain ⟨-, -, q3, q4, q5, sx, q6, q7⟩ := hB
        exact ⟨I3, J3, ab_Fr_trans q3 (ab_mdle_Fr (by decide) f3), (f3 164 2 rfl).trans q4, (f3 164 63 rfl).trans q5, sx, (f3 189 1 rfl).trans q6, q7⟩
      show am_Ek false am_G0 am_m237 40 _ [.int k] _ _ _ _ _
      have hmore : ∀ (D' : Int) (mo : Int32) (g : am_H), ab_Bd (ac_JX X) ac_gM h2 s D' g → D < D' → ab_mo mo D' → am_Ek false am_G0 am_m237 51 [(3, .int k), (0, .ref 164), (1, .int by_), (2, .int had)] [.int mo] am_ks0 g 0 0 (ac_rtQ X h0) := by
        intro D' mo g gB hDD hmo
        refine am_e_istore (ls' := [(4, .int mo), (3, .int k), (0, .ref 164), (1, .int by_), (2, .int had)]) (am_nxt_of (i := (86, 2, .istore 4, (0, 0, 0), 0)) (by decide +kernel)) (by decide +kernel) rfl ?_
        refine am_e_iload (am_nxt_of (i := (88, 2, .iload 4, (0, 0, 0), 0)) (by decide +kernel)) (v := mo) rfl ?_
        rcases hmo with ⟨rfl, hD⟩ | ⟨rfl, hD⟩
        · refine am_e_ifT (am_nxt_of (i := (90, 3, .ifCond .ne 35, (73, 0, 0), 0)) (by decide +kernel)) (am_c_neT (by decide)) (am_tgt_of (by decide +kernel)) ?_
          refine am_e_iload_n (am_nxt_of (i := (125, 1, .iload_n 3, (0, 0, 0), 0)) (by decide +kernel)) (v := k) rfl ?_
          by_cases hk : (k : Int32) < 0
          · refine am_e_ifF (am_nxt_of (i := (126, 3, .ifCond .ge 7, (77, 0, 0), 0)) (by decide +kernel)) (am_c_geF hk) ?_
            refine am_e_iload_n (am_nxt_of (i := (129, 1, .iload_n 2, (0, 0, 0), 0)) (by decide +kernel)) (v := had) rfl ?_
            refine am_e_goto (am_cur_of (i := (130, 3, .goto 4, (78, 0, 0), 0)) (by decide +kernel)) (am_tgt_of (by decide +kernel)) ?_
            refine am_e_istore_n (ls' := [(2, .int had), (4, .int 1), (3, .int k), (0, .ref 164), (1, .int by_)]) (am_nxt_of (i := (134, 1, .istore_n 2, (0, 0, 0), 0)) (by decide +kernel)) (by decide +kernel) rfl ?_
            refine am_e_goto (am_cur_of (i := (135, 3, .goto (-89), (27, 0, 0), 0)) (by decide +kernel)) (am_tgt_of (by decide +kernel)) ?_
            refine am_Ek_ls (ls' := [(0, .ref 164), (1, .int by_), (2, .int had)]) ⟨rfl, rfl, rfl, trivial⟩ ?_
            exact ihx had D' g hDD hD g1 g2 gB
          · refine am_e_ifT (am_nxt_of (i := (126, 3, .ifCond .ge 7, (77, 0, 0), 0)) (by decide +kernel)) (am_c_geT hk) (am_tgt_of (by decide +kernel)) ?_
            have hk' := ac_nlt' hk
            have z0 : (0 : Int32).toInt = 0 := by decide
            refine am_e_iload_n (am_nxt_of (i := (133, 1, .iload_n 3, (0, 0, 0), 0)) (by decide +kernel)) (v := k) rfl ?_
            refine am_e_istore_n (ls' := [(2, .int k), (4, .int 1), (3, .int k), (0, .ref 164), (1, .int by_)]) (am_nxt_of (i := (134, 1, .istore_n 2, (0, 0, 0), 0)) (by decide +kernel)) (by decide +kernel) rfl ?_
            refine am_e_goto (am_cur_of (i := (135, 3, .goto (-89), (27, 0, 0), 0)) (by decide +kernel)) (am_tgt_of (by decide +kernel)) ?_
            refine am_Ek_ls (ls' := [(0, .ref 164), (1, .int by_), (2, .int k)]) ⟨rfl, rfl, rfl, trivial⟩ ?_
            exact ihx k D' g hDD hD (by omega) k1 gB
        · refine am_e_ifF (am_nxt_of (i := (90, 3, .ifCond .ne 35, (73, 0, 0), 0)) (by decide +kernel)) (am_c_neF rfl) ?_
          obtain ⟨fu2, efu2, -⟩ := ac_r188 gB.1 (q := 1) (by decide)
          obtain ⟨on2, eon2, -⟩ := ac_r168 gB.1 (q := 0) (by decide)
          refine am_e_aload_n (am_nxt_of (i := (93, 1, .aload_n 0, (0, 0, 0), 0)) (by decide +kernel)) (v := 164) rfl ?_
          refine am_e_getf (am_nxt_of (i := (94, 3, .getfield 85, (12, 50, 1434), 0)) (by decide +kernel)) ac_o (ac_f50 gB.1) ?_
          refine am_e_iconst (w := 1) (am_nxt_of (i := (97, 1, .iconst 1, (0, 0, 0), 0)) (by decide +kernel)) rfl ?_
          refine am_e_iaload (v := fu2) (q := 1) (am_nxt_of (i := (98, 1, .iaload, (0, 0, 0), 0)) (by decide +kernel)) ac_k188 (by decide) (by decide) efu2 ?_
          refine am_e_aload_n (am_nxt_of (i := (99, 1, .aload_n 0, (0, 0, 0), 0)) (by decide +kernel)) (v := 164) rfl ?_
          refine am_e_getf (am_nxt_of (i := (100, 3, .getfield 24, (12, 23, 1407), 0)) (by decide +kernel)) ac_o (ac_f23 gB.1) ?_
          refine am_e_iconst (w := 0) (am_nxt_of (i := (103, 1, .iconst 0, (0, 0, 0), 0)) (by decide +kernel)) rfl ?_
          refine am_e_iaload (v := on2) (q := 0) (am_nxt_of (i := (104, 1, .iaload, (0, 0, 0), 0)) (by decide +kernel)) ac_k168 (by decide) (by decide) eon2 ?_
          by_cases hlt2 : (fu2 : Int32) < on2
          · refine am_e_cmpT (am_nxt_of (i := (105, 3, .if_icmp .lt 17, (71, 0, 0), 0)) (by decide +kernel)) (am_c_ltT hlt2) (am_tgt_of (by decide +kernel)) ?_
            refine am_e_bipush (w := (-2)) (am_nxt_of (i := (122, 2, .bipush (-2), (0, 0, 0), 0)) (by decide +kernel)) (by decide) ?_
            exact am_e_iret (ty := .int) (am_cur_of (i := (124, 1, .ireturn, (0, 0, 0), 0)) (by decide +kernel)) rfl rfl rfl ⟨rfl, gB.1, gB.2.1, hend _ _ gB, _, rfl⟩
          · refine am_e_cmpF (am_nxt_of (i := (105, 3, .if_icmp .lt 17, (71, 0, 0), 0)) (by decide +kernel)) (am_c_ltF hlt2) ?_
            obtain ⟨se, ese, -⟩ := ac_r189 gB.1 (q := 1) (by decide)
            refine am_e_aload_n (am_nxt_of (i := (108, 1, .aload_n 0, (0, 0, 0), 0)) (by decide +kernel)) (v := 164) rfl ?_
            refine am_e_getf (am_nxt_of (i := (109, 3, .getfield 88, (12, 51, 1435), 0)) (by decide +kernel)) ac_o (ac_f51 gB.1) ?_
            refine am_e_iconst (w := 1) (am_nxt_of (i := (112, 1, .iconst 1, (0, 0, 0), 0)) (by decide +kernel)) rfl ?_
            refine am_e_iaload (v := se) (q := 1) (am_nxt_of (i := (113, 1, .iaload, (0, 0, 0), 0)) (by decide +kernel)) ac_k189 (by decide) (by decide) ese ?_
            refine am_e_aload_n (am_nxt_of (i := (114, 1, .aload_n 0, (0, 0, 0), 0)) (by decide +kernel)) (v := 164) rfl ?_
            refine am_e_getf (v := .int s) (am_nxt_of (i := (115, 3, .getfield 447, (12, 63, 1447), 0)) (by decide +kernel)) ac_o gB.2.2.2.2.1 ?_
            refine am_e_isub (w := se - s) (am_nxt_of (i := (118, 1, .isub, (0, 0, 0), 0)) (by decide +kernel)) rfl ?_
            refine am_e_goto (am_cur_of (i := (119, 3, .goto 5, (72, 0, 0), 0)) (by decide +kernel)) (am_tgt_of (by decide +kernel)) ?_
            exact am_e_iret (ty := .int) (am_cur_of (i := (124, 1, .ireturn, (0, 0, 0), 0)) (by decide +kernel)) rfl rfl rfl ⟨rfl, gB.1, gB.2.1, hend _ _ gB, _, rfl⟩
      refine am_e_istore_n (ls' := [(3, .int k), (0, .ref 164), (1, .int by_), (2, .int had)]) (am_nxt_of (i := (67, 1, .istore_n 3, (0, 0, 0), 0)) (by decide +kernel)) (by decide +kernel) rfl ?_
      refine am_e_iload_n (am_nxt_of (i := (68, 1, .iload_n 3, (0, 0, 0), 0)) (by decide +kernel)) (v := k) rfl ?_
      by_cases hk : (k : Int32) < 0
      · refine am_e_ifF (am_nxt_of (i := (69, 3, .ifCond .ge 11, (47, 0, 0), 0)) (by decide +kernel)) (am_c_geF hk) ?_
        refine am_e_aload_n (am_nxt_of (i := (72, 1, .aload_n 0, (0, 0, 0), 0)) (by decide +kernel)) (v := 164) rfl ?_
        refine am_e_iconst (w := 0) (am_nxt_of (i := (73, 1, .iconst 0, (0, 0, 0), 0)) (by decide +kernel)) rfl ?_
        refine am_e_callV (M' := am_m216) (o := 164) (ar := [.int 0]) (rest := []) (L := lv_args 0 [.ref 164, .int 0]) (am_nxt_of (i := (74, 3, .invokevirtual 450, (216, 1895, 3), 0)) (by decide +kernel)) rfl rfl rfl rfl ac_o rfl rfl rfl ?_
        obtain ⟨⟨c1, e1, e2, e4, hc⟩, hm, hJs, -⟩ := HB
        refine am_Ev_mono (ab_Bd_tick c1 e1 e2 e4 hc hm hJs B3 (o := 0) (by decide) (by decide) D0 D1) (fun r ks g hq => ?_)
        obtain ⟨rfl, gB, ⟨rfl, hD⟩ | ⟨rfl, hD⟩⟩ := hq
        · show am_Ek false am_G0 am_m237 46 _ [.int 1] _ _ _ _ _
          refine am_e_goto (am_cur_of (i := (77, 3, .goto 9, (51, 0, 0), 0)) (by decide +kernel)) (am_tgt_of (by decide +kernel)) ?_
          exact hmore _ _ g gB (by omega) (Or.inl ⟨rfl, hD⟩)
        · show am_Ek false am_G0 am_m237 46 _ [.int 0] _ _ _ _ _
          refine am_e_goto (am_cur_of (i := (77, 3, .goto 9, (51, 0, 0), 0)) (by decide +kernel)) (am_tgt_of (by decide +kernel)) ?_
          exact hmore _ _ g gB (by omega) (Or.inr ⟨rfl, hD⟩)
      · refine am_e_ifT (am_nxt_of (i := (69, 3, .ifCond .ge 11, (47, 0, 0), 0)) (by decide +kernel)) (am_c_geT hk) (am_tgt_of (by decide +kernel)) ?_
        have hk' := ac_nlt' hk
        have z0 : (0 : Int32).toInt = 0 := by decide
        refine am_e_aload_n (am_nxt_of (i := (80, 1, .aload_n 0, (0, 0, 0), 0)) (by decide +kernel)) (v := 164) rfl ?_
        refine am_e_iload_n (am_nxt_of (i := (81, 1, .iload_n 3, (0, 0, 0), 0)) (by decide +kernel)) (v := k) rfl ?_
        refine am_e_iconst (w := 0) (am_nxt_of (i := (82, 1, .iconst 0, (0, 0, 0), 0)) (by decide +kernel)) rfl ?_
        refine am_e_callV (M' := am_m215) (o := 164) (ar := [.int 0, .int k]) (rest := []) (L := lv_args 0 [.ref 164, .int k, .int 0]) (am_nxt_of (i := (83, 3, .invokevirtual 460, (215, 1891, 3), 0)) (by decide +kernel)) rfl rfl rfl rfl ac_o rfl rfl rfl ?_
        refine am_Ev_mono (ab_breathes HB (by decide) (w := 0) (by omega) (by omega) D0 D1 (by
          obtain ⟨-, v, q1, q2⟩ := J3.1.2.2.2.2.2.2.1 k.toInt.toNat n ((f3 164 12 rfl).trans en) (by omega)
          refine ⟨v, ?_, q2⟩
          rw [← B3.2.2.1 170 _ rfl, show 7 * k.toInt.toNat + 3 = 0 + 7 * k.toInt.toNat + 3 by omega]
          exact q1) B3) (fun r ks g hq => ?_)
        obtain ⟨rfl, D', mo, gB, hDD, rfl, hmo⟩ := hq
        show am_Ek false am_G0 am_m237 51 _ [.int mo] _ _ _ _ _
        exact hmore _ _ g gB hDD hmo
    · refine am_e_cmpT (am_nxt_of (i := (58, 3, .if_icmp .ge 80, (80, 0, 0), 0)) (by decide +kernel)) (am_c_geT hlt) (am_tgt_of (by decide +kernel)) ?_
      obtain ⟨se, ese, -⟩ := ac_r189 hB.1 (q := 1) (by decide)
      refine am_e_aload_n (am_nxt_of (i := (138, 1, .aload_n 0, (0, 0, 0), 0)) (by decide +kernel)) (v := 164) rfl ?_
      refine am_e_getf (am_nxt_of (i := (139, 3, .getfield 88, (12, 51, 1435), 0)) (by decide +kernel)) ac_o (ac_f51 hB.1) ?_
      refine am_e_iconst (w := 1) (am_nxt_of (i := (142, 1, .iconst 1, (0, 0, 0), 0)) (by decide +kernel)) rfl ?_
      refine am_e_iaload (v := se) (q := 1) (am_nxt_of (i := (143, 1, .iaload, (0, 0, 0), 0)) (by decide +kernel)) ac_k189 (by decide) (by decide) ese ?_
      refine am_e_aload_n (am_nxt_of (i := (144, 1, .aload_n 0, (0, 0, 0), 0)) (by decide +kernel)) (v := 164) rfl ?_
      refine am_e_getf (v := .int s) (am_nxt_of (i := (145, 3, .getfield 447, (12, 63, 1447), 0)) (by decide +kernel)) ac_o hB.2.2.2.2.1 ?_
      refine am_e_isub (w := se - s) (am_nxt_of (i := (148, 1, .isub, (0, 0, 0), 0)) (by decide +kernel)) rfl ?_
      exact am_e_iret (ty := .int) (am_cur_of (i := (149, 1, .ireturn, (0, 0, 0), 0)) (by decide +kernel)) rfl rfl rfl ⟨rfl, hB.1, hB.2.1, hend _ _ hB, _, rfl⟩
  exact fun d D had h hd D0 D1 => key d D had h (by omega) D0 D1
theorem ac_ruleTime (hX : ac_XF X) (hS : ac_SC (ac_JX X)) {h : am_H} {n t by_ : Int32} (hI : ab_Inv (ab_hi ab_tab) h) (hj : ac_JX X h) (ht : h 164 2 = .int 0) (en : h 164 12 = .int n) (n1 : 1 ≤ n.toInt) (et : h 164 13 = .int t) (hb : by_ = 0 → 1 ≤ t.toInt) : am_Ek false am_G0 am_m237 0 (lv_args 0 [.ref 164, .int by_]) [] am_ks0 h 0 0 (ac_rtQ X h) := by
  obtain ⟨n', en', n0, n4⟩ := ac_g12 hI
  rw [en] at en'
  cases en'
  refine am_e_iload_n (am_nxt_of (i := (0, 1, .iload_n 1, (0, 0, 0), 0)) (by decide +kernel)) (v := by_) rfl ?_
  by_cases h0 : (by_ : Int32) = 0
  · refine am_e_ifF (am_nxt_of (i := (1, 3, .ifCond .ne 27, (15, 0, 0), 0)) (by decide +kernel)) (am_c_neF h0) ?_
    refine am_e_aload_n (am_nxt_of (i := (4, 1, .aload_n 0, (0, 0, 0), 0)) (by decide +kernel)) (v := 164) rfl ?_
    refine am_e_callV (M' := am_m214) (o := 164) (ar := []) (rest := []) (L := lv_args 0 [.ref 164]) (am_nxt_of (i := (5, 3, .invokevirtual 464, (214, 1887, 3), 0)) (by decide +kernel)) rfl rfl rfl rfl ac_o rfl rfl rfl ?_
    refine am_Ev_mono (ac_goRounds hX hS hI hj ht et (hb h0)) (fun r ks g hq => ?_)
    obtain ⟨rfl, hr, gI, gj, gF⟩ := hq
    obtain ⟨se, ese, -⟩ := ac_r189 gI (q := 1) (by decide)
    obtain ⟨bg, ebg, -⟩ := ac_g63 gI
    rcases hr with rfl | rfl
    · show am_Ek false am_G0 am_m237 4 _ [.int 0] _ _ _ _ _
      refine am_e_ifT (am_nxt_of (i := (8, 3, .ifCond .eq 17, (13, 0, 0), 0)) (by decide +kernel)) (am_c_eqT rfl) (am_tgt_of (by decide +kernel)) ?_
      refine am_e_bipush (w := (-2)) (am_nxt_of (i := (25, 2, .bipush (-2), (0, 0, 0), 0)) (by decide +kernel)) (by decide) ?_
      exact am_e_iret (ty := .int) (am_cur_of (i := (27, 1, .ireturn, (0, 0, 0), 0)) (by decide +kernel)) rfl rfl rfl ⟨rfl, gI, gj, gF, _, rfl⟩
    · show am_Ek false am_G0 am_m237 4 _ [.int 1] _ _ _ _ _
      refine am_e_ifF (am_nxt_of (i := (8, 3, .ifCond .eq 17, (13, 0, 0), 0)) (by decide +kernel)) (am_c_eqF (by decide)) ?_
      refine am_e_aload_n (am_nxt_of (i := (11, 1, .aload_n 0, (0, 0, 0), 0)) (by decide +kernel)) (v := 164) rfl ?_
      refine am_e_getf (am_nxt_of (i := (12, 3, .getfield 88, (12, 51, 1435), 0)) (by decide +kernel)) ac_o (ac_f51 gI) ?_
      refine am_e_iconst (w := 1) (am_nxt_of (i := (15, 1, .iconst 1, (0, 0, 0), 0)) (by decide +kernel)) rfl ?_
      refine am_e_iaload (v := se) (q := 1) (am_nxt_of (i := (16, 1, .iaload, (0, 0, 0), 0)) (by decide +kernel)) ac_k189 (by decide) (by decide) ese ?_
      refine am_e_aload_n (am_nxt_of (i := (17, 1, .aload_n 0, (0, 0, 0), 0)) (by decide +kernel)) (v := 164) rfl ?_
      refine am_e_getf (v := .int bg) (am_nxt_of (i := (18, 3, .getfield 447, (12, 63, 1447), 0)) (by decide +kernel)) ac_o ebg ?_
      refine am_e_isub (w := se - bg) (am_nxt_of (i := (21, 1, .isub, (0, 0, 0), 0)) (by decide +kernel)) rfl ?_
      refine am_e_goto (am_cur_of (i := (22, 3, .goto 5, (14, 0, 0), 0)) (by decide +kernel)) (am_tgt_of (by decide +kernel)) ?_
      exact am_e_iret (ty := .int) (am_cur_of (i := (27, 1, .ireturn, (0, 0, 0), 0)) (by decide +kernel)) rfl rfl rfl ⟨rfl, gI, gj, gF, _, rfl⟩
  · refine am_e_ifT (am_nxt_of (i := (1, 3, .ifCond .ne 27, (15, 0, 0), 0)) (by decide +kernel)) (am_c_neT h0) (am_tgt_of (by decide +kernel)) ?_
    obtain ⟨s, es, -⟩ := ac_r189 hI (q := 0) (by decide)
    refine am_e_aload_n (am_nxt_of (i := (28, 1, .aload_n 0, (0, 0, 0), 0)) (by decide +kernel)) (v := 164) rfl ?_
    refine am_e_iconst (w := 1) (am_nxt_of (i := (29, 1, .iconst 1, (0, 0, 0), 0)) (by decide +kernel)) rfl ?_
    refine am_e_iconst (w := 0) (am_nxt_of (i := (30, 1, .iconst 0, (0, 0, 0), 0)) (by decide +kernel)) rfl ?_
    refine am_e_callV (M' := am_m197) (o := 164) (ar := [.int 0, .int 1]) (rest := []) (L := lv_args 0 [.ref 164, .int 1, .int 0]) (am_nxt_of (i := (31, 3, .invokevirtual 428, (197, 1820, 3), 0)) (by decide +kernel)) rfl rfl rfl rfl ac_o rfl rfl rfl ?_
    refine am_Ev_mono (ab_copy10 (J := ac_JX X) (ac_JX_fr hX rfl) hI hj es) (fun r ks h1 hq => ?_)
    obtain ⟨rfl, rfl, I1, J1, f1, es1⟩ := hq
    show am_Ek false am_G0 am_m237 19 _ [] _ _ _ _ _
    have es0 : h1 189 0 = .int s := (f1 189 0 rfl).trans es
    have I2 := ac_p63 (v := s) I1 (ab_32 s).1 (ab_32 s).2
    refine am_e_aload_n (am_nxt_of (i := (34, 1, .aload_n 0, (0, 0, 0), 0)) (by decide +kernel)) (v := 164) rfl ?_
    refine am_e_aload_n (am_nxt_of (i := (35, 1, .aload_n 0, (0, 0, 0), 0)) (by decide +kernel)) (v := 164) rfl ?_
    refine am_e_getf (am_nxt_of (i := (36, 3, .getfield 88, (12, 51, 1435), 0)) (by decide +kernel)) ac_o (ac_f51 I1) ?_
    refine am_e_iconst (w := 0) (am_nxt_of (i := (39, 1, .iconst 0, (0, 0, 0), 0)) (by decide +kernel)) rfl ?_
    refine am_e_iaload (v := s) (q := 0) (am_nxt_of (i := (40, 1, .iaload, (0, 0, 0), 0)) (by decide +kernel)) ac_k189 (by decide) (by decide) es0 ?_
    refine am_e_putf (am_nxt_of (i := (41, 3, .putfield 447, (12, 63, 1447), 0)) (by decide +kernel)) ac_o rfl ?_
    have J2 := ac_JX_fr hX (md := [(164, 64)]) rfl _ (am_up h1 164 63 (.int s)) (ab_Fr_up rfl ab_Fr_refl) J1
    have F2 : ab_Fr (ac_gM ++ (ab_cbM ++ [(164, 64)])) h (am_up h1 164 63 (.int s)) := ac_Fr_R (ab_Fr_up rfl (ac_Fr_L f1))
    have B2 : ab_Bd (ac_JX X) ac_gM (am_up h1 164 63 (.int s)) s 0 (am_up h1 164 63 (.int s)) := ⟨I2, J2, ab_Fr_refl, (f1 164 2 rfl).trans ht, rfl, s, es1, by rw [ab_isub (by omega) (by omega)]; omega⟩
    have en2 : am_up h1 164 63 (.int s) 164 12 = .int n := (f1 164 12 rfl).trans en
    refine am_e_iconst (w := (-1)) (am_nxt_of (i := (44, 1, .iconst (-1), (0, 0, 0), 0)) (by decide +kernel)) rfl ?_
    refine am_e_istore_n (ls' := [(2, .int (-1)), (0, .ref 164), (1, .int by_)]) (am_nxt_of (i := (45, 1, .istore_n 2, (0, 0, 0), 0)) (by decide +kernel)) (by decide +kernel) rfl ?_
    refine am_Ek_ls (ls' := [(0, .ref 164), (1, .int by_), (2, .int (-1))]) ⟨rfl, rfl, rfl, trivial⟩ ?_
    exact ac_rt_loop hX hS en2 n1 n4 F2 3600 0 (-1) _ (by decide) (by decide) (by decide) (by decide) (by rw [show (-1 : Int32).toInt = -1 by decide]; omega) B2
end ACJ
