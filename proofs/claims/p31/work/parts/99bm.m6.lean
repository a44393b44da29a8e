/-! ===== THE MODEL'S CHEEKS: what holds of them; holes of isSo, fits (wip/s/tpl/99bm.tpl) ===== -/
def ac_M6 (h : am_H) : Prop := ∀ i, i < 24 → ∃ k n : Int32, h 198 (4 * i) = .int k ∧ -1 ≤ k.toInt ∧ k.toInt ≤ 3 ∧ h 198 (4 * i + 1) = .int n ∧ (k.toInt < 0 → 0 ≤ n.toInt ∧ n.toInt ≤ 23)
theorem ac_M6_fr {h h' : am_H} (e : ∀ k, h' 198 k = h 198 k) (hm : ac_M6 h) : ac_M6 h' := by
  intro i hi
  obtain ⟨k, n, g1, g2, g3, g4, g5⟩ := hm i hi
  exact ⟨k, n, (e _).trans g1, g2, g3, (e _).trans g4, g5⟩
theorem ac_isSo_hole {J : am_H → Prop} (hM : ∀ h, J h → ac_M6 h) {md fx : List (Nat × Nat)} {ct : List (Option ab_K)} {as : List Value} {h0 : am_H} {Q : Option Value → List am_k → am_H → Prop}
    (hw : ab_wkB ct 6 ([(0, (4, 0, 0, [164])), (1, ab_i 0 23)], [], []) = true) (hx : ab_exB ab_tab fx ct ab_sog (1, (0, 2), none, []) 6 13 = true) : ab_Hole ab_tab J md fx am_m246 ct as h0 Q ab_rnk 6 := by
  intro K hK ls st h hst IH
  obtain ⟨⟨F, hF, hg⟩, hI, hJ, hFr, hfx⟩ := hst
  have hW := ab_wkB_ok hw hK hF hg
  have l0 := ab_locR hW (j := 0) (o := 164) (by simp)
  obtain ⟨c, l1, c0, c1⟩ := ab_locI hW (j := 1) (l := 0) (u := 23) (by simp)
  have hs0 := ab_st0 hW rfl
  subst hs0
  have m4 := ab_mul4 c0 (by omega)
  obtain ⟨q, hq⟩ : ∃ q : Nat, c.toInt = q := ⟨c.toInt.toNat, by omega⟩
  have i0 := ab_ix (x := (4 : Int32) * c) (n := 96) (by omega) (by omega)
  have q0 : ((4 : Int32) * c).toNatClampNeg = 4 * q := ab_clamp (by omega)
  obtain ⟨k, -, ek, k0, k1, -⟩ := hM h hJ q (by omega)
  refine am_e_aload_n (am_nxt_of (i := (10, 1, .aload_n 0, (0, 0, 0), 0)) (by decide +kernel)) l0 ?_
  refine am_e_getf (am_nxt_of (i := (11, 3, .getfield 121, (12, 75, 1459), 0)) (by decide +kernel)) ac_o (ac_f75 hI) ?_
  refine am_e_iconst (w := 4) (am_nxt_of (i := (14, 1, .iconst 4, (0, 0, 0), 0)) (by decide +kernel)) rfl ?_
  refine am_e_iload_n (am_nxt_of (i := (15, 1, .iload_n 1, (0, 0, 0), 0)) (by decide +kernel)) l1 ?_
  refine am_e_imul (am_nxt_of (i := (16, 1, .imul, (0, 0, 0), 0)) (by decide +kernel)) rfl ?_
  refine am_e_iaload (am_nxt_of (i := (17, 1, .iaload, (0, 0, 0), 0)) (by decide +kernel)) ac_k198 i0 q0 ek ?_
  refine am_e_istore_n (am_nxt_of (i := (18, 1, .istore_n 2, (0, 0, 0), 0)) (by decide +kernel)) (by decide +kernel) rfl ?_
  have hG : ab_gF (ab_sog F) (am_set ls 2 (.int k)) [] h := ab_setL_ok (two := false) hg.1 hg.2.1 hg.2.2 (ab_i_ok k0 k1)
  obtain ⟨K', hK', hS', hlt'⟩ := ab_exB_ok hx hK hF hg hI hG hI hJ hFr (ab_Eff_1 (fun d y e => by cases e)) hfx
  exact IH 13 K' hK' _ _ _ hS' hlt'
theorem ac_fits_hole {J : am_H → Prop} (hM : ∀ h, J h → ac_M6 h) {md fx : List (Nat × Nat)} {ct : List (Option ab_K)} {as : List Value} {h0 : am_H} {Q : Option Value → List am_k → am_H → Prop}
    (hw : ab_wkB ct 28 ([(0, (4, 0, 0, [164])), (1, ab_i 0 23)], [], []) = true) (hx1 : ab_exB ab_tab fx ct (fun F => F) ab_e0 28 47 = true) (hx : ab_exB ab_tab fx ct ab_fsg ab_e0 28 45 = true) : ab_Hole ab_tab J md fx am_m244 ct as h0 Q ab_rnk 28 := by
  intro K hK ls st h hst IH
  obtain ⟨⟨F, hF, hg⟩, hI, hJ, hFr, hfx⟩ := hst
  have hW := ab_wkB_ok hw hK hF hg
  have l0 := ab_locR hW (j := 0) (o := 164) (by simp)
  obtain ⟨c, l1, c0, c1⟩ := ab_locI hW (j := 1) (l := 0) (u := 23) (by simp)
  have hs0 := ab_st0 hW rfl
  subst hs0
  have m4 := ab_mul4 c0 (by omega)
  obtain ⟨q, hq⟩ : ∃ q : Nat, c.toInt = q := ⟨c.toInt.toNat, by omega⟩
  have i0 := ab_ix (x := (4 : Int32) * c) (n := 96) (by omega) (by omega)
  have q0 : ((4 : Int32) * c).toNatClampNeg = 4 * q := ab_clamp (by omega)
  have a1 : ((4 : Int32) * c + 1).toInt = 4 * c.toInt + 1 := by rw [ab_iadd (by rw [m4, show (1 : Int32).toInt = 1 by decide]; omega) (by rw [m4, show (1 : Int32).toInt = 1 by decide]; omega), m4, show (1 : Int32).toInt = 1 by decide]
  have i1 := ab_ix (x := (4 : Int32) * c + 1) (n := 96) (by omega) (by omega)
  have q1 : ((4 : Int32) * c + 1).toNatClampNeg = 4 * q + 1 := ab_clamp (by omega)
  obtain ⟨k, n, ek, k0, k1, en, hkn⟩ := hM h hJ q (by omega)
  refine am_e_aload_n (am_nxt_of (i := (48, 1, .aload_n 0, (0, 0, 0), 0)) (by decide +kernel)) l0 ?_
  refine am_e_getf (am_nxt_of (i := (49, 3, .getfield 121, (12, 75, 1459), 0)) (by decide +kernel)) ac_o (ac_f75 hI) ?_
  refine am_e_iconst (w := 4) (am_nxt_of (i := (52, 1, .iconst 4, (0, 0, 0), 0)) (by decide +kernel)) rfl ?_
  refine am_e_iload_n (am_nxt_of (i := (53, 1, .iload_n 1, (0, 0, 0), 0)) (by decide +kernel)) l1 ?_
  refine am_e_imul (am_nxt_of (i := (54, 1, .imul, (0, 0, 0), 0)) (by decide +kernel)) rfl ?_
  refine am_e_iaload (am_nxt_of (i := (55, 1, .iaload, (0, 0, 0), 0)) (by decide +kernel)) ac_k198 i0 q0 ek ?_
  by_cases hk : (k : Int32) < 0
  · refine am_e_ifF (am_nxt_of (i := (56, 3, .ifCond .ge 19, (47, 0, 0), 0)) (by decide +kernel)) (am_c_geF hk) ?_
    have hk' : k.toInt < 0 := Int32.lt_iff_toInt_lt.mp hk
    obtain ⟨n0, n1⟩ := hkn hk'
    refine am_e_aload_n (am_nxt_of (i := (59, 1, .aload_n 0, (0, 0, 0), 0)) (by decide +kernel)) l0 ?_
    refine am_e_getf (am_nxt_of (i := (60, 3, .getfield 124, (12, 76, 1460), 0)) (by decide +kernel)) ac_o (ac_f76 hI) ?_
    refine am_e_aload_n (am_nxt_of (i := (63, 1, .aload_n 0, (0, 0, 0), 0)) (by decide +kernel)) l0 ?_
    refine am_e_getf (am_nxt_of (i := (64, 3, .getfield 121, (12, 75, 1459), 0)) (by decide +kernel)) ac_o (ac_f75 hI) ?_
    refine am_e_iconst (w := 4) (am_nxt_of (i := (67, 1, .iconst 4, (0, 0, 0), 0)) (by decide +kernel)) rfl ?_
    refine am_e_iload_n (am_nxt_of (i := (68, 1, .iload_n 1, (0, 0, 0), 0)) (by decide +kernel)) l1 ?_
    refine am_e_imul (am_nxt_of (i := (69, 1, .imul, (0, 0, 0), 0)) (by decide +kernel)) rfl ?_
    refine am_e_iconst (w := 1) (am_nxt_of (i := (70, 1, .iconst 1, (0, 0, 0), 0)) (by decide +kernel)) rfl ?_
    refine am_e_iadd (am_nxt_of (i := (71, 1, .iadd, (0, 0, 0), 0)) (by decide +kernel)) rfl ?_
    refine am_e_iaload (am_nxt_of (i := (72, 1, .iaload, (0, 0, 0), 0)) (by decide +kernel)) ac_k198 i1 q1 en ?_
    have hG : ab_gF (ab_fsg F) ls [.int n, .ref 199] h := ⟨hg.1, ⟨ab_n_ok (ab_i_ok n0 n1), ab_rd_ok ⟨199, rfl, List.mem_singleton.mpr rfl⟩ (congrArg some (ac_f76 hI)), trivial⟩, hg.2.2⟩
    obtain ⟨K', hK', hS', hlt'⟩ := ab_exB_ok hx hK hF hg hI hG hI hJ hFr ab_Eff_0 hfx
    exact IH 45 K' hK' _ _ _ hS' hlt'
  · refine am_e_ifT (am_nxt_of (i := (56, 3, .ifCond .ge 19, (47, 0, 0), 0)) (by decide +kernel)) (am_c_geT hk) (am_tgt_of (by decide +kernel)) ?_
    obtain ⟨K', hK', hS', hlt'⟩ := ab_exB_ok hx1 hK hF hg hI hg hI hJ hFr ab_Eff_0 hfx
    exact IH 47 K' hK' _ _ _ hS' hlt'
