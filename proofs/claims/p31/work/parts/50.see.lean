/-! ===== HOLES OF THE CLASS: isSeen, wouldBeSeen, fitsLeak (wip/s/tpl/50.tpl) ===== -/
theorem ab_isSeen {h : am_H} {i : Int32} (hI : ab_Inv (ab_hi ab_tab) h) (i0 : 0 ≤ i.toInt) (i1 : i.toInt ≤ 23) : am_Ek false am_G0 am_m133 0 (lv_args 0 [.ref 142, .int i]) [] am_ks0 h 0 0 (fun r ks h' => ks = am_ks0 ∧ h' = h ∧ ((r = some (.int 1) ∧ ¬ h 143 i.toNatClampNeg = .int 2) ∨ r = some (.int 0))) := by
  have ho : am_ks0[142]? = some (.inl 7) := by decide +kernel
  have hk : am_ks0[143]? = some (.inr (.int, 24)) := by decide +kernel
  have hb : am_ks0[147]? = some (.inr (.boolean, 24)) := by decide +kernel
  have hsz : ab_sz (.inl 7) = 7 := rfl
  have f2 : h 142 2 = .ref 143 := ab_ref1 hI ho (by rw [hsz]; decide) (by decide +kernel)
  have f6 : h 142 6 = .ref 147 := ab_ref1 hI ho (by rw [hsz]; decide) (by decide +kernel)
  have hix := ab_ix (x := i) (n := 24) i0 (by omega)
  have hlt : i.toNatClampNeg < 24 := Nat.lt_of_not_le (fun q => hix (Or.inr q))
  have ga := hI 143 i.toNatClampNeg _ hk hlt
  rw [ab_hi_arr (show ab_isA ab_tab 143 = true by decide +kernel), show ab_hi ab_tab 143 0 = ab_i 0 2 by decide +kernel] at ga
  obtain ⟨kd, ek, -⟩ := ga
  have gb := hI 147 i.toNatClampNeg _ hb hlt
  rw [ab_hi_arr (show ab_isA ab_tab 147 = true by decide +kernel), show ab_hi ab_tab 147 0 = ab_i 0 1 by decide +kernel] at gb
  obtain ⟨sk, es, -⟩ := gb
  refine am_e_aload_n (am_nxt_of (i := (0, 1, .aload_n 0, (0, 0, 0), 0)) (by decide +kernel)) (v := 142) rfl ?_
  refine am_e_getf (am_nxt_of (i := (1, 3, .getfield 15, (7, 2, 534), 0)) (by decide +kernel)) ho f2 ?_
  refine am_e_iload_n (am_nxt_of (i := (4, 1, .iload_n 1, (0, 0, 0), 0)) (by decide +kernel)) (v := i) rfl ?_
  refine am_e_iaload (am_nxt_of (i := (5, 1, .iaload, (0, 0, 0), 0)) (by decide +kernel)) hk hix rfl ek ?_
  refine am_e_iconst (w := 2) (am_nxt_of (i := (6, 1, .iconst 2, (0, 0, 0), 0)) (by decide +kernel)) rfl ?_
  have h0 : am_Ek false am_G0 am_m133 13 (lv_args 0 [.ref 142, .int i]) [] am_ks0 h 0 0 (fun r ks h' => ks = am_ks0 ∧ h' = h ∧ ((r = some (.int 1) ∧ ¬ h 143 i.toNatClampNeg = .int 2) ∨ r = some (.int 0))) := by
    refine am_e_iconst (w := 0) (am_nxt_of (i := (23, 1, .iconst 0, (0, 0, 0), 0)) (by decide +kernel)) rfl ?_
    exact am_e_iret (ty := .boolean) (am_cur_of (i := (24, 1, .ireturn, (0, 0, 0), 0)) (by decide +kernel)) rfl rfl rfl ⟨rfl, rfl, Or.inr rfl⟩
  by_cases h2 : kd = 2
  · refine am_e_cmpT (am_nxt_of (i := (7, 3, .if_icmp .eq 16, (13, 0, 0), 0)) (by decide +kernel)) (am_c_eqT h2) (am_tgt_of (by decide +kernel)) ?_
    exact h0
  · refine am_e_cmpF (am_nxt_of (i := (7, 3, .if_icmp .eq 16, (13, 0, 0), 0)) (by decide +kernel)) (am_c_eqF h2) ?_
    refine am_e_aload_n (am_nxt_of (i := (10, 1, .aload_n 0, (0, 0, 0), 0)) (by decide +kernel)) (v := 142) rfl ?_
    refine am_e_getf (am_nxt_of (i := (11, 3, .getfield 28, (7, 6, 542), 0)) (by decide +kernel)) ho f6 ?_
    refine am_e_iload_n (am_nxt_of (i := (14, 1, .iload_n 1, (0, 0, 0), 0)) (by decide +kernel)) (v := i) rfl ?_
    refine am_e_baload (am_nxt_of (i := (15, 1, .baload, (0, 0, 0), 0)) (by decide +kernel)) hb hix rfl es ?_
    by_cases hz : sk = 0
    · refine am_e_ifF (am_nxt_of (i := (16, 3, .ifCond .ne 7, (13, 0, 0), 0)) (by decide +kernel)) (am_c_neF hz) ?_
      refine am_e_iconst (w := 1) (am_nxt_of (i := (19, 1, .iconst 1, (0, 0, 0), 0)) (by decide +kernel)) rfl ?_
      refine am_e_goto (am_cur_of (i := (20, 3, .goto 4, (14, 0, 0), 0)) (by decide +kernel)) (am_tgt_of (by decide +kernel)) ?_
      refine am_e_iret (ty := .boolean) (am_cur_of (i := (24, 1, .ireturn, (0, 0, 0), 0)) (by decide +kernel)) rfl rfl rfl ⟨rfl, rfl, Or.inl ⟨rfl, fun e => h2 ?_⟩⟩
      rw [ek] at e
      cases e
      rfl
    · refine am_e_ifT (am_nxt_of (i := (16, 3, .ifCond .ne 7, (13, 0, 0), 0)) (by decide +kernel)) (am_c_neT hz) (am_tgt_of (by decide +kernel)) ?_
      exact h0
theorem ab_disC0 {X : am_H → Prop} (hX : ab_XF X) : ∀ h h', ab_Fr [] h h' → ab_JX X h → ab_JX X h' := ab_JX_fr hX rfl
/-- the frame ahead of getUp -/
def ab_wg (F : ab_F) : ab_F := (F.1, [ab_n (ab_i 0 20), ab_n (ab_i 0 3), ab_n (4, 0, 0, [148])], F.2.2)
theorem ab_wbs_hole {X : am_H → Prop} (hX : ab_XF X) {md fx : List (Nat × Nat)} {ct : List (Option ab_K)} {as : List Value} {h0 : am_H} {Q : Option Value → List am_k → am_H → Prop} {sg : List ab_Sm} (hsg : ∀ s ∈ sg, ab_Con ab_tab (ab_JX X) s) (hf1 : (1, 1) ∈ fx) (hk2 : ∀ x : Int32, as[1]? = some (.int x) → ¬ h0 143 x.toNatClampNeg = .int 2) (hno : ab_no 143 md = true)
    (hw : ab_wkB ct 11 ([(0, (4, 0, 0, [0])), (1, ab_i 0 23)], [], []) = true)
    (hx : ab_exO ab_tab fx ct (fun F => ab_out ab_tab [] md sg am_m134 23 ((45, 3, .invokevirtual 293, (111, 1127, 3), 0) : am_I) (am_m134.2.2.2.drop 24) (ab_wg F)) 11 = true) : ab_Hole ab_tab (ab_JX X) md fx am_m134 ct as h0 Q ab_rnk 11 := by
  intro K hK ls st h hst IH
  obtain ⟨⟨F, hF, hg⟩, hI, hJ, hFr, hfx⟩ := hst
  have hW := ab_wkB_ok hw hK hF hg
  have l0 := ab_locR hW (j := 0) (o := 0) (by simp)
  obtain ⟨c, l1, c0, c1⟩ := ab_locI hW (j := 1) (l := 0) (u := 23) (by simp)
  obtain ⟨x, e1, e2⟩ := hfx (1, 1) hf1
  dsimp only at e1 e2
  rw [l1] at e2
  cases e2
  have hkd : ¬ h 143 c.toNatClampNeg = .int 2 := by
    rw [ab_no_ok hno hFr]
    exact hk2 c e1
  have hs0 := ab_st0 hW rfl
  subst hs0
  have hix := ab_ix (x := c) (n := 24) c0 (by omega)
  have hlt : c.toNatClampNeg < 24 := Nat.lt_of_not_le (fun q => hix (Or.inr q))
  obtain ⟨v, ev, v0, v3⟩ := hJ.1.2.2 _ hlt hkd
  have o0 : am_ks0[0]? = some (.inl 0) := by decide +kernel
  have o1 : am_ks0[142]? = some (.inl 7) := by decide +kernel
  have z0 : ab_sz (.inl 0) = 16 := rfl
  have z7 : ab_sz (.inl 7) = 7 := rfl
  have f11 : h 0 11 = .ref 148 := ab_ref1 hI o0 (by rw [z0]; decide) (by decide +kernel)
  have f10 : h 0 10 = .ref 142 := ab_ref1 hI o0 (by rw [z0]; decide) (by decide +kernel)
  have f3 : h 142 3 = .ref 144 := ab_ref1 hI o1 (by rw [z7]; decide) (by decide +kernel)
  have f4 : h 142 4 = .ref 145 := ab_ref1 hI o1 (by rw [z7]; decide) (by decide +kernel)
  have k4 : am_ks0[144]? = some (.inr (.int, 24)) := by decide +kernel
  have k5 : am_ks0[145]? = some (.inr (.int, 24)) := by decide +kernel
  have gb := hI 145 c.toNatClampNeg _ k5 hlt
  rw [ab_hi_arr (show ab_isA ab_tab 145 = true by decide +kernel), show ab_hi ab_tab 145 0 = ab_i 0 20 by decide +kernel] at gb
  obtain ⟨br, eb, b0, b1⟩ := gb
  refine am_e_aload_n (am_nxt_of (i := (23, 1, .aload_n 0, (0, 0, 0), 0)) (by decide +kernel)) l0 ?_
  refine am_e_getf (am_nxt_of (i := (24, 3, .getfield 64, (0, 11, 672), 0)) (by decide +kernel)) o0 f11 ?_
  refine am_e_aload_n (am_nxt_of (i := (27, 1, .aload_n 0, (0, 0, 0), 0)) (by decide +kernel)) l0 ?_
  refine am_e_getf (am_nxt_of (i := (28, 3, .getfield 57, (0, 10, 671), 0)) (by decide +kernel)) o0 f10 ?_
  refine am_e_getf (am_nxt_of (i := (31, 3, .getfield 353, (7, 3, 537), 0)) (by decide +kernel)) o1 f3 ?_
  refine am_e_iload_n (am_nxt_of (i := (34, 1, .iload_n 1, (0, 0, 0), 0)) (by decide +kernel)) l1 ?_
  refine am_e_iaload (am_nxt_of (i := (35, 1, .iaload, (0, 0, 0), 0)) (by decide +kernel)) k4 hix rfl ev ?_
  refine am_e_aload_n (am_nxt_of (i := (36, 1, .aload_n 0, (0, 0, 0), 0)) (by decide +kernel)) l0 ?_
  refine am_e_getf (am_nxt_of (i := (37, 3, .getfield 57, (0, 10, 671), 0)) (by decide +kernel)) o0 f10 ?_
  refine am_e_getf (am_nxt_of (i := (40, 3, .getfield 356, (7, 4, 539), 0)) (by decide +kernel)) o1 f4 ?_
  refine am_e_iload_n (am_nxt_of (i := (43, 1, .iload_n 1, (0, 0, 0), 0)) (by decide +kernel)) l1 ?_
  refine am_e_iaload (am_nxt_of (i := (44, 1, .iaload, (0, 0, 0), 0)) (by decide +kernel)) k5 hix rfl eb ?_
  have hG : ab_gF (ab_wg F) ls [.int br, .int v, .ref 148] h := ⟨hg.1, ⟨ab_n_ok (ab_i_ok b0 b1), ab_n_ok (ab_i_ok v0 v3), ab_n_ok ⟨148, rfl, List.mem_singleton.mpr rfl⟩, trivial⟩, hg.2.2⟩
  have hcd : am_m134.2.2.2.drop 23 = ((45, 3, .invokevirtual 293, (111, 1127, 3), 0) : am_I) :: am_m134.2.2.2.drop 24 := (am_cur_of (i := (45, 3, .invokevirtual 293, (111, 1127, 3), 0)) (by decide +kernel))
  exact ab_exO_ok hx hK hF hg hI hFr hfx (fun outs ho => ab_out_ok (nc := 0) (ns := 0) rfl (ab_disC0 hX) hsg hcd rfl hI hJ hG ho) IH
