/-! ===== HOLES OF THE MODEL: valueOf (wip/s/tpl/75.tpl) ===== -/
/-- knots: a name is one of six, what is joined stands in the row of values -/
def ab_M2 (h : am_H) : Prop := ∀ k, k < 128 → ∀ x : Int32, h 181 k = .int x → (x = 1 → ∃ v : Int32, h 182 k = .int v ∧ 0 ≤ v.toInt ∧ v.toInt ≤ 5) ∧ (2 ≤ x.toInt → ∃ v : Int32, h 182 k = .int v ∧ 0 ≤ v.toInt ∧ v.toInt ≤ 63) ∧ (3 ≤ x.toInt → ∃ v : Int32, h 183 k = .int v ∧ 0 ≤ v.toInt ∧ v.toInt ≤ 63)
def ab_mg (F : ab_F) : ab_F := ab_setL F 2 true (1, 0, 0, []) F.2.1
theorem ab_mval_hole {J : am_H → Prop} (hM : ∀ h, J h → ab_M2 h) {md fx : List (Nat × Nat)} {ct : List (Option ab_K)} {as : List Value} {h0 : am_H} {Q : Option Value → List am_k → am_H → Prop}
    (hw : ab_wkB ct 0 ([(0, (4, 0, 0, [164])), (1, ab_i 0 63)], [], []) = true)
    (hx1 : ab_exB ab_tab fx ct (fun F => F) ab_e0 0 5 = true) (hx2 : ab_exB ab_tab fx ct (fun F => (F.1, [ab_n (1, 0, 0, [])], F.2.2)) ab_e0 0 24 = true) (hx3 : ab_exB ab_tab fx ct ab_mg (3, (0, 2), none, []) 0 39 = true) (hx4 : ab_exB ab_tab fx ct (fun F => ((ab_mg F).1, [ab_n (1, 0, 0, [])], (ab_mg F).2.2)) (3, (0, 2), none, []) 0 54 = true) : ab_Hole ab_tab J md fx am_m192 ct as h0 Q ab_rnk 0 := by
  intro K hK ls st h hst IH
  obtain ⟨⟨F, hF, hg⟩, hI, hJ, hFr, hfx⟩ := hst
  have hW := ab_wkB_ok hw hK hF hg
  have l0 := ab_locR hW (j := 0) (o := 164) (by simp)
  obtain ⟨i, l1, i0, i1⟩ := ab_locI hW (j := 1) (l := 0) (u := 63) (by simp)
  have hs0 := ab_st0 hW rfl
  subst hs0
  have o1 : am_ks0[164]? = some (.inl 12) := by decide +kernel
  have k1 : am_ks0[181]? = some (.inr (.int, 128)) := by decide +kernel
  have k2 : am_ks0[182]? = some (.inr (.int, 128)) := by decide +kernel
  have k3 : am_ks0[183]? = some (.inr (.int, 128)) := by decide +kernel
  have k6 : am_ks0[186]? = some (.inr (.long, 6)) := by decide +kernel
  have k7 : am_ks0[187]? = some (.inr (.long, 64)) := by decide +kernel
  have z : ab_sz (.inl 12) = 81 := rfl
  have f36 : h 164 36 = .ref 181 := ab_ref1 hI o1 (by rw [z]; decide) (by decide +kernel)
  have f37 : h 164 37 = .ref 182 := ab_ref1 hI o1 (by rw [z]; decide) (by decide +kernel)
  have f38 : h 164 38 = .ref 183 := ab_ref1 hI o1 (by rw [z]; decide) (by decide +kernel)
  have f47 : h 164 47 = .ref 186 := ab_ref1 hI o1 (by rw [z]; decide) (by decide +kernel)
  have f48 : h 164 48 = .ref 187 := ab_ref1 hI o1 (by rw [z]; decide) (by decide +kernel)
  have hix := ab_ix (x := i) (n := 128) i0 (by omega)
  have hlt : i.toNatClampNeg < 128 := Nat.lt_of_not_le (fun q => hix (Or.inr q))
  have ga := hI 181 i.toNatClampNeg _ k1 hlt
  rw [ab_hi_arr (show ab_isA ab_tab 181 = true by decide +kernel), show ab_hi ab_tab 181 0 = ab_i 0 14 by decide +kernel] at ga
  obtain ⟨x, ex, x0, x1⟩ := ga
  replace x0 : 0 ≤ x.toInt := x0
  have hJ2 := hM h hJ _ hlt x ex
  refine am_e_aload_n (am_nxt_of (i := (0, 1, .aload_n 0, (0, 0, 0), 0)) (by decide +kernel)) l0 ?_
  refine am_e_getf (am_nxt_of (i := (1, 3, .getfield 63, (12, 36, 1420), 0)) (by decide +kernel)) o1 f36 ?_
  refine am_e_iload_n (am_nxt_of (i := (4, 1, .iload_n 1, (0, 0, 0), 0)) (by decide +kernel)) l1 ?_
  refine am_e_iaload (am_nxt_of (i := (5, 1, .iaload, (0, 0, 0), 0)) (by decide +kernel)) k1 hix rfl ex ?_
  by_cases hz : x = 0
  · refine am_e_ifF (am_nxt_of (i := (6, 3, .ifCond .ne 11, (11, 0, 0), 0)) (by decide +kernel)) (am_c_neF hz) ?_
    obtain ⟨K', hK', hS', hlt'⟩ := ab_exB_ok hx1 hK hF hg hI hg hI hJ hFr ab_Eff_0 hfx
    exact IH 5 K' hK' _ _ _ hS' hlt'
  · have hz' : ¬ x.toInt = 0 := fun e => hz (Int32.toInt_inj.mp (by rw [e]; decide))
    refine am_e_ifT (am_nxt_of (i := (6, 3, .ifCond .ne 11, (11, 0, 0), 0)) (by decide +kernel)) (am_c_neT hz) (am_tgt_of (by decide +kernel)) ?_
    refine am_e_aload_n (am_nxt_of (i := (17, 1, .aload_n 0, (0, 0, 0), 0)) (by decide +kernel)) l0 ?_
    refine am_e_getf (am_nxt_of (i := (18, 3, .getfield 63, (12, 36, 1420), 0)) (by decide +kernel)) o1 f36 ?_
    refine am_e_iload_n (am_nxt_of (i := (21, 1, .iload_n 1, (0, 0, 0), 0)) (by decide +kernel)) l1 ?_
    refine am_e_iaload (am_nxt_of (i := (22, 1, .iaload, (0, 0, 0), 0)) (by decide +kernel)) k1 hix rfl ex ?_
    refine am_e_iconst (w := 1) (am_nxt_of (i := (23, 1, .iconst 1, (0, 0, 0), 0)) (by decide +kernel)) rfl ?_
    by_cases h1 : x = 1
    · refine am_e_cmpF (am_nxt_of (i := (24, 3, .if_icmp .ne 15, (25, 0, 0), 0)) (by decide +kernel)) (am_c_neF h1) ?_
      obtain ⟨v, ev, v0, v1⟩ := hJ2.1 h1
      have hv := ab_ix (x := v) (n := 6) v0 (by omega)
      have gn := hI 186 v.toNatClampNeg _ k6 (Nat.lt_of_not_le (fun q => hv (Or.inr q)))
      rw [ab_hi_arr (show ab_isA ab_tab 186 = true by decide +kernel), show ab_hi ab_tab 186 0 = (1, 0, 0, []) by decide +kernel] at gn
      obtain ⟨w, ew⟩ := gn
      refine am_e_aload_n (am_nxt_of (i := (27, 1, .aload_n 0, (0, 0, 0), 0)) (by decide +kernel)) l0 ?_
      refine am_e_getf (am_nxt_of (i := (28, 3, .getfield 78, (12, 47, 1431), 0)) (by decide +kernel)) o1 f47 ?_
      refine am_e_aload_n (am_nxt_of (i := (31, 1, .aload_n 0, (0, 0, 0), 0)) (by decide +kernel)) l0 ?_
      refine am_e_getf (am_nxt_of (i := (32, 3, .getfield 66, (12, 37, 1421), 0)) (by decide +kernel)) o1 f37 ?_
      refine am_e_iload_n (am_nxt_of (i := (35, 1, .iload_n 1, (0, 0, 0), 0)) (by decide +kernel)) l1 ?_
      refine am_e_iaload (am_nxt_of (i := (36, 1, .iaload, (0, 0, 0), 0)) (by decide +kernel)) k2 hix rfl ev ?_
      refine am_e_laload (am_nxt_of (i := (37, 1, .laload, (0, 0, 0), 0)) (by decide +kernel)) k6 hv rfl ew ?_
      obtain ⟨K', hK', hS', hlt'⟩ := ab_exB_ok (st' := [.long w]) hx2 hK hF hg hI ⟨hg.1, ⟨ab_n_ok ⟨w, rfl⟩, trivial⟩, hg.2.2⟩ hI hJ hFr ab_Eff_0 hfx
      exact IH 24 K' hK' _ _ _ hS' hlt'
    · have h1' : ¬ x.toInt = 1 := fun e => h1 (Int32.toInt_inj.mp (by rw [e]; decide))
      refine am_e_cmpT (am_nxt_of (i := (24, 3, .if_icmp .ne 15, (25, 0, 0), 0)) (by decide +kernel)) (am_c_neT h1) (am_tgt_of (by decide +kernel)) ?_
      obtain ⟨v, ev, v0, v1⟩ := hJ2.2.1 (by omega)
      have hv := ab_ix (x := v) (n := 64) v0 (by omega)
      have gn := hI 187 v.toNatClampNeg _ k7 (Nat.lt_of_not_le (fun q => hv (Or.inr q)))
      rw [ab_hi_arr (show ab_isA ab_tab 187 = true by decide +kernel), show ab_hi ab_tab 187 0 = (1, 0, 0, []) by decide +kernel] at gn
      obtain ⟨w, ew⟩ := gn
      refine am_e_aload_n (am_nxt_of (i := (39, 1, .aload_n 0, (0, 0, 0), 0)) (by decide +kernel)) l0 ?_
      refine am_e_getf (am_nxt_of (i := (40, 3, .getfield 82, (12, 48, 1432), 0)) (by decide +kernel)) o1 f48 ?_
      refine am_e_aload_n (am_nxt_of (i := (43, 1, .aload_n 0, (0, 0, 0), 0)) (by decide +kernel)) l0 ?_
      refine am_e_getf (am_nxt_of (i := (44, 3, .getfield 66, (12, 37, 1421), 0)) (by decide +kernel)) o1 f37 ?_
      refine am_e_iload_n (am_nxt_of (i := (47, 1, .iload_n 1, (0, 0, 0), 0)) (by decide +kernel)) l1 ?_
      refine am_e_iaload (am_nxt_of (i := (48, 1, .iaload, (0, 0, 0), 0)) (by decide +kernel)) k2 hix rfl ev ?_
      refine am_e_laload (am_nxt_of (i := (49, 1, .laload, (0, 0, 0), 0)) (by decide +kernel)) k7 hv rfl ew ?_
      refine am_e_lstore_n (am_nxt_of (i := (50, 1, .lstore_n 2, (0, 0, 0), 0)) (by decide +kernel)) (by decide +kernel) rfl ?_
      have m0 : am_get (am_set2 ls 2 (.long w)) 0 = some (.ref 164) := ab_set2_in (by decide) (by decide) rfl l0
      have m1 : am_get (am_set2 ls 2 (.long w)) 1 = some (.int i) := ab_set2_in (by decide) (by decide) rfl l1
      have hG : ab_gF (ab_mg F) (am_set2 ls 2 (.long w)) [] h := ab_setL_ok (two := true) hg.1 hg.2.1 hg.2.2 ⟨w, rfl⟩
      refine am_e_aload_n (am_nxt_of (i := (51, 1, .aload_n 0, (0, 0, 0), 0)) (by decide +kernel)) m0 ?_
      refine am_e_getf (am_nxt_of (i := (52, 3, .getfield 63, (12, 36, 1420), 0)) (by decide +kernel)) o1 f36 ?_
      refine am_e_iload_n (am_nxt_of (i := (55, 1, .iload_n 1, (0, 0, 0), 0)) (by decide +kernel)) m1 ?_
      refine am_e_iaload (am_nxt_of (i := (56, 1, .iaload, (0, 0, 0), 0)) (by decide +kernel)) k1 hix rfl ex ?_
      refine am_e_iconst (w := 2) (am_nxt_of (i := (57, 1, .iconst 2, (0, 0, 0), 0)) (by decide +kernel)) rfl ?_
      by_cases h2 : x = 2
      · refine am_e_cmpF (am_nxt_of (i := (58, 3, .if_icmp .ne 15, (47, 0, 0), 0)) (by decide +kernel)) (am_c_neF h2) ?_
        obtain ⟨K', hK', hS', hlt'⟩ := ab_exB_ok hx3 hK hF hg hI hG hI hJ hFr ab_Eff_3 hfx
        exact IH 39 K' hK' _ _ _ hS' hlt'
      · have h2' : ¬ x.toInt = 2 := fun e => h2 (Int32.toInt_inj.mp (by rw [e]; decide))
        refine am_e_cmpT (am_nxt_of (i := (58, 3, .if_icmp .ne 15, (47, 0, 0), 0)) (by decide +kernel)) (am_c_neT h2) (am_tgt_of (by decide +kernel)) ?_
        obtain ⟨u, eu, u0, u1⟩ := hJ2.2.2 (by omega)
        have hu := ab_ix (x := u) (n := 64) u0 (by omega)
        have gu := hI 187 u.toNatClampNeg _ k7 (Nat.lt_of_not_le (fun q => hu (Or.inr q)))
        rw [ab_hi_arr (show ab_isA ab_tab 187 = true by decide +kernel), show ab_hi ab_tab 187 0 = (1, 0, 0, []) by decide +kernel] at gu
        obtain ⟨b, eb⟩ := gu
        refine am_e_aload_n (am_nxt_of (i := (73, 1, .aload_n 0, (0, 0, 0), 0)) (by decide +kernel)) m0 ?_
        refine am_e_getf (am_nxt_of (i := (74, 3, .getfield 82, (12, 48, 1432), 0)) (by decide +kernel)) o1 f48 ?_
        refine am_e_aload_n (am_nxt_of (i := (77, 1, .aload_n 0, (0, 0, 0), 0)) (by decide +kernel)) m0 ?_
        refine am_e_getf (am_nxt_of (i := (78, 3, .getfield 69, (12, 38, 1422), 0)) (by decide +kernel)) o1 f38 ?_
        refine am_e_iload_n (am_nxt_of (i := (81, 1, .iload_n 1, (0, 0, 0), 0)) (by decide +kernel)) m1 ?_
        refine am_e_iaload (am_nxt_of (i := (82, 1, .iaload, (0, 0, 0), 0)) (by decide +kernel)) k3 hix rfl eu ?_
        refine am_e_laload (am_nxt_of (i := (83, 1, .laload, (0, 0, 0), 0)) (by decide +kernel)) k7 hu rfl eb ?_
        obtain ⟨K', hK', hS', hlt'⟩ := ab_exB_ok (st' := [.long b]) hx4 hK hF hg hI ⟨hG.1, ⟨ab_n_ok ⟨b, rfl⟩, trivial⟩, hG.2.2⟩ hI hJ hFr ab_Eff_3 hfx
        exact IH 54 K' hK' _ _ _ hS' hlt'
