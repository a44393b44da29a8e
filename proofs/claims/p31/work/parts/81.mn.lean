/-! ===== HOLES OF THE MODEL: mean (wip/s/tpl/81.tpl) ===== -/
def ab_mng (F : ab_F) : ab_F := match ab_nar F (0, 2) 0 2147483647 with
  | G => (G.1, [], ((174, 0), ab_i 1 99) :: G.2.2)
theorem ab_mean_hole {J : am_H → Prop} (hM : ∀ h, J h → ab_M4 h) {md fx : List (Nat × Nat)} {ct : List (Option ab_K)} {as : List Value} {h0 : am_H} {Q : Option Value → List am_k → am_H → Prop}
    (hw : ab_wkB ct 42 ([(2, ab_top)], [], [((165, 14), ab_i 1 6)]) = true) (hx1 : ab_exB ab_tab fx ct (fun F => F) ab_e0 42 44 = true) (hx2 : ab_exB ab_tab fx ct ab_mng ab_e0 42 46 = true) : ab_Hole ab_tab J md fx am_m234 ct as h0 Q ab_rnk 42 := by
  intro K hK ls st h hst IH
  obtain ⟨⟨F, hF, hg⟩, hI, hJ, hFr, hfx⟩ := hst
  have hW := ab_wkB_ok hw hK hF hg
  obtain ⟨t, l2, -, -⟩ := ab_locI hW (j := 2) (l := -2147483648) (u := 2147483647) (by simp [ab_i])
  obtain ⟨L, eL, L0, L1⟩ := ab_plI hW (o := 164) (k := 14) (l := 1) (u := 6) (by simp)
  have hs0 := ab_st0 hW rfl
  subst hs0
  obtain ⟨v, ev, v1⟩ := hM h hJ L eL L0
  have hw0 := ab_lw_ok hI (k := 0) (by decide)
  have ev0 : ab_lw h 0 = v := by
    have := hw0.1
    rw [ev] at this
    cases this
    rfl
  refine am_e_iload_n (am_nxt_of (i := (75, 1, .iload_n 2, (0, 0, 0), 0)) (by decide +kernel)) l2 ?_
  by_cases hlt : t < 0
  · refine am_e_ifF (am_nxt_of (i := (76, 3, .ifCond .ge 5, (46, 0, 0), 0)) (by decide +kernel)) (am_c_geF hlt) ?_
    obtain ⟨K', hK', hS', hlt'⟩ := ab_exB_ok hx1 hK hF hg hI hg hI hJ hFr ab_Eff_0 hfx
    exact IH 44 K' hK' _ _ _ hS' hlt'
  · refine am_e_ifT (am_nxt_of (i := (76, 3, .ifCond .ge 5, (46, 0, 0), 0)) (by decide +kernel)) (am_c_geT hlt) (am_tgt_of (by decide +kernel)) ?_
    rw [Int32.lt_iff_toInt_lt, show (0 : Int32).toInt = 0 by decide] at hlt
    have hn := ab_nar_ok (p := (0, 2)) (l := 0) (u := 2147483647) hg l2 (by omega) (ab_32 t).2
    have hG : ab_gF (ab_mng F) ls [] h := by
      refine ⟨hn.1, trivial, fun q hq => ?_⟩
      rcases List.mem_cons.mp hq with rfl | hq
      · refine ⟨.int v, congrArg some ev, ab_i_ok v1 ?_⟩
        rw [← ev0]
        exact hw0.2.2
      · exact hn.2.2 q hq
    obtain ⟨K', hK', hS', hlt'⟩ := ab_exB_ok hx2 hK hF hg hI hG hI hJ hFr ab_Eff_0 hfx
    exact IH 46 K' hK' _ _ _ hS' hlt'
