/-! ===== HOLES OF THE CLASS: fitsLeak (wip/s/tpl/51.tpl) ===== -/
def ab_fg (F : ab_F) : ab_F := (F.1, [ab_rd (ab_i (-1) 5) (0, 1), ab_rd (ab_i 0 23) (0, 3), ab_rd (4, 0, 0, [0]) (0, 0)], F.2.2)
def ab_preB (ct : List (Option ab_K)) (t : Nat) (W : List (ab_P × ab_V)) : Bool := match ab_getK ct t with
  | some K => K.1.all (fun F => ab_leP F.2.2 W)
  | none => false
theorem ab_preB_ok {ct : List (Option ab_K)} {t : Nat} {W : List (ab_P × ab_V)} {F : ab_F} {K : ab_K} {ls : am_L} {st : List Value} {h : am_H} (hw : ab_preB ct t W = true) (hK : ab_getK ct t = some K) (hF : F ∈ K.1) (hg : ab_gF F ls st h) : ab_gPl h W := by
  unfold ab_preB at hw
  rw [hK] at hw
  exact ab_leP_ok (List.all_eq_true.mp hw F hF) hg.2.2
theorem ab_fit_hole {X : am_H → Prop} {md fx : List (Nat × Nat)} {ct : List (Option ab_K)} {as : List Value} {h0 : am_H} {Q : Option Value → List am_k → am_H → Prop} {sw : ab_Sm}
    (hrun : ∀ (i l : Int32) (h : am_H), 0 ≤ i.toInt → i.toInt ≤ 23 → -1 ≤ l.toInt → l.toInt ≤ 5 → ab_Inv (ab_hi ab_tab) h → ab_JX X h → ab_gPl h sw.2.2.1 → ¬ h 143 i.toNatClampNeg = .int 2 → am_Ek false am_G0 am_m134 0 (lv_args 0 [.ref 0, .int i, .int l]) [] am_ks0 h 0 0 (fun r ks h' => ks = am_ks0 ∧ ab_Inv (ab_hi ab_tab) h' ∧ ab_JX X h' ∧ ab_Fr sw.2.2.2.1 h h' ∧ ∃ c ∈ sw.2.2.2.2, ab_gC c [.ref 0, .int i, .int l] r h'))
    (hw : ab_wkB ct 9 ([(0, (4, 0, 0, [0])), (1, ab_i (-1) 5), (3, ab_i 0 23)], [], []) = true) (hpre : ab_preB ct 9 sw.2.2.1 = true)
    (hx1 : ab_exB ab_tab fx ct (fun F => F) ab_e0 9 21 = true) (hx2 : ab_exO ab_tab fx ct (fun F => ab_call md [sw] am_m132 17 134 false (ab_fg F)) 9 = true) : ab_Hole ab_tab (ab_JX X) md fx am_m132 ct as h0 Q ab_rnk 9 := by
  intro K hK ls st h hst IH
  obtain ⟨⟨F, hF, hg⟩, hI, hJ, hFr, hfx⟩ := hst
  have hW := ab_wkB_ok hw hK hF hg
  have l0 := ab_locR hW (j := 0) (o := 0) (by simp)
  obtain ⟨l, l1, b0, b1⟩ := ab_locI hW (j := 1) (l := -1) (u := 5) (by simp)
  obtain ⟨i, l3, i0, i1⟩ := ab_locI hW (j := 3) (l := 0) (u := 23) (by simp)
  have hs0 := ab_st0 hW rfl
  subst hs0
  have o0 : am_ks0[0]? = some (.inl 0) := by decide +kernel
  have o1 : am_ks0[142]? = some (.inl 7) := by decide +kernel
  have z0 : ab_sz (.inl 0) = 16 := rfl
  have f10 : h 0 10 = .ref 142 := ab_ref1 hI o0 (by rw [z0]; decide) (by decide +kernel)
  refine am_e_aload_n (am_nxt_of (i := (15, 1, .aload_n 0, (0, 0, 0), 0)) (by decide +kernel)) l0 ?_
  refine am_e_getf (am_nxt_of (i := (16, 3, .getfield 57, (0, 10, 671), 0)) (by decide +kernel)) o0 f10 ?_
  refine am_e_iload_n (am_nxt_of (i := (19, 1, .iload_n 3, (0, 0, 0), 0)) (by decide +kernel)) l3 ?_
  refine am_e_callV (M' := am_m133) (o := 142) (ar := [.int i]) (rest := []) (L := lv_args 0 [.ref 142, .int i]) (am_nxt_of (i := (20, 3, .invokevirtual 346, (133, 1218, 3), 0)) (by decide +kernel)) rfl rfl rfl rfl o1 rfl rfl rfl ?_
  refine am_Ev_mono (ab_isSeen hI i0 i1) (fun r ks h' hq => ?_)
  obtain ⟨rfl, rfl, hq⟩ := hq
  rcases hq with ⟨rfl, hkd⟩ | rfl
  · show am_Ek false am_G0 am_m132 13 ls [.int 1] am_ks0 h' 0 0 Q
    refine am_e_ifF (am_nxt_of (i := (23, 3, .ifCond .eq 14, (21, 0, 0), 0)) (by decide +kernel)) (am_c_eqF (by decide)) ?_
    refine am_e_aload_n (am_nxt_of (i := (26, 1, .aload_n 0, (0, 0, 0), 0)) (by decide +kernel)) l0 ?_
    refine am_e_iload_n (am_nxt_of (i := (27, 1, .iload_n 3, (0, 0, 0), 0)) (by decide +kernel)) l3 ?_
    refine am_e_iload_n (am_nxt_of (i := (28, 1, .iload_n 1, (0, 0, 0), 0)) (by decide +kernel)) l1 ?_
    have hG : ab_gF (ab_fg F) ls [.int l, .int i, .ref 0] h' := ⟨hg.1, ⟨ab_rd_ok (ab_i_ok b0 b1) l1, ab_rd_ok (ab_i_ok i0 i1) l3, ab_rd_ok ⟨0, rfl, List.mem_singleton.mpr rfl⟩ l0, trivial⟩, hg.2.2⟩
    have hcd : am_m132.2.2.2.drop 17 = ((29, 3, .invokevirtual 349, (134, 1222, 3), 0) : am_I) :: am_m132.2.2.2.drop 18 := (am_cur_of (i := (29, 3, .invokevirtual 349, (134, 1222, 3), 0)) (by decide +kernel))
    exact ab_exO_ok hx2 hK hF hg hI hFr hfx (fun outs ho => ab_Go_callV1 (M' := am_m134) (s := sw) hcd (by decide +kernel) rfl rfl rfl (hrun i l h' i0 i1 b0 b1 hI hJ (ab_preB_ok hpre hK hF hg) hkd) hG ho) IH
  · show am_Ek false am_G0 am_m132 13 ls [.int 0] am_ks0 h' 0 0 Q
    refine am_e_ifT (am_nxt_of (i := (23, 3, .ifCond .eq 14, (21, 0, 0), 0)) (by decide +kernel)) (am_c_eqT rfl) (am_tgt_of (by decide +kernel)) ?_
    obtain ⟨K', hK', hS', hlt'⟩ := ab_exB_ok hx1 hK hF hg hI hg hI hJ hFr ab_Eff_0 hfx
    exact IH 21 K' hK' _ _ _ hS' hlt'
