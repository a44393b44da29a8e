/-! ===== HOLES OF THE MODEL: lawOf (wip/s/tpl/76.tpl) ===== -/
/-- a law that is told has a knot -/
def ab_M3 (h : am_H) : Prop := ∀ k, k < 3 → h 178 k = .int 1 → ∃ v : Int32, h 180 k = .int v ∧ 1 ≤ v.toInt ∧ v.toInt ≤ 64
theorem ab_mlaw_hole {J : am_H → Prop} (hM : ∀ h, J h → ab_M3 h) {md fx : List (Nat × Nat)} {ct : List (Option ab_K)} {as : List Value} {h0 : am_H} {Q : Option Value → List am_k → am_H → Prop} {w : Nat} (w3 : w < 3)
    (hw : ab_wkB ct 28 ([(0, (4, 0, 0, [164])), (1, ab_i w w)], [], [((179, w), ab_i 1 1)]) = true) (hx : ab_exB ab_tab fx ct (fun F => (F.1, [ab_n (1, 0, 0, [])], F.2.2)) ab_e0 28 37 = true) : ab_Hole ab_tab J md fx am_m191 ct as h0 Q ab_rnk 28 := by
  intro K hK ls st h hst IH
  obtain ⟨⟨F, hF, hg⟩, hI, hJ, hFr, hfx⟩ := hst
  have hW := ab_wkB_ok hw hK hF hg
  have l0 := ab_locR hW (j := 0) (o := 164) (by simp)
  obtain ⟨i, l1, i0, i1⟩ := ab_locI hW (j := 1) (l := w) (u := w) (by simp)
  obtain ⟨b, eb, b0, b1⟩ := ab_plI hW (o := 178) (k := w) (l := 1) (u := 1) (by simp)
  have hs0 := ab_st0 hW rfl
  subst hs0
  have b1' : b = 1 := Int32.toInt_inj.mp (by rw [show (1 : Int32).toInt = 1 by decide]; omega)
  subst b1'
  have o1 : am_ks0[164]? = some (.inl 12) := by decide +kernel
  have k0 : am_ks0[180]? = some (.inr (.int, 6)) := by decide +kernel
  have k7 : am_ks0[187]? = some (.inr (.long, 64)) := by decide +kernel
  have z : ab_sz (.inl 12) = 81 := rfl
  have f35 : h 164 35 = .ref 180 := ab_ref1 hI o1 (by rw [z]; decide) (by decide +kernel)
  have f48 : h 164 48 = .ref 187 := ab_ref1 hI o1 (by rw [z]; decide) (by decide +kernel)
  obtain ⟨v, ev, v0, v1⟩ := hM h hJ w w3 eb
  have hix := ab_ix (x := i) (n := 6) (by omega) (by omega)
  have hiw : i.toNatClampNeg = w := by
    show i.toInt.toNat = w
    omega
  have e1 : (v - 1).toInt = v.toInt - 1 := by
    have := ab_isub (x := v) (y := 1) (by rw [show (1 : Int32).toInt = 1 by decide]; omega) (by rw [show (1 : Int32).toInt = 1 by decide]; omega)
    rw [this, show (1 : Int32).toInt = 1 by decide]
  have hv := ab_ix (x := v - 1) (n := 64) (by omega) (by omega)
  have gn := hI 187 (v - 1).toNatClampNeg _ k7 (Nat.lt_of_not_le (fun q => hv (Or.inr q)))
  rw [ab_hi_arr (show ab_isA ab_tab 187 = true by decide +kernel), show ab_hi ab_tab 187 0 = (1, 0, 0, []) by decide +kernel] at gn
  obtain ⟨u, eu⟩ := gn
  refine am_e_aload_n (am_nxt_of (i := (50, 1, .aload_n 0, (0, 0, 0), 0)) (by decide +kernel)) l0 ?_
  refine am_e_getf (am_nxt_of (i := (51, 3, .getfield 82, (12, 48, 1432), 0)) (by decide +kernel)) o1 f48 ?_
  refine am_e_aload_n (am_nxt_of (i := (54, 1, .aload_n 0, (0, 0, 0), 0)) (by decide +kernel)) l0 ?_
  refine am_e_getf (am_nxt_of (i := (55, 3, .getfield 60, (12, 35, 1419), 0)) (by decide +kernel)) o1 f35 ?_
  refine am_e_iload_n (am_nxt_of (i := (58, 1, .iload_n 1, (0, 0, 0), 0)) (by decide +kernel)) l1 ?_
  refine am_e_iaload (am_nxt_of (i := (59, 1, .iaload, (0, 0, 0), 0)) (by decide +kernel)) k0 hix hiw ev ?_
  refine am_e_iconst (w := 1) (am_nxt_of (i := (60, 1, .iconst 1, (0, 0, 0), 0)) (by decide +kernel)) rfl ?_
  refine am_e_isub (am_nxt_of (i := (61, 1, .isub, (0, 0, 0), 0)) (by decide +kernel)) rfl ?_
  refine am_e_laload (am_nxt_of (i := (62, 1, .laload, (0, 0, 0), 0)) (by decide +kernel)) k7 hv rfl eu ?_
  obtain ⟨K', hK', hS', hlt'⟩ := ab_exB_ok (st' := [.long u]) hx hK hF hg hI ⟨hg.1, ⟨ab_n_ok ⟨u, rfl⟩, trivial⟩, hg.2.2⟩ hI hJ hFr ab_Eff_0 hfx
  exact IH 37 K' hK' _ _ _ hS' hlt'
