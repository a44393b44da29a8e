/-! ===== HOLES OF THE MODEL: noted, isSo, fits (wip/s/tpl/82.tpl) ===== -/
def ab_M6 (h : am_H) : Prop := ∀ i, i < 24 → (∃ k : Int32, h 198 (4 * i) = .int k ∧ -1 ≤ k.toInt ∧ k.toInt ≤ 3) ∧ (∃ n : Int32, h 198 (4 * i + 1) = .int n ∧ 0 ≤ n.toInt ∧ n.toInt ≤ 23)
theorem ab_M6_up {h : am_H} {q : Nat} {v : Int32} (hm : ab_M6 h) (h0 : q % 4 = 0 → -1 ≤ v.toInt ∧ v.toInt ≤ 3) (h1 : q % 4 = 1 → 0 ≤ v.toInt ∧ v.toInt ≤ 23) : ab_M6 (am_up h 198 q (.int v)) := by
  intro i hi
  obtain ⟨a, b⟩ := hm i hi
  constructor
  · by_cases hq : 4 * i = q
    · subst hq
      rw [am_up_self]
      exact ⟨v, rfl, h0 (by omega)⟩
    · rw [am_up_same _ _ _ _ _ hq]
      exact a
  · by_cases hq : 4 * i + 1 = q
    · subst hq
      rw [am_up_self]
      exact ⟨v, rfl, h1 (by omega)⟩
    · rw [am_up_same _ _ _ _ _ hq]
      exact b
theorem ab_mul4 {c : Int32} (c0 : 0 ≤ c.toInt) (c1 : c.toInt ≤ 1000) : ((4 : Int32) * c).toInt = 4 * c.toInt := by
  rw [Int32.toInt_mul, show (4 : Int32).toInt = 4 by decide]
  exact ab_bm (by omega) (by omega)
theorem ab_noted_hole {J : am_H → Prop} (hJp : ∀ (h : am_H) (q : Nat) (v : Int32), J h → (q % 4 = 0 → -1 ≤ v.toInt ∧ v.toInt ≤ 3) → (q % 4 = 1 → 0 ≤ v.toInt ∧ v.toInt ≤ 23) → J (am_up h 198 q (.int v))) {md fx : List (Nat × Nat)} {ct : List (Option ab_K)} {as : List Value} {h0 : am_H} {Q : Option Value → List am_k → am_H → Prop}
    (hw : ab_wkB ct 0 ([(0, (4, 0, 0, [164])), (1, ab_i (-1) 3), (2, ab_i 0 23), (3, ab_i 0 9999), (4, ab_i 0 1)], [], [((165, 73), ab_i 0 23)]) = true) (hx : ab_exB ab_tab fx ct (fun F => ab_drop [(198, 0)] F F.2.1) (4, (0, 0), none, [(198, 0)]) 0 38 = true) (hm : ab_mdle [(198, 0)] md = true) : ab_Hole ab_tab J md fx am_m241 ct as h0 Q ab_rnk 0 := by
  intro K hK ls st h hst IH
  obtain ⟨⟨F, hF, hg⟩, hI, hJ, hFr, hfx⟩ := hst
  have hW := ab_wkB_ok hw hK hF hg
  have l0 := ab_locR hW (j := 0) (o := 164) (by simp)
  obtain ⟨k, l1, k0, k1⟩ := ab_locI hW (j := 1) (l := -1) (u := 3) (by simp)
  obtain ⟨n, l2, n0, n1⟩ := ab_locI hW (j := 2) (l := 0) (u := 23) (by simp)
  obtain ⟨f, l3, f0, f1⟩ := ab_locI hW (j := 3) (l := 0) (u := 9999) (by simp)
  obtain ⟨e, l4, e0, e1⟩ := ab_locI hW (j := 4) (l := 0) (u := 1) (by simp)
  obtain ⟨c, ec, c0, c1⟩ := ab_plI hW (o := 164) (k := 73) (l := 0) (u := 23) (by simp)
  have hs0 := ab_st0 hW rfl
  subst hs0
  have o1 : am_ks0[164]? = some (.inl 12) := by decide +kernel
  have kc : am_ks0[198]? = some (.inr (.int, 96)) := by decide +kernel
  have z : ab_sz (.inl 12) = 81 := rfl
  have f75 : h 164 75 = .ref 198 := ab_ref1 hI o1 (by rw [z]; decide) (by decide +kernel)
  have tc : ∀ q, ab_hi ab_tab 198 q = ab_top := fun q => (ab_hi_arr (by decide +kernel) q).trans (by decide +kernel)
  have m4 := ab_mul4 c0 (by omega)
  obtain ⟨q, hq⟩ : ∃ q : Nat, c.toInt = q := ⟨c.toInt.toNat, by omega⟩
  have a1 : ((4 : Int32) * c + 1).toInt = 4 * c.toInt + 1 := by rw [ab_iadd (by rw [m4, show (1 : Int32).toInt = 1 by decide]; omega) (by rw [m4, show (1 : Int32).toInt = 1 by decide]; omega), m4, show (1 : Int32).toInt = 1 by decide]
  have a2 : ((4 : Int32) * c + 2).toInt = 4 * c.toInt + 2 := by rw [ab_iadd (by rw [m4, show (2 : Int32).toInt = 2 by decide]; omega) (by rw [m4, show (2 : Int32).toInt = 2 by decide]; omega), m4, show (2 : Int32).toInt = 2 by decide]
  have a3 : ((4 : Int32) * c + 3).toInt = 4 * c.toInt + 3 := by rw [ab_iadd (by rw [m4, show (3 : Int32).toInt = 3 by decide]; omega) (by rw [m4, show (3 : Int32).toInt = 3 by decide]; omega), m4, show (3 : Int32).toInt = 3 by decide]
  have i0 := ab_ix (x := (4 : Int32) * c) (n := 96) (by omega) (by omega)
  have i1 := ab_ix (x := (4 : Int32) * c + 1) (n := 96) (by omega) (by omega)
  have i2 := ab_ix (x := (4 : Int32) * c + 2) (n := 96) (by omega) (by omega)
  have i3 := ab_ix (x := (4 : Int32) * c + 3) (n := 96) (by omega) (by omega)
  have q0 : ((4 : Int32) * c).toNatClampNeg = 4 * q := ab_clamp (by omega)
  have q1 : ((4 : Int32) * c + 1).toNatClampNeg = 4 * q + 1 := ab_clamp (by omega)
  have q2 : ((4 : Int32) * c + 2).toNatClampNeg = 4 * q + 2 := ab_clamp (by omega)
  have q3 : ((4 : Int32) * c + 3).toNatClampNeg = 4 * q + 3 := ab_clamp (by omega)
  have oth : ∀ (h' : am_H) (p : Nat) (v : Value) (j : Nat), am_up h' 198 p v 164 j = h' 164 j := fun h' p v j => by rw [am_up_other _ _ _ _ _ (by decide)]
  refine am_e_aload_n (am_nxt_of (i := (0, 1, .aload_n 0, (0, 0, 0), 0)) (by decide +kernel)) l0 ?_
  refine am_e_getf (am_nxt_of (i := (1, 3, .getfield 121, (12, 75, 1459), 0)) (by decide +kernel)) o1 f75 ?_
  refine am_e_iconst (w := 4) (am_nxt_of (i := (4, 1, .iconst 4, (0, 0, 0), 0)) (by decide +kernel)) rfl ?_
  refine am_e_aload_n (am_nxt_of (i := (5, 1, .aload_n 0, (0, 0, 0), 0)) (by decide +kernel)) l0 ?_
  refine am_e_getf (am_nxt_of (i := (6, 3, .getfield 368, (12, 73, 1457), 0)) (by decide +kernel)) o1 ec ?_
  refine am_e_imul (am_nxt_of (i := (9, 1, .imul, (0, 0, 0), 0)) (by decide +kernel)) rfl ?_
  refine am_e_iload_n (am_nxt_of (i := (10, 1, .iload_n 1, (0, 0, 0), 0)) (by decide +kernel)) l1 ?_
  refine am_e_iastore (am_nxt_of (i := (11, 1, .iastore, (0, 0, 0), 0)) (by decide +kernel)) kc i0 q0 ?_
  refine am_e_aload_n (am_nxt_of (i := (12, 1, .aload_n 0, (0, 0, 0), 0)) (by decide +kernel)) l0 ?_
  refine am_e_getf (am_nxt_of (i := (13, 3, .getfield 121, (12, 75, 1459), 0)) (by decide +kernel)) o1 ((oth _ _ _ _).trans f75) ?_
  refine am_e_iconst (w := 4) (am_nxt_of (i := (16, 1, .iconst 4, (0, 0, 0), 0)) (by decide +kernel)) rfl ?_
  refine am_e_aload_n (am_nxt_of (i := (17, 1, .aload_n 0, (0, 0, 0), 0)) (by decide +kernel)) l0 ?_
  refine am_e_getf (am_nxt_of (i := (18, 3, .getfield 368, (12, 73, 1457), 0)) (by decide +kernel)) o1 ((oth _ _ _ _).trans ec) ?_
  refine am_e_imul (am_nxt_of (i := (21, 1, .imul, (0, 0, 0), 0)) (by decide +kernel)) rfl ?_
  refine am_e_iconst (w := 1) (am_nxt_of (i := (22, 1, .iconst 1, (0, 0, 0), 0)) (by decide +kernel)) rfl ?_
  refine am_e_iadd (am_nxt_of (i := (23, 1, .iadd, (0, 0, 0), 0)) (by decide +kernel)) rfl ?_
  refine am_e_iload_n (am_nxt_of (i := (24, 1, .iload_n 2, (0, 0, 0), 0)) (by decide +kernel)) l2 ?_
  refine am_e_iastore (am_nxt_of (i := (25, 1, .iastore, (0, 0, 0), 0)) (by decide +kernel)) kc i1 q1 ?_
  refine am_e_aload_n (am_nxt_of (i := (26, 1, .aload_n 0, (0, 0, 0), 0)) (by decide +kernel)) l0 ?_
  refine am_e_getf (am_nxt_of (i := (27, 3, .getfield 121, (12, 75, 1459), 0)) (by decide +kernel)) o1 ((oth _ _ _ _).trans ((oth _ _ _ _).trans f75)) ?_
  refine am_e_iconst (w := 4) (am_nxt_of (i := (30, 1, .iconst 4, (0, 0, 0), 0)) (by decide +kernel)) rfl ?_
  refine am_e_aload_n (am_nxt_of (i := (31, 1, .aload_n 0, (0, 0, 0), 0)) (by decide +kernel)) l0 ?_
  refine am_e_getf (am_nxt_of (i := (32, 3, .getfield 368, (12, 73, 1457), 0)) (by decide +kernel)) o1 ((oth _ _ _ _).trans ((oth _ _ _ _).trans ec)) ?_
  refine am_e_imul (am_nxt_of (i := (35, 1, .imul, (0, 0, 0), 0)) (by decide +kernel)) rfl ?_
  refine am_e_iconst (w := 2) (am_nxt_of (i := (36, 1, .iconst 2, (0, 0, 0), 0)) (by decide +kernel)) rfl ?_
  refine am_e_iadd (am_nxt_of (i := (37, 1, .iadd, (0, 0, 0), 0)) (by decide +kernel)) rfl ?_
  refine am_e_iload_n (am_nxt_of (i := (38, 1, .iload_n 3, (0, 0, 0), 0)) (by decide +kernel)) l3 ?_
  refine am_e_iastore (am_nxt_of (i := (39, 1, .iastore, (0, 0, 0), 0)) (by decide +kernel)) kc i2 q2 ?_
  refine am_e_aload_n (am_nxt_of (i := (40, 1, .aload_n 0, (0, 0, 0), 0)) (by decide +kernel)) l0 ?_
  refine am_e_getf (am_nxt_of (i := (41, 3, .getfield 121, (12, 75, 1459), 0)) (by decide +kernel)) o1 ((oth _ _ _ _).trans ((oth _ _ _ _).trans ((oth _ _ _ _).trans f75))) ?_
  refine am_e_iconst (w := 4) (am_nxt_of (i := (44, 1, .iconst 4, (0, 0, 0), 0)) (by decide +kernel)) rfl ?_
  refine am_e_aload_n (am_nxt_of (i := (45, 1, .aload_n 0, (0, 0, 0), 0)) (by decide +kernel)) l0 ?_
  refine am_e_getf (am_nxt_of (i := (46, 3, .getfield 368, (12, 73, 1457), 0)) (by decide +kernel)) o1 ((oth _ _ _ _).trans ((oth _ _ _ _).trans ((oth _ _ _ _).trans ec))) ?_
  refine am_e_imul (am_nxt_of (i := (49, 1, .imul, (0, 0, 0), 0)) (by decide +kernel)) rfl ?_
  refine am_e_iconst (w := 3) (am_nxt_of (i := (50, 1, .iconst 3, (0, 0, 0), 0)) (by decide +kernel)) rfl ?_
  refine am_e_iadd (am_nxt_of (i := (51, 1, .iadd, (0, 0, 0), 0)) (by decide +kernel)) rfl ?_
  refine am_e_iload (am_nxt_of (i := (52, 2, .iload 4, (0, 0, 0), 0)) (by decide +kernel)) l4 ?_
  refine am_e_iastore (am_nxt_of (i := (54, 1, .iastore, (0, 0, 0), 0)) (by decide +kernel)) kc i3 q3 ?_
  have hfr : ab_Fr [(198, 0)] h (am_up (am_up (am_up (am_up h 198 (4 * q) (.int k)) 198 (4 * q + 1) (.int n)) 198 (4 * q + 2) (.int f)) 198 (4 * q + 3) (.int e)) := ab_Fr_up rfl (ab_Fr_up rfl (ab_Fr_up rfl (ab_Fr_up rfl ab_Fr_refl)))
  have hI' : ab_Inv (ab_hi ab_tab) (am_up (am_up (am_up (am_up h 198 (4 * q) (.int k)) 198 (4 * q + 1) (.int n)) 198 (4 * q + 2) (.int f)) 198 (4 * q + 3) (.int e)) := ab_Inv_up (ab_Inv_up (ab_Inv_up (ab_Inv_up hI (by rw [tc]; exact ab_top_ok _)) (by rw [tc]; exact ab_top_ok _)) (by rw [tc]; exact ab_top_ok _)) (by rw [tc]; exact ab_top_ok _)
  have hJ' := hJp _ (4 * q + 3) e (hJp _ (4 * q + 2) f (hJp _ (4 * q + 1) n (hJp h (4 * q) k hJ (fun _ => ⟨k0, k1⟩) (fun h' => by omega)) (fun h' => by omega) (fun _ => ⟨n0, n1⟩)) (fun h' => by omega) (fun h' => by omega)) (fun h' => by omega) (fun h' => by omega)
  obtain ⟨K', hK', hS', hlt'⟩ := ab_exB_ok hx hK hF hg hI (ab_drop_ok hg.1 hg.2.1 hg.2.2 hfr) hI' hJ' (ab_Fr_trans hFr (ab_mdle_Fr hm hfr)) (ab_Eff_4 hfr) hfx
  exact IH 38 K' hK' ls [] _ hS' hlt'
def ab_sog (F : ab_F) : ab_F := ab_setL F 2 false (ab_i (-1) 3) F.2.1
theorem ab_isSo_hole {J : am_H → Prop} (hM : ∀ h, J h → ab_M6 h) {md fx : List (Nat × Nat)} {ct : List (Option ab_K)} {as : List Value} {h0 : am_H} {Q : Option Value → List am_k → am_H → Prop}
    (hw : ab_wkB ct 6 ([(0, (4, 0, 0, [164])), (1, ab_i 0 23)], [], []) = true) (hx : ab_exB ab_tab fx ct ab_sog (1, (0, 2), none, []) 6 13 = true) : ab_Hole ab_tab J md fx am_m246 ct as h0 Q ab_rnk 6 := by
  intro K hK ls st h hst IH
  obtain ⟨⟨F, hF, hg⟩, hI, hJ, hFr, hfx⟩ := hst
  have hW := ab_wkB_ok hw hK hF hg
  have l0 := ab_locR hW (j := 0) (o := 164) (by simp)
  obtain ⟨c, l1, c0, c1⟩ := ab_locI hW (j := 1) (l := 0) (u := 23) (by simp)
  have hs0 := ab_st0 hW rfl
  subst hs0
  have o1 : am_ks0[164]? = some (.inl 12) := by decide +kernel
  have kc : am_ks0[198]? = some (.inr (.int, 96)) := by decide +kernel
  have z : ab_sz (.inl 12) = 81 := rfl
  have f75 : h 164 75 = .ref 198 := ab_ref1 hI o1 (by rw [z]; decide) (by decide +kernel)
  have m4 := ab_mul4 c0 (by omega)
  obtain ⟨q, hq⟩ : ∃ q : Nat, c.toInt = q := ⟨c.toInt.toNat, by omega⟩
  have i0 := ab_ix (x := (4 : Int32) * c) (n := 96) (by omega) (by omega)
  have q0 : ((4 : Int32) * c).toNatClampNeg = 4 * q := ab_clamp (by omega)
  obtain ⟨⟨k, ek, k0, k1⟩, -⟩ := hM h hJ q (by omega)
  refine am_e_aload_n (am_nxt_of (i := (10, 1, .aload_n 0, (0, 0, 0), 0)) (by decide +kernel)) l0 ?_
  refine am_e_getf (am_nxt_of (i := (11, 3, .getfield 121, (12, 75, 1459), 0)) (by decide +kernel)) o1 f75 ?_
  refine am_e_iconst (w := 4) (am_nxt_of (i := (14, 1, .iconst 4, (0, 0, 0), 0)) (by decide +kernel)) rfl ?_
  refine am_e_iload_n (am_nxt_of (i := (15, 1, .iload_n 1, (0, 0, 0), 0)) (by decide +kernel)) l1 ?_
  refine am_e_imul (am_nxt_of (i := (16, 1, .imul, (0, 0, 0), 0)) (by decide +kernel)) rfl ?_
  refine am_e_iaload (am_nxt_of (i := (17, 1, .iaload, (0, 0, 0), 0)) (by decide +kernel)) kc i0 q0 ek ?_
  refine am_e_istore_n (am_nxt_of (i := (18, 1, .istore_n 2, (0, 0, 0), 0)) (by decide +kernel)) (by decide +kernel) rfl ?_
  have hG : ab_gF (ab_sog F) (am_set ls 2 (.int k)) [] h := ab_setL_ok (two := false) hg.1 hg.2.1 hg.2.2 (ab_i_ok k0 k1)
  obtain ⟨K', hK', hS', hlt'⟩ := ab_exB_ok hx hK hF hg hI hG hI hJ hFr (ab_Eff_1 (fun d y e => by cases e)) hfx
  exact IH 13 K' hK' _ _ _ hS' hlt'
def ab_fsg (F : ab_F) : ab_F := (F.1, [ab_n (ab_i 0 23), ab_rd (4, 0, 0, [199]) (165, 76)], F.2.2)
theorem ab_fits_hole {J : am_H → Prop} (hM : ∀ h, J h → ab_M6 h) {md fx : List (Nat × Nat)} {ct : List (Option ab_K)} {as : List Value} {h0 : am_H} {Q : Option Value → List am_k → am_H → Prop}
    (hw : ab_wkB ct 35 ([(0, (4, 0, 0, [164])), (1, ab_i 0 23)], [], []) = true) (hx : ab_exB ab_tab fx ct ab_fsg ab_e0 35 45 = true) : ab_Hole ab_tab J md fx am_m244 ct as h0 Q ab_rnk 35 := by
  intro K hK ls st h hst IH
  obtain ⟨⟨F, hF, hg⟩, hI, hJ, hFr, hfx⟩ := hst
  have hW := ab_wkB_ok hw hK hF hg
  have l0 := ab_locR hW (j := 0) (o := 164) (by simp)
  obtain ⟨c, l1, c0, c1⟩ := ab_locI hW (j := 1) (l := 0) (u := 23) (by simp)
  have hs0 := ab_st0 hW rfl
  subst hs0
  have o1 : am_ks0[164]? = some (.inl 12) := by decide +kernel
  have kc : am_ks0[198]? = some (.inr (.int, 96)) := by decide +kernel
  have z : ab_sz (.inl 12) = 81 := rfl
  have f75 : h 164 75 = .ref 198 := ab_ref1 hI o1 (by rw [z]; decide) (by decide +kernel)
  have f76 : h 164 76 = .ref 199 := ab_ref1 hI o1 (by rw [z]; decide) (by decide +kernel)
  have m4 := ab_mul4 c0 (by omega)
  obtain ⟨q, hq⟩ : ∃ q : Nat, c.toInt = q := ⟨c.toInt.toNat, by omega⟩
  have a1 : ((4 : Int32) * c + 1).toInt = 4 * c.toInt + 1 := by rw [ab_iadd (by rw [m4, show (1 : Int32).toInt = 1 by decide]; omega) (by rw [m4, show (1 : Int32).toInt = 1 by decide]; omega), m4, show (1 : Int32).toInt = 1 by decide]
  have i1 := ab_ix (x := (4 : Int32) * c + 1) (n := 96) (by omega) (by omega)
  have q1 : ((4 : Int32) * c + 1).toNatClampNeg = 4 * q + 1 := ab_clamp (by omega)
  obtain ⟨-, n, en, n0, n1⟩ := hM h hJ q (by omega)
  refine am_e_aload_n (am_nxt_of (i := (59, 1, .aload_n 0, (0, 0, 0), 0)) (by decide +kernel)) l0 ?_
  refine am_e_getf (am_nxt_of (i := (60, 3, .getfield 124, (12, 76, 1460), 0)) (by decide +kernel)) o1 f76 ?_
  refine am_e_aload_n (am_nxt_of (i := (63, 1, .aload_n 0, (0, 0, 0), 0)) (by decide +kernel)) l0 ?_
  refine am_e_getf (am_nxt_of (i := (64, 3, .getfield 121, (12, 75, 1459), 0)) (by decide +kernel)) o1 f75 ?_
  refine am_e_iconst (w := 4) (am_nxt_of (i := (67, 1, .iconst 4, (0, 0, 0), 0)) (by decide +kernel)) rfl ?_
  refine am_e_iload_n (am_nxt_of (i := (68, 1, .iload_n 1, (0, 0, 0), 0)) (by decide +kernel)) l1 ?_
  refine am_e_imul (am_nxt_of (i := (69, 1, .imul, (0, 0, 0), 0)) (by decide +kernel)) rfl ?_
  refine am_e_iconst (w := 1) (am_nxt_of (i := (70, 1, .iconst 1, (0, 0, 0), 0)) (by decide +kernel)) rfl ?_
  refine am_e_iadd (am_nxt_of (i := (71, 1, .iadd, (0, 0, 0), 0)) (by decide +kernel)) rfl ?_
  refine am_e_iaload (am_nxt_of (i := (72, 1, .iaload, (0, 0, 0), 0)) (by decide +kernel)) kc i1 q1 en ?_
  have hG : ab_gF (ab_fsg F) ls [.int n, .ref 199] h := ⟨hg.1, ⟨ab_n_ok (ab_i_ok n0 n1), ab_rd_ok ⟨199, rfl, List.mem_singleton.mpr rfl⟩ (congrArg some f76), trivial⟩, hg.2.2⟩
  obtain ⟨K', hK', hS', hlt'⟩ := ab_exB_ok hx hK hF hg hI hG hI hJ hFr ab_Eff_0 hfx
  exact IH 45 K' hK' _ _ _ hS' hlt'
