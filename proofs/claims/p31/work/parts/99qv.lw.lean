/-! ===== A LAW IN BOTH READERS (wip/r/gen99qv.py) ===== -/
theorem tk_semiM {a b c d : Int32} (h : tk a b c d) (ec_z : c = 4) (ed_z : d = 59) : a = 5 ∧ b = 59 := by
  rcases h with ⟨-, q⟩ | ⟨-, q⟩ | ⟨k, -, -, q, -⟩ | ⟨-, q, -⟩ | ⟨-, q, -⟩ | ⟨q1_z, q2_z, q3_z, q4_z⟩ | ⟨-, q⟩
  · exact absurd (q.symm.trans ec_z) (by decide)
  · rcases q with q | ⟨-, q⟩
    · exact absurd (q.symm.trans ec_z) (by decide)
    · exact absurd (q.symm.trans ed_z) (by decide)
  · exact absurd (q.symm.trans ec_z) (by decide)
  · exact absurd (q.symm.trans ec_z) (by decide)
  · exact absurd (q.symm.trans ec_z) (by decide)
  · exact ⟨q1_z, q3_z.trans ed_z⟩
  · rcases q with ⟨-, q, w⟩ | ⟨-, q, w⟩ | ⟨-, q, w⟩ | ⟨-, q, w⟩ | ⟨-, q, w⟩ | ⟨-, q, w⟩ | ⟨-, q, w⟩ | ⟨-, q, w⟩ | ⟨-, q, w⟩ | ⟨-, q, w⟩ | ⟨-, q, w⟩ | ⟨-, q, w⟩ | ⟨-, q, w⟩ <;> first | exact absurd (q.symm.trans ec_z) (by decide) | exact absurd (w.symm.trans ed_z) (by decide)
theorem tk_semiC {a b c d : Int32} (h : tk a b c d) (ea : a = 5) (eb : b = 59) : c = 4 ∧ d = 59 := by
  rcases h with ⟨q, -⟩ | ⟨q, -⟩ | ⟨k, -, q, -⟩ | ⟨q, -⟩ | ⟨q, -⟩ | ⟨q1_z, q2_z, q3_z, q4_z⟩ | ⟨q, -⟩
  case inr.inr.inr.inr.inr.inl => exact ⟨q2_z, q3_z.symm.trans eb⟩
  all_goals exact absurd (q.symm.trans ea) (by decide)
theorem tk_w17 {a b c d : Int32} (h : tk a b c d) (ea : a = 2) : (b = 0 ∧ c = 1 ∧ d = 0) ∨ (b = 1 ∧ c = 1 ∧ d = 1) ∨ (b = 2 ∧ c = 1 ∧ d = 2) ∨ (b = 3 ∧ c = 1 ∧ d = 3) ∨ (b = 4 ∧ c = 1 ∧ d = 4) ∨ (b = 5 ∧ c = 1 ∧ d = 5) ∨ (b = 6 ∧ c = 1 ∧ d = 6) ∨ (b = 7 ∧ c = 1 ∧ d = 7) ∨ (b = 8 ∧ c = 1 ∧ d = 8) ∨ (b = 9 ∧ c = 1 ∧ d = 9) ∨ (b = 10 ∧ c = 1 ∧ d = 10) ∨ (b = 11 ∧ c = 1 ∧ d = 11) ∨ (b = 12 ∧ c = 1 ∧ d = 15) ∨ (b = 13 ∧ c = 1 ∧ d = 16) ∨ (b = 14 ∧ c = 1 ∧ d = 17) ∨ (b = 15 ∧ c = 1 ∧ d = 18) ∨ (b = 16 ∧ c = 1 ∧ d = 19) := by
  rcases h with ⟨q, -⟩ | ⟨q, -⟩ | ⟨k, hk_z, q1_z, q2_z, q3_z, q4_z⟩ | ⟨q, -⟩ | ⟨q, -⟩ | ⟨q, -⟩ | ⟨q, -⟩
  case inr.inr.inl =>
    have h6_z : k = 0 ∨ k = 1 ∨ k = 2 ∨ k = 3 ∨ k = 4 ∨ k = 5 ∨ k = 6 ∨ k = 7 ∨ k = 8 ∨ k = 9 ∨ k = 10 ∨ k = 11 ∨ k = 12 ∨ k = 13 ∨ k = 14 ∨ k = 15 ∨ k = 16 := by omega
    rcases h6_z with rfl | rfl | rfl | rfl | rfl | rfl | rfl | rfl | rfl | rfl | rfl | rfl | rfl | rfl | rfl | rfl | rfl
    · exact Or.inl ⟨q3_z.trans (by decide), q2_z, q4_z.trans (by decide)⟩
    · exact Or.inr (Or.inl ⟨q3_z.trans (by decide), q2_z, q4_z.trans (by decide)⟩)
    · exact Or.inr (Or.inr (Or.inl ⟨q3_z.trans (by decide), q2_z, q4_z.trans (by decide)⟩))
    · exact Or.inr (Or.inr (Or.inr (Or.inl ⟨q3_z.trans (by decide), q2_z, q4_z.trans (by decide)⟩)))
    · exact Or.inr (Or.inr (Or.inr (Or.inr (Or.inl ⟨q3_z.trans (by decide), q2_z, q4_z.trans (by decide)⟩))))
    · exact Or.inr (Or.inr (Or.inr (Or.inr (Or.inr (Or.inl ⟨q3_z.trans (by decide), q2_z, q4_z.trans (by decide)⟩)))))
    · exact Or.inr (Or.inr (Or.inr (Or.inr (Or.inr (Or.inr (Or.inl ⟨q3_z.trans (by decide), q2_z, q4_z.trans (by decide)⟩))))))
    · exact Or.inr (Or.inr (Or.inr (Or.inr (Or.inr (Or.inr (Or.inr (Or.inl ⟨q3_z.trans (by decide), q2_z, q4_z.trans (by decide)⟩)))))))
    · exact Or.inr (Or.inr (Or.inr (Or.inr (Or.inr (Or.inr (Or.inr (Or.inr (Or.inl ⟨q3_z.trans (by decide), q2_z, q4_z.trans (by decide)⟩))))))))
    · exact Or.inr (Or.inr (Or.inr (Or.inr (Or.inr (Or.inr (Or.inr (Or.inr (Or.inr (Or.inl ⟨q3_z.trans (by decide), q2_z, q4_z.trans (by decide)⟩)))))))))
    · exact Or.inr (Or.inr (Or.inr (Or.inr (Or.inr (Or.inr (Or.inr (Or.inr (Or.inr (Or.inr (Or.inl ⟨q3_z.trans (by decide), q2_z, q4_z.trans (by decide)⟩))))))))))
    · exact Or.inr (Or.inr (Or.inr (Or.inr (Or.inr (Or.inr (Or.inr (Or.inr (Or.inr (Or.inr (Or.inr (Or.inl ⟨q3_z.trans (by decide), q2_z, q4_z.trans (by decide)⟩)))))))))))
    · exact Or.inr (Or.inr (Or.inr (Or.inr (Or.inr (Or.inr (Or.inr (Or.inr (Or.inr (Or.inr (Or.inr (Or.inr (Or.inl ⟨q3_z.trans (by decide), q2_z, q4_z.trans (by decide)⟩))))))))))))
    · exact Or.inr (Or.inr (Or.inr (Or.inr (Or.inr (Or.inr (Or.inr (Or.inr (Or.inr (Or.inr (Or.inr (Or.inr (Or.inr (Or.inl ⟨q3_z.trans (by decide), q2_z, q4_z.trans (by decide)⟩)))))))))))))
    · exact Or.inr (Or.inr (Or.inr (Or.inr (Or.inr (Or.inr (Or.inr (Or.inr (Or.inr (Or.inr (Or.inr (Or.inr (Or.inr (Or.inr (Or.inl ⟨q3_z.trans (by decide), q2_z, q4_z.trans (by decide)⟩))))))))))))))
    · exact Or.inr (Or.inr (Or.inr (Or.inr (Or.inr (Or.inr (Or.inr (Or.inr (Or.inr (Or.inr (Or.inr (Or.inr (Or.inr (Or.inr (Or.inr (Or.inl ⟨q3_z.trans (by decide), q2_z, q4_z.trans (by decide)⟩)))))))))))))))
    · exact Or.inr (Or.inr (Or.inr (Or.inr (Or.inr (Or.inr (Or.inr (Or.inr (Or.inr (Or.inr (Or.inr (Or.inr (Or.inr (Or.inr (Or.inr (Or.inr (⟨q3_z.trans (by decide), q2_z, q4_z.trans (by decide)⟩))))))))))))))))
  all_goals exact absurd (q.symm.trans ea) (by decide)
theorem tk_nw {a b c d : Int32} (h : tk a b c d) (ea : ¬ a = 2) (ec_z : c = 1) : 11 < d.toInt := by
  rcases h with ⟨-, q⟩ | ⟨-, q⟩ | ⟨k, -, q, -⟩ | ⟨-, q, -⟩ | ⟨-, q, -⟩ | ⟨-, q, -⟩ | ⟨-, q⟩
  · exact absurd (q.symm.trans ec_z) (by decide)
  · rcases q with q | ⟨q, -⟩ <;> exact absurd (q.symm.trans ec_z) (by decide)
  · exact absurd q ea
  · exact absurd (q.symm.trans ec_z) (by decide)
  · exact absurd (q.symm.trans ec_z) (by decide)
  · exact absurd (q.symm.trans ec_z) (by decide)
  · rcases q with ⟨-, q, w⟩ | ⟨-, q, w⟩ | ⟨-, q, w⟩ | ⟨-, q, w⟩ | ⟨-, q, w⟩ | ⟨-, q, w⟩ | ⟨-, q, w⟩ | ⟨-, q, w⟩ | ⟨-, q, w⟩ | ⟨-, q, w⟩ | ⟨-, q, w⟩ | ⟨-, q, w⟩ | ⟨-, q, w⟩ <;> first | exact absurd (q.symm.trans ec_z) (by decide) | (rw [w]; decide)
theorem rv_end {n : Nat} {h h' : am_H} {r : Option Value} {wd : Int32} (hf_z : rg_v h 44 1 = 0) (hk_z : rg_v h 44 10 = 0) (hc_z : rn n am_m51 0 (lv_args 0 [.ref 44, .int wd]) [] h r h') : rg_v h' 44 1 = 1 := by
  have g0_z : am_get (lv_args 0 [.ref 44, .int wd]) 0 = some (.ref 44) := rfl
  have g1_z : am_get (lv_args 0 [.ref 44, .int wd]) 1 = some (.int wd) := rfl
  replace hc_z := rn_aload_n (am_cur_of (i := (0, 1, .aload_n 0, (0, 0, 0), 0)) (by decide +kernel)) g0_z hc_z
  replace hc_z := rn_getI (v := 0) (am_cur_of (i := (1, 3, .getfield 60, (4, 10, 419), 0)) (by decide +kernel)) (by decide +kernel) hk_z hc_z
  replace hc_z := rn_bipush (w := 6) (am_cur_of (i := (4, 2, .bipush 6, (0, 0, 0), 0)) (by decide +kernel)) (by decide) hc_z
  replace hc_z := rn_cmpT (am_cur_of (i := (6, 3, .if_icmp .ne 30, (19, 0, 0), 0)) (by decide +kernel)) (by decide) hc_z
  replace hc_z := rn_aload_n (am_cur_of (i := (36, 1, .aload_n 0, (0, 0, 0), 0)) (by decide +kernel)) g0_z hc_z
  replace hc_z := rn_bipush (w := 40) (am_cur_of (i := (37, 2, .bipush 40, (0, 0, 0), 0)) (by decide +kernel)) (by decide) hc_z
  replace hc_z := rn_callV (M' := am_m45) (o := 44) (ar := [.int 40]) (rest := []) (L := lv_args 0 [.ref 44, .int 40]) (am_cur_of (i := (39, 3, .invokevirtual 105, (45, 834, 3), 0)) (by decide +kernel)) rfl rfl rfl rfl hc_z
  obtain ⟨r3904_z, h3905_z, q3906_z, hc_z⟩ := hc_z
  obtain ⟨rfl, yq3906_z⟩ := rp_mkN (fun q => absurd (Eq.trans (Eq.symm hk_z) q.1) (by decide)) q3906_z
  subst yq3906_z
  replace hc_z : rn _ _ _ _ [.int 0] _ _ _ := hc_z
  replace hc_z := rn_ifT (am_cur_of (i := (42, 3, .ifCond .eq 38, (43, 0, 0), 0)) (by decide +kernel)) (by decide) hc_z
  replace hc_z := rn_aload_n (am_cur_of (i := (80, 1, .aload_n 0, (0, 0, 0), 0)) (by decide +kernel)) g0_z hc_z
  replace hc_z := rn_getI (v := 0) (am_cur_of (i := (81, 3, .getfield 60, (4, 10, 419), 0)) (by decide +kernel)) (by decide +kernel) hk_z hc_z
  replace hc_z := rn_iconst (w := 4) (am_cur_of (i := (84, 1, .iconst 4, (0, 0, 0), 0)) (by decide +kernel)) (by decide) hc_z
  replace hc_z := rn_cmpT (am_cur_of (i := (85, 3, .if_icmp .ne 40, (64, 0, 0), 0)) (by decide +kernel)) (by decide) hc_z
  replace hc_z := rn_aload_n (am_cur_of (i := (125, 1, .aload_n 0, (0, 0, 0), 0)) (by decide +kernel)) g0_z hc_z
  replace hc_z := rn_getI (v := 0) (am_cur_of (i := (126, 3, .getfield 60, (4, 10, 419), 0)) (by decide +kernel)) (by decide +kernel) hk_z hc_z
  replace hc_z := rn_iconst (w := 2) (am_cur_of (i := (129, 1, .iconst 2, (0, 0, 0), 0)) (by decide +kernel)) (by decide) hc_z
  replace hc_z := rn_cmpT (am_cur_of (i := (130, 3, .if_icmp .ne 37, (84, 0, 0), 0)) (by decide +kernel)) (by decide) hc_z
  replace hc_z := rn_aload_n (am_cur_of (i := (167, 1, .aload_n 0, (0, 0, 0), 0)) (by decide +kernel)) g0_z hc_z
  replace hc_z := rn_iconst (w := 1) (am_cur_of (i := (168, 1, .iconst 1, (0, 0, 0), 0)) (by decide +kernel)) (by decide) hc_z
  replace hc_z := rn_callV (M' := am_m29) (o := 44) (ar := [.int 1]) (rest := []) (L := lv_args 0 [.ref 44, .int 1]) (am_cur_of (i := (169, 3, .invokevirtual 108, (29, 769, 3), 0)) (by decide +kernel)) rfl rfl rfl rfl hc_z
  obtain ⟨r3907_z, h3908_z, q3909_z, hc_z⟩ := hc_z
  obtain ⟨rfl, yq3909_z⟩ := rp_fail hf_z q3909_z
  subst yq3909_z
  replace hc_z : rn _ _ _ _ [] _ _ _ := hc_z
  exact (rs_stick (w := 1) (a := 51) (by decide) (by decide) rfl (by decide) rfl rfl hc_z).1
theorem rj_end {n : Nat} {h h' : am_H} {r : Option Value} (hf_z : rg_v h 44 1 = 0) (hk_z : rg_v h 44 10 = 0) (hc_z : rn n am_m44 0 (lv_args 0 [.ref 44]) [] h r h') : rg_v h' 44 1 = 1 ∨ r = some (.int 3) := by
  have z0_z : (0 : Int32).toInt = 0 := by decide
  have g0_z : am_get (lv_args 0 [.ref 44]) 0 = some (.ref 44) := rfl
  replace hc_z := rn_aload_n (am_cur_of (i := (0, 1, .aload_n 0, (0, 0, 0), 0)) (by decide +kernel)) g0_z hc_z
  replace hc_z := rn_bipush (w := 41) (am_cur_of (i := (1, 2, .bipush 41, (0, 0, 0), 0)) (by decide +kernel)) (by decide) hc_z
  replace hc_z := rn_callV (M' := am_m45) (o := 44) (ar := [.int 41]) (rest := []) (L := lv_args 0 [.ref 44, .int 41]) (am_cur_of (i := (3, 3, .invokevirtual 105, (45, 834, 3), 0)) (by decide +kernel)) rfl rfl rfl rfl hc_z
  obtain ⟨r3910_z, h3911_z, q3912_z, hc_z⟩ := hc_z
  obtain ⟨rfl, yq3912_z⟩ := rp_mkN (fun q => absurd (Eq.trans (Eq.symm hk_z) q.1) (by decide)) q3912_z
  subst yq3912_z
  replace hc_z : rn _ _ _ _ [.int 0] _ _ _ := hc_z
  replace hc_z := rn_ifT (am_cur_of (i := (6, 3, .ifCond .eq 45, (28, 0, 0), 0)) (by decide +kernel)) (by decide) hc_z
  replace hc_z := rn_aload_n (am_cur_of (i := (51, 1, .aload_n 0, (0, 0, 0), 0)) (by decide +kernel)) g0_z hc_z
  replace hc_z := rn_getI (v := 0) (am_cur_of (i := (52, 3, .getfield 60, (4, 10, 419), 0)) (by decide +kernel)) (by decide +kernel) hk_z hc_z
  replace hc_z := rn_bipush (w := 6) (am_cur_of (i := (55, 2, .bipush 6, (0, 0, 0), 0)) (by decide +kernel)) (by decide) hc_z
  replace hc_z := rn_cmpT (am_cur_of (i := (57, 3, .if_icmp .ne 11, (36, 0, 0), 0)) (by decide +kernel)) (by decide) hc_z
  replace hc_z := rn_aload_n (am_cur_of (i := (68, 1, .aload_n 0, (0, 0, 0), 0)) (by decide +kernel)) g0_z hc_z
  replace hc_z := rn_getI (v := rg_v h 44 14) (am_cur_of (i := (69, 3, .getfield 254, (4, 14, 423), 0)) (by decide +kernel)) (by decide +kernel) rfl hc_z
  replace hc_z := rn_if (am_cur_of (i := (72, 3, .ifCond .le 8, (42, 0, 0), 0)) (by decide +kernel)) hc_z
  rcases hc_z with ⟨b3913_z, hc_z⟩ | ⟨b3913_z, hc_z⟩
  · replace b3913_z : (rg_v h 44 14).toInt ≤ (0 : Int32).toInt := b3913_z
    replace hc_z := rn_iconst (w := 3) (am_cur_of (i := (80, 1, .iconst 3, (0, 0, 0), 0)) (by decide +kernel)) (by decide) hc_z
    replace hc_z := rn_iret (am_cur_of (i := (81, 1, .ireturn, (0, 0, 0), 0)) (by decide +kernel)) hc_z
    obtain ⟨e3914_z, e3915_z⟩ := hc_z
    exact Or.inr e3914_z
  · replace b3913_z : (0 : Int32).toInt < (rg_v h 44 14).toInt := b3913_z
    replace hc_z := rn_aload_n (am_cur_of (i := (75, 1, .aload_n 0, (0, 0, 0), 0)) (by decide +kernel)) g0_z hc_z
    replace hc_z := rn_iconst (w := 1) (am_cur_of (i := (76, 1, .iconst 1, (0, 0, 0), 0)) (by decide +kernel)) (by decide) hc_z
    replace hc_z := rn_callV (M' := am_m29) (o := 44) (ar := [.int 1]) (rest := []) (L := lv_args 0 [.ref 44, .int 1]) (am_cur_of (i := (77, 3, .invokevirtual 108, (29, 769, 3), 0)) (by decide +kernel)) rfl rfl rfl rfl hc_z
    obtain ⟨r3916_z, h3917_z, q3918_z, hc_z⟩ := hc_z
    obtain ⟨rfl, yq3918_z⟩ := rp_fail hf_z q3918_z
    subst yq3918_z
    replace hc_z : rn _ _ _ _ [] _ _ _ := hc_z
    exact Or.inl (rs_stick (w := 1) (a := 44) (by decide) (by decide) rfl (by decide) rfl rfl hc_z).1
theorem rj_semi {n : Nat} {h h' : am_H} {r : Option Value} (hk_z : rg_v h 44 10 = 5) (hv_z : rg_v h 44 11 = 59) (ho : rg_v h 44 14 = 0) (hc_z : rn n am_m44 0 (lv_args 0 [.ref 44]) [] h r h') : r = some (.int 3) ∧ h' = h := by
  have g0_z : am_get (lv_args 0 [.ref 44]) 0 = some (.ref 44) := rfl
  replace hc_z := rn_aload_n (am_cur_of (i := (0, 1, .aload_n 0, (0, 0, 0), 0)) (by decide +kernel)) g0_z hc_z
  replace hc_z := rn_bipush (w := 41) (am_cur_of (i := (1, 2, .bipush 41, (0, 0, 0), 0)) (by decide +kernel)) (by decide) hc_z
  replace hc_z := rn_callV (M' := am_m45) (o := 44) (ar := [.int 41]) (rest := []) (L := lv_args 0 [.ref 44, .int 41]) (am_cur_of (i := (3, 3, .invokevirtual 105, (45, 834, 3), 0)) (by decide +kernel)) rfl rfl rfl rfl hc_z
  obtain ⟨r3919_z, h3920_z, q3921_z, hc_z⟩ := hc_z
  obtain ⟨rfl, yq3921_z⟩ := rp_mkN (fun q => absurd (Eq.trans (Eq.symm hv_z) q.2) (by decide)) q3921_z
  subst yq3921_z
  replace hc_z : rn _ _ _ _ [.int 0] _ _ _ := hc_z
  replace hc_z := rn_ifT (am_cur_of (i := (6, 3, .ifCond .eq 45, (28, 0, 0), 0)) (by decide +kernel)) (by decide) hc_z
  replace hc_z := rn_aload_n (am_cur_of (i := (51, 1, .aload_n 0, (0, 0, 0), 0)) (by decide +kernel)) g0_z hc_z
  replace hc_z := rn_getI (v := 5) (am_cur_of (i := (52, 3, .getfield 60, (4, 10, 419), 0)) (by decide +kernel)) (by decide +kernel) hk_z hc_z
  replace hc_z := rn_bipush (w := 6) (am_cur_of (i := (55, 2, .bipush 6, (0, 0, 0), 0)) (by decide +kernel)) (by decide) hc_z
  replace hc_z := rn_cmpT (am_cur_of (i := (57, 3, .if_icmp .ne 11, (36, 0, 0), 0)) (by decide +kernel)) (by decide) hc_z
  replace hc_z := rn_aload_n (am_cur_of (i := (68, 1, .aload_n 0, (0, 0, 0), 0)) (by decide +kernel)) g0_z hc_z
  replace hc_z := rn_getI (v := 0) (am_cur_of (i := (69, 3, .getfield 254, (4, 14, 423), 0)) (by decide +kernel)) (by decide +kernel) ho hc_z
  replace hc_z := rn_ifT (am_cur_of (i := (72, 3, .ifCond .le 8, (42, 0, 0), 0)) (by decide +kernel)) (by decide) hc_z
  replace hc_z := rn_iconst (w := 3) (am_cur_of (i := (80, 1, .iconst 3, (0, 0, 0), 0)) (by decide +kernel)) (by decide) hc_z
  replace hc_z := rn_iret (am_cur_of (i := (81, 1, .ireturn, (0, 0, 0), 0)) (by decide +kernel)) hc_z
  obtain ⟨e3922_z, e3923_z⟩ := hc_z
  exact ⟨e3922_z, e3923_z⟩
theorem sr_wants {n : Nat} {ls : am_L} {g g' : am_H} {r : Option Value} (w1_z : rg_v g 164 45 = 1) (g0m : am_get ls 0 = some (.ref 164)) (hm_z : rn n am_m170 15 ls [] g r g') : rn n am_m170 28 ls [] g r g' := by
  replace hm_z := rn_aload_n (am_cur_of (i := (25, 1, .aload_n 0, (0, 0, 0), 0)) (by decide +kernel)) g0m hm_z
  replace hm_z := rn_bipush (w := 59) (am_cur_of (i := (26, 2, .bipush 59, (0, 0, 0), 0)) (by decide +kernel)) (by decide) hm_z
  replace hm_z := rn_callV (M' := am_m171) (o := 164) (ar := [.int 59]) (rest := []) (L := lv_args 0 [.ref 164, .int 59]) (am_cur_of (i := (28, 3, .invokevirtual 194, (171, 1715, 3), 0)) (by decide +kernel)) rfl rfl rfl rfl hm_z
  obtain ⟨r3924_z, h3925_z, q3926_z, hm_z⟩ := hm_z
  rcases rp_isSign q3926_z with ⟨q1_z, rfl, yq⟩ | ⟨q1_z, q2_z, rfl, yq⟩ | ⟨q1_z, q2_z, rfl, yq⟩
  · replace yq := yq.symm
    subst yq
    replace hm_z : rn _ _ _ _ [.int 0] _ _ _ := hm_z
    replace hm_z := rn_ifT (am_cur_of (i := (31, 3, .ifCond .eq 17, (25, 0, 0), 0)) (by decide +kernel)) (by decide) hm_z
    replace hm_z := rn_aload_n (am_cur_of (i := (48, 1, .aload_n 0, (0, 0, 0), 0)) (by decide +kernel)) g0m hm_z
    replace hm_z := rn_getI (v := 1) (am_cur_of (i := (49, 3, .getfield 315, (12, 45, 1429), 0)) (by decide +kernel)) (by decide +kernel) w1_z hm_z
    replace hm_z := rn_ifF (am_cur_of (i := (52, 3, .ifCond .eq 13, (32, 0, 0), 0)) (by decide +kernel)) (by decide) hm_z
    exact hm_z
  · replace yq := yq.symm
    subst yq
    replace hm_z : rn _ _ _ _ [.int 0] _ _ _ := hm_z
    replace hm_z := rn_ifT (am_cur_of (i := (31, 3, .ifCond .eq 17, (25, 0, 0), 0)) (by decide +kernel)) (by decide) hm_z
    replace hm_z := rn_aload_n (am_cur_of (i := (48, 1, .aload_n 0, (0, 0, 0), 0)) (by decide +kernel)) g0m hm_z
    replace hm_z := rn_getI (v := 1) (am_cur_of (i := (49, 3, .getfield 315, (12, 45, 1429), 0)) (by decide +kernel)) (by decide +kernel) w1_z hm_z
    replace hm_z := rn_ifF (am_cur_of (i := (52, 3, .ifCond .eq 13, (32, 0, 0), 0)) (by decide +kernel)) (by decide) hm_z
    exact hm_z
  · replace yq := yq.symm
    subst yq
    replace hm_z : rn _ _ _ _ [.int 1] _ _ _ := hm_z
    replace hm_z := rn_ifF (am_cur_of (i := (31, 3, .ifCond .eq 17, (25, 0, 0), 0)) (by decide +kernel)) (by decide) hm_z
    replace hm_z := rn_aload_n (am_cur_of (i := (34, 1, .aload_n 0, (0, 0, 0), 0)) (by decide +kernel)) g0m hm_z
    replace hm_z := rn_getI (v := 1) (am_cur_of (i := (35, 3, .getfield 315, (12, 45, 1429), 0)) (by decide +kernel)) (by decide +kernel) w1_z hm_z
    replace hm_z := rn_ifT (am_cur_of (i := (38, 3, .ifCond .ne 10, (25, 0, 0), 0)) (by decide +kernel)) (by decide) hm_z
    replace hm_z := rn_aload_n (am_cur_of (i := (48, 1, .aload_n 0, (0, 0, 0), 0)) (by decide +kernel)) g0m hm_z
    replace hm_z := rn_getI (v := 1) (am_cur_of (i := (49, 3, .getfield 315, (12, 45, 1429), 0)) (by decide +kernel)) (by decide +kernel) w1_z hm_z
    replace hm_z := rn_ifF (am_cur_of (i := (52, 3, .ifCond .eq 13, (32, 0, 0), 0)) (by decide +kernel)) (by decide) hm_z
    exact hm_z
theorem sr_exit {n : Nat} {ls : am_L} {g g' : am_H} {r : Option Value} (w0_z : rg_v g 164 45 = 0) (b0_z : rg_v g 164 43 = 0) (k4_z : rg_v g 164 8 = 4) (k59_z : rg_v g 164 9 = 59) (g0m : am_get ls 0 = some (.ref 164)) (hm_z : rn n am_m170 15 ls [] g r g') : rn n am_m170 37 ls [] g r g' := by
  replace hm_z := rn_aload_n (am_cur_of (i := (25, 1, .aload_n 0, (0, 0, 0), 0)) (by decide +kernel)) g0m hm_z
  replace hm_z := rn_bipush (w := 59) (am_cur_of (i := (26, 2, .bipush 59, (0, 0, 0), 0)) (by decide +kernel)) (by decide) hm_z
  replace hm_z := rn_callV (M' := am_m171) (o := 164) (ar := [.int 59]) (rest := []) (L := lv_args 0 [.ref 164, .int 59]) (am_cur_of (i := (28, 3, .invokevirtual 194, (171, 1715, 3), 0)) (by decide +kernel)) rfl rfl rfl rfl hm_z
  obtain ⟨r3927_z, h3928_z, q3929_z, hm_z⟩ := hm_z
  obtain ⟨rfl, yq3929_z⟩ := rp_sgT k4_z k59_z q3929_z
  subst yq3929_z
  replace hm_z : rn _ _ _ _ [.int 1] _ _ _ := hm_z
  replace hm_z := rn_ifF (am_cur_of (i := (31, 3, .ifCond .eq 17, (25, 0, 0), 0)) (by decide +kernel)) (by decide) hm_z
  replace hm_z := rn_aload_n (am_cur_of (i := (34, 1, .aload_n 0, (0, 0, 0), 0)) (by decide +kernel)) g0m hm_z
  replace hm_z := rn_getI (v := 0) (am_cur_of (i := (35, 3, .getfield 315, (12, 45, 1429), 0)) (by decide +kernel)) (by decide +kernel) w0_z hm_z
  replace hm_z := rn_ifF (am_cur_of (i := (38, 3, .ifCond .ne 10, (25, 0, 0), 0)) (by decide +kernel)) (by decide) hm_z
  replace hm_z := rn_aload_n (am_cur_of (i := (41, 1, .aload_n 0, (0, 0, 0), 0)) (by decide +kernel)) g0m hm_z
  replace hm_z := rn_getI (v := 0) (am_cur_of (i := (42, 3, .getfield 295, (12, 43, 1427), 0)) (by decide +kernel)) (by decide +kernel) b0_z hm_z
  replace hm_z := rn_ifT (am_cur_of (i := (45, 3, .ifCond .le 29, (37, 0, 0), 0)) (by decide +kernel)) (by decide) hm_z
  exact hm_z
theorem sr_signsN {n : Nat} {ls : am_L} {g g' : am_H} {r : Option Value} (w0_z : rg_v g 164 45 = 0) (kn : ¬ (rg_v g 164 8 = 4 ∧ rg_v g 164 9 = 59)) (g0m : am_get ls 0 = some (.ref 164)) (hm_z : rn n am_m170 15 ls [] g r g') : rn n am_m170 32 ls [] g r g' := by
  replace hm_z := rn_aload_n (am_cur_of (i := (25, 1, .aload_n 0, (0, 0, 0), 0)) (by decide +kernel)) g0m hm_z
  replace hm_z := rn_bipush (w := 59) (am_cur_of (i := (26, 2, .bipush 59, (0, 0, 0), 0)) (by decide +kernel)) (by decide) hm_z
  replace hm_z := rn_callV (M' := am_m171) (o := 164) (ar := [.int 59]) (rest := []) (L := lv_args 0 [.ref 164, .int 59]) (am_cur_of (i := (28, 3, .invokevirtual 194, (171, 1715, 3), 0)) (by decide +kernel)) rfl rfl rfl rfl hm_z
  obtain ⟨r3930_z, h3931_z, q3932_z, hm_z⟩ := hm_z
  obtain ⟨rfl, yq3932_z⟩ := rp_sgN kn q3932_z
  subst yq3932_z
  replace hm_z : rn _ _ _ _ [.int 0] _ _ _ := hm_z
  replace hm_z := rn_ifT (am_cur_of (i := (31, 3, .ifCond .eq 17, (25, 0, 0), 0)) (by decide +kernel)) (by decide) hm_z
  replace hm_z := rn_aload_n (am_cur_of (i := (48, 1, .aload_n 0, (0, 0, 0), 0)) (by decide +kernel)) g0m hm_z
  replace hm_z := rn_getI (v := 0) (am_cur_of (i := (49, 3, .getfield 315, (12, 45, 1429), 0)) (by decide +kernel)) (by decide +kernel) w0_z hm_z
  replace hm_z := rn_ifT (am_cur_of (i := (52, 3, .ifCond .eq 13, (32, 0, 0), 0)) (by decide +kernel)) (by decide) hm_z
  exact hm_z
theorem sr_signsO {n : Nat} {ls : am_L} {g g' : am_H} {r : Option Value} {op : Int32} (w0_z : rg_v g 164 45 = 0) (eo : rg_v g 164 43 = op) (o1_z : 0 < op.toInt) (g0m : am_get ls 0 = some (.ref 164)) (hm_z : rn n am_m170 15 ls [] g r g') : rn n am_m170 32 ls [] g r g' := by
  have z0_z : (0 : Int32).toInt = 0 := by decide
  replace hm_z := rn_aload_n (am_cur_of (i := (25, 1, .aload_n 0, (0, 0, 0), 0)) (by decide +kernel)) g0m hm_z
  replace hm_z := rn_bipush (w := 59) (am_cur_of (i := (26, 2, .bipush 59, (0, 0, 0), 0)) (by decide +kernel)) (by decide) hm_z
  replace hm_z := rn_callV (M' := am_m171) (o := 164) (ar := [.int 59]) (rest := []) (L := lv_args 0 [.ref 164, .int 59]) (am_cur_of (i := (28, 3, .invokevirtual 194, (171, 1715, 3), 0)) (by decide +kernel)) rfl rfl rfl rfl hm_z
  obtain ⟨r3933_z, h3934_z, q3935_z, hm_z⟩ := hm_z
  rcases rp_isSign q3935_z with ⟨q1_z, rfl, yq⟩ | ⟨q1_z, q2_z, rfl, yq⟩ | ⟨q1_z, q2_z, rfl, yq⟩
  · replace yq := yq.symm
    subst yq
    replace hm_z : rn _ _ _ _ [.int 0] _ _ _ := hm_z
    replace hm_z := rn_ifT (am_cur_of (i := (31, 3, .ifCond .eq 17, (25, 0, 0), 0)) (by decide +kernel)) (by decide) hm_z
    replace hm_z := rn_aload_n (am_cur_of (i := (48, 1, .aload_n 0, (0, 0, 0), 0)) (by decide +kernel)) g0m hm_z
    replace hm_z := rn_getI (v := 0) (am_cur_of (i := (49, 3, .getfield 315, (12, 45, 1429), 0)) (by decide +kernel)) (by decide +kernel) w0_z hm_z
    replace hm_z := rn_ifT (am_cur_of (i := (52, 3, .ifCond .eq 13, (32, 0, 0), 0)) (by decide +kernel)) (by decide) hm_z
    exact hm_z
  · replace yq := yq.symm
    subst yq
    replace hm_z : rn _ _ _ _ [.int 0] _ _ _ := hm_z
    replace hm_z := rn_ifT (am_cur_of (i := (31, 3, .ifCond .eq 17, (25, 0, 0), 0)) (by decide +kernel)) (by decide) hm_z
    replace hm_z := rn_aload_n (am_cur_of (i := (48, 1, .aload_n 0, (0, 0, 0), 0)) (by decide +kernel)) g0m hm_z
    replace hm_z := rn_getI (v := 0) (am_cur_of (i := (49, 3, .getfield 315, (12, 45, 1429), 0)) (by decide +kernel)) (by decide +kernel) w0_z hm_z
    replace hm_z := rn_ifT (am_cur_of (i := (52, 3, .ifCond .eq 13, (32, 0, 0), 0)) (by decide +kernel)) (by decide) hm_z
    exact hm_z
  · replace yq := yq.symm
    subst yq
    replace hm_z : rn _ _ _ _ [.int 1] _ _ _ := hm_z
    replace hm_z := rn_ifF (am_cur_of (i := (31, 3, .ifCond .eq 17, (25, 0, 0), 0)) (by decide +kernel)) (by decide) hm_z
    replace hm_z := rn_aload_n (am_cur_of (i := (34, 1, .aload_n 0, (0, 0, 0), 0)) (by decide +kernel)) g0m hm_z
    replace hm_z := rn_getI (v := 0) (am_cur_of (i := (35, 3, .getfield 315, (12, 45, 1429), 0)) (by decide +kernel)) (by decide +kernel) w0_z hm_z
    replace hm_z := rn_ifF (am_cur_of (i := (38, 3, .ifCond .ne 10, (25, 0, 0), 0)) (by decide +kernel)) (by decide) hm_z
    replace hm_z := rn_aload_n (am_cur_of (i := (41, 1, .aload_n 0, (0, 0, 0), 0)) (by decide +kernel)) g0m hm_z
    replace hm_z := rn_getI (v := op) (am_cur_of (i := (42, 3, .getfield 295, (12, 43, 1427), 0)) (by decide +kernel)) (by decide +kernel) eo hm_z
    replace hm_z := rn_if (am_cur_of (i := (45, 3, .ifCond .le 29, (37, 0, 0), 0)) (by decide +kernel)) hm_z
    rcases hm_z with ⟨b3936_z, hm_z⟩ | ⟨b3936_z, hm_z⟩
    · replace b3936_z : op.toInt ≤ (0 : Int32).toInt := b3936_z
      omega
    · replace b3936_z : (0 : Int32).toInt < op.toInt := b3936_z
      replace hm_z := rn_aload_n (am_cur_of (i := (48, 1, .aload_n 0, (0, 0, 0), 0)) (by decide +kernel)) g0m hm_z
      replace hm_z := rn_getI (v := 0) (am_cur_of (i := (49, 3, .getfield 315, (12, 45, 1429), 0)) (by decide +kernel)) (by decide +kernel) w0_z hm_z
      replace hm_z := rn_ifT (am_cur_of (i := (52, 3, .ifCond .eq 13, (32, 0, 0), 0)) (by decide +kernel)) (by decide) hm_z
      exact hm_z
/-- of the reader nothing but the waiting signs' number changes -/
def re_ok (a : Nat) : Bool := Nat.beq a 46 || Nat.beq a 47 || Nat.beq a 48 || Nat.beq a 52
def re_w : rw_W := (fun ci_z f => !(Nat.beq (rg_cl ci_z f) 9) && (!(Nat.beq ci_z 4) || Nat.beq f 13), true, re_ok)
def re_P (v : Nat → Int32) (h : am_H) : Prop := rg_Gd h ∧ ∀ k, ¬ k = 13 → rg_v h 44 k = v k
theorem re_wP (v : Nat → Int32) : rw_P re_w (re_P v) := by
  refine ⟨fun h o ci_z f u hP hk_z hc_z hf_z => ?_, fun _ h o r n ty u hP hk_z ht hq_z hf_z => ?_⟩
  · have hc_z' : (!(Nat.beq (rg_cl ci_z f) 9) && (!(Nat.beq ci_z 4) || Nat.beq f 13)) = true := hc_z
    rw [Bool.and_eq_true] at hc_z'
    refine ⟨rn_wP.1 h o ci_z f u hP.1 hk_z hc_z'.1 hf_z, fun k hk13_z => ?_⟩
    rw [rg_v_other]
    · exact hP.2 k hk13_z
    · rintro ⟨e1_z, e2_z⟩
      subst e1_z; subst e2_z
      rw [rs_k44] at hk_z
      cases hk_z
      have h2_z := hc_z'.2
      rw [Bool.or_eq_true] at h2_z
      rcases h2_z with h2_z | h2_z
      · exact absurd h2_z (by decide)
      · exact hk13_z (Nat.eq_of_beq_eq_true h2_z)
  · have hne : ∀ k, ¬ ((44 : Nat) = o ∧ k = r) := by
      rintro k ⟨e1_z, -⟩
      subst e1_z
      rw [rs_k44] at hk_z
      cases hk_z
    exact ⟨rn_wP.2 rfl h o r n ty u hP.1 hk_z ht hq_z hf_z, fun k hk13_z => (rg_v_other (hne k)).trans (hP.2 k hk13_z)⟩
def re_M (a : Nat) : Bool := !(re_ok a) || (match am_prog[a]? with
  | some M => M.2.2.2.all (rw_I re_w)
  | none => true)
set_option maxRecDepth 1000000 in
theorem re_M_all : (List.range 256).all re_M = true := by decide +kernel
theorem re_K {a : Nat} {M : am_M} (ha_z : re_ok a = true) (hM : am_prog[a]? = some M) : rw_K re_w M.2.2.2 := by
  have hl_z : a < am_prog.length := (List.getElem?_eq_some_iff.mp hM).1
  rw [am_prog_len] at hl_z
  have hb_z := List.all_eq_true.mp re_M_all a (List.mem_range.mpr (by omega))
  unfold re_M at hb_z
  rw [ha_z, hM] at hb_z
  exact List.all_eq_true.mp hb_z
theorem re_keep {a n : Nat} {M : am_M} {k : Nat} {ls : am_L} {st : List Value} {h h' : am_H} {r : Option Value} (ha_z : re_ok a = true) (hM : am_prog[a]? = some M) (hr : rn n M k ls st h r h') : ∀ j, ¬ j = 13 → rg_v h' 44 j = rg_v h 44 j := by
  obtain ⟨-, hG, nc, ns, m, -, hrun⟩ := hr
  exact (rw_run (re_wP (fun j => rg_v h 44 j)) (fun a M ha_z hM => Or.inl (re_K ha_z hM)) m M _ ls st h nc ns _ (re_K ha_z hM) (fun j hj_z => re_K ha_z hM j (List.mem_of_mem_drop hj_z)) ⟨hG, fun _ _ => rfl⟩ hrun).2.2
abbrev ry_MM : List (Nat × Nat) := rz_MM ++ [(178, 0), (179, 0), (180, 0)]
abbrev ry_MT : List (Nat × Nat) := rz_MM ++ [(179, 0), (180, 0)]
abbrev ry_MC2 : List (Nat × Nat) := rz_MC2 ++ [(14, 0), (15, 0), (16, 0)]
theorem ry_q02 {T : Nat → Int32} {S x : Int32} {h h' g g' : am_H} (R : rq0_z T S x 2 h g) (FC : ab_Fr ry_MC2 h h') (FM : ab_Fr ry_MM g g') : rq0_z T S x 2 h' g' := by
  obtain ⟨⟨c1_z, c2_z, c3_z, c4_z, c5_z, c6_z, c7_z, c8_z⟩, ⟨m2_z, m3_z, m4_z, m5_z, m6_z, m7_z, m8_z⟩, R3, R4⟩ := R
  exact ⟨⟨(FC 44 4 (by decide)).trans c1_z, (rg_v_fr FC (by decide)).trans c2_z, (rg_v_fr FC (by decide)).trans c3_z, c4_z, c5_z, c6_z, fun k hk_z => (rg_v_fr FC (rg_v_in (by decide) k)).trans (c7_z k hk_z), fun k hk_z => (rg_v_fr FC (rg_v_in (by decide) k)).trans (c8_z k hk_z)⟩, ⟨(rg_v_fr FM (by decide)).trans m2_z, (rg_v_fr FM (by decide)).trans m3_z, m4_z, m5_z, m6_z, fun k hk_z => (rg_v_fr FM (rg_v_in (by decide) k)).trans (m7_z k hk_z), fun k hk_z => (rg_v_fr FM (rg_v_in (by decide) k)).trans (m8_z k hk_z)⟩, (FC 44 6 (by decide)).trans R3, (rg_v_fr FC (by decide)).trans R4⟩
theorem ry_p2 {h h' g g' : am_H} (A : rp 2 h g) (FC : ab_Fr ry_MC2 h h') (FM : ab_Fr ry_MM g g') (k1_z : rg_v h' 11 0 = rg_v g' 164 44) (k2_z : 0 ≤ (rg_v h' 11 0).toInt) (k3_z : (rg_v h' 11 0).toInt ≤ 64) : rp 2 h' g' := by
  have eC : ∀ o k, (ry_MC2.all (fun q => !(Nat.beq q.1 o)) = true) → rg_v h' o k = rg_v h o k := fun o k e => rg_v_fr FC (rg_v_in e k)
  have eM : ∀ o k, (ry_MM.all (fun q => !(Nat.beq q.1 o)) = true) → rg_v g' o k = rg_v g o k := fun o k e => rg_v_fr FM (rg_v_in e k)
  obtain ⟨⟨a1_z, a2_z, a3_z, a4_z, a5_z, a6_z⟩, ⟨n1_z, n2_z, n3_z⟩, ⟨t1_z, t2_z, t3_z⟩, ⟨l1_z, l2_z, l3_z⟩, ⟨r1_z, r2_z, r3_z⟩, -, ⟨C0, C1, C2, C3⟩, D, E, G⟩ := A
  have ed_z : ∀ k, rg_v h' 2 k = rg_v h 2 k := fun k => eC 2 k (by decide)
  have e8_z : ∀ k, rg_v g' 168 k = rg_v g 168 k := fun k => eM 168 k (by decide)
  have hC0 : rp_C 2 h' g' 0 := by
    intro hb_z k hk_z
    rw [ed_z] at hb_z
    unfold rp_bm
    rw [eC (2 + 17 + 0) k (by decide), eM 169 _ (by decide), eM 170 _ (by decide)]
    exact C0 hb_z k hk_z
  have hC1 : rp_C 2 h' g' 1 := by
    intro hb_z k hk_z
    rw [ed_z] at hb_z
    unfold rp_bm
    rw [eC (2 + 17 + 1) k (by decide), eM 169 _ (by decide), eM 170 _ (by decide)]
    exact C1 hb_z k hk_z
  have hC2 : rp_C 2 h' g' 2 := by
    intro hb_z k hk_z
    rw [ed_z] at hb_z
    unfold rp_bm
    rw [eC (2 + 17 + 2) k (by decide), eM 169 _ (by decide), eM 170 _ (by decide)]
    exact C2 hb_z k hk_z
  have hC3 : rp_C 2 h' g' 3 := by
    intro hb_z k hk_z
    rw [ed_z] at hb_z
    unfold rp_bm
    rw [eC (2 + 17 + 3) k (by decide), eM 169 _ (by decide), eM 170 _ (by decide)]
    exact C3 hb_z k hk_z
  refine ⟨⟨by rw [ed_z, e8_z]; exact a1_z, by rw [ed_z, e8_z]; exact a2_z, by rw [ed_z, e8_z]; exact a3_z, by rw [ed_z, e8_z]; exact a4_z, by rw [ed_z, e8_z]; exact a5_z, by rw [ed_z, e8_z]; exact a6_z.1, (rg_v_fr FC (by decide)).trans a6_z.2.1, (rg_v_fr FM (by decide)).trans a6_z.2.2.1, (rg_v_fr FM (by decide)).trans a6_z.2.2.2⟩, ⟨by rw [ed_z, rg_v_fr FM (by decide)]; exact n1_z, by rw [ed_z]; exact n2_z, by rw [ed_z]; exact n3_z⟩, ⟨by rw [ed_z, rg_v_fr FM (by decide)]; exact t1_z, by rw [ed_z]; exact t2_z, by rw [ed_z]; exact t3_z⟩, ⟨by rw [ed_z, rg_v_fr FM (by decide)]; exact l1_z, by rw [ed_z]; exact l2_z, by rw [ed_z]; exact l3_z⟩, ⟨by rw [ed_z, rg_v_fr FM (by decide)]; exact r1_z, by rw [ed_z]; exact r2_z, by rw [ed_z]; exact r3_z⟩, ⟨k1_z, k2_z, k3_z⟩, ⟨hC0, hC1, hC2, hC3⟩, ?_, ?_, ?_⟩
  · intro t ht
    rw [ed_z] at ht
    rw [eC (2 + 2) t (by decide), eC (2 + 3) t (by decide), eM 171 _ (by decide), eM 172 _ (by decide)]
    exact D t ht
  · intro t ht
    rw [ed_z] at ht
    rw [eC (2 + 4) t (by decide), eC (2 + 5) t (by decide), eM 173 _ (by decide), eM 174 _ (by decide)]
    exact E t ht
  · intro t ht
    rw [ed_z] at ht
    rw [eC (2 + 6) t (by decide), eC (2 + 7) t (by decide), eC (2 + 8) t (by decide), eM 175 _ (by decide), eM 176 _ (by decide), eM 177 _ (by decide)]
    exact G t ht
theorem ry_t2 {h h' g g' : am_H} (B : rp_t h g) (FC : ab_Fr ((ry_MC2).drop 1) h h') (FM : ab_Fr ry_MT g g') : rp_t h' g' := by
  obtain ⟨b0_z, b1_z, b2_z, b3_z, b4_z, b5_z, b6_z, t, o0_z, o1_z, o2_z, o3_z, o4_z, o5_z, o6_z⟩ := B
  exact ⟨b0_z, b1_z, b2_z, b3_z, b4_z, b5_z, b6_z, (rg_v_fr FC (by decide)).trans t, (rg_v_fr FM (by decide)).trans o0_z, (rg_v_fr FM (by decide)).trans o1_z, (rg_v_fr FM (by decide)).trans o2_z, (rg_v_fr FM (by decide)).trans o3_z, (rg_v_fr FM (by decide)).trans o4_z, (rg_v_fr FM (by decide)).trans o5_z, (rg_v_fr FM (by decide)).trans o6_z⟩
theorem ry_rq2 {T : Nat → Int32} {S x p : Int32} {h h' g g' : am_H} (R : rq T S x p 2 h g) (FC : ab_Fr (ry_MC2.drop 1) h h') (FM : ab_Fr ry_MM g g') : rq T S x p 2 h' g' := by
  have q := ry_q02 (rq_0 R) (ab_Fr_sub (by decide) FC) FM
  obtain ⟨R1, R2, R3, R4, R5, R6, R7, R8, R9, R10⟩ := R
  have e10_z : rg_v h' 44 10 = rg_v h 44 10 := rg_v_fr FC (by decide)
  have e11_z : rg_v h' 44 11 = rg_v h 44 11 := rg_v_fr FC (by decide)
  have f8_z : rg_v g' 164 8 = rg_v g 164 8 := rg_v_fr FM (by decide)
  have f9_z : rg_v g' 164 9 = rg_v g 164 9 := rg_v_fr FM (by decide)
  exact ⟨q.1, q.2.1, q.2.2.1, q.2.2.2, (rg_v_fr FC (by decide)).trans R5, (rg_v_fr FM (by decide)).trans R6, R7, R8, by rw [e10_z]; exact R9, by rw [e10_z, e11_z, f8_z, f9_z]; exact R10⟩
abbrev ry_MC23 : List (Nat × Nat) := rz_MC23 ++ [(35, 0), (36, 0), (37, 0)]
theorem ry_q023 {T : Nat → Int32} {S x : Int32} {h h' g g' : am_H} (R : rq0_z T S x 23 h g) (FC : ab_Fr ry_MC23 h h') (FM : ab_Fr ry_MM g g') : rq0_z T S x 23 h' g' := by
  obtain ⟨⟨c1_z, c2_z, c3_z, c4_z, c5_z, c6_z, c7_z, c8_z⟩, ⟨m2_z, m3_z, m4_z, m5_z, m6_z, m7_z, m8_z⟩, R3, R4⟩ := R
  exact ⟨⟨(FC 44 4 (by decide)).trans c1_z, (rg_v_fr FC (by decide)).trans c2_z, (rg_v_fr FC (by decide)).trans c3_z, c4_z, c5_z, c6_z, fun k hk_z => (rg_v_fr FC (rg_v_in (by decide) k)).trans (c7_z k hk_z), fun k hk_z => (rg_v_fr FC (rg_v_in (by decide) k)).trans (c8_z k hk_z)⟩, ⟨(rg_v_fr FM (by decide)).trans m2_z, (rg_v_fr FM (by decide)).trans m3_z, m4_z, m5_z, m6_z, fun k hk_z => (rg_v_fr FM (rg_v_in (by decide) k)).trans (m7_z k hk_z), fun k hk_z => (rg_v_fr FM (rg_v_in (by decide) k)).trans (m8_z k hk_z)⟩, (FC 44 6 (by decide)).trans R3, (rg_v_fr FC (by decide)).trans R4⟩
theorem ry_p23 {h h' g g' : am_H} (A : rp 23 h g) (FC : ab_Fr ry_MC23 h h') (FM : ab_Fr ry_MM g g') (k1_z : rg_v h' 32 0 = rg_v g' 164 44) (k2_z : 0 ≤ (rg_v h' 32 0).toInt) (k3_z : (rg_v h' 32 0).toInt ≤ 64) : rp 23 h' g' := by
  have eC : ∀ o k, (ry_MC23.all (fun q => !(Nat.beq q.1 o)) = true) → rg_v h' o k = rg_v h o k := fun o k e => rg_v_fr FC (rg_v_in e k)
  have eM : ∀ o k, (ry_MM.all (fun q => !(Nat.beq q.1 o)) = true) → rg_v g' o k = rg_v g o k := fun o k e => rg_v_fr FM (rg_v_in e k)
  obtain ⟨⟨a1_z, a2_z, a3_z, a4_z, a5_z, a6_z⟩, ⟨n1_z, n2_z, n3_z⟩, ⟨t1_z, t2_z, t3_z⟩, ⟨l1_z, l2_z, l3_z⟩, ⟨r1_z, r2_z, r3_z⟩, -, ⟨C0, C1, C2, C3⟩, D, E, G⟩ := A
  have ed_z : ∀ k, rg_v h' 23 k = rg_v h 23 k := fun k => eC 23 k (by decide)
  have e8_z : ∀ k, rg_v g' 168 k = rg_v g 168 k := fun k => eM 168 k (by decide)
  have hC0 : rp_C 23 h' g' 0 := by
    intro hb_z k hk_z
    rw [ed_z] at hb_z
    unfold rp_bm
    rw [eC (23 + 17 + 0) k (by decide), eM 169 _ (by decide), eM 170 _ (by decide)]
    exact C0 hb_z k hk_z
  have hC1 : rp_C 23 h' g' 1 := by
    intro hb_z k hk_z
    rw [ed_z] at hb_z
    unfold rp_bm
    rw [eC (23 + 17 + 1) k (by decide), eM 169 _ (by decide), eM 170 _ (by decide)]
    exact C1 hb_z k hk_z
  have hC2 : rp_C 23 h' g' 2 := by
    intro hb_z k hk_z
    rw [ed_z] at hb_z
    unfold rp_bm
    rw [eC (23 + 17 + 2) k (by decide), eM 169 _ (by decide), eM 170 _ (by decide)]
    exact C2 hb_z k hk_z
  have hC3 : rp_C 23 h' g' 3 := by
    intro hb_z k hk_z
    rw [ed_z] at hb_z
    unfold rp_bm
    rw [eC (23 + 17 + 3) k (by decide), eM 169 _ (by decide), eM 170 _ (by decide)]
    exact C3 hb_z k hk_z
  refine ⟨⟨by rw [ed_z, e8_z]; exact a1_z, by rw [ed_z, e8_z]; exact a2_z, by rw [ed_z, e8_z]; exact a3_z, by rw [ed_z, e8_z]; exact a4_z, by rw [ed_z, e8_z]; exact a5_z, by rw [ed_z, e8_z]; exact a6_z.1, (rg_v_fr FC (by decide)).trans a6_z.2.1, (rg_v_fr FM (by decide)).trans a6_z.2.2.1, (rg_v_fr FM (by decide)).trans a6_z.2.2.2⟩, ⟨by rw [ed_z, rg_v_fr FM (by decide)]; exact n1_z, by rw [ed_z]; exact n2_z, by rw [ed_z]; exact n3_z⟩, ⟨by rw [ed_z, rg_v_fr FM (by decide)]; exact t1_z, by rw [ed_z]; exact t2_z, by rw [ed_z]; exact t3_z⟩, ⟨by rw [ed_z, rg_v_fr FM (by decide)]; exact l1_z, by rw [ed_z]; exact l2_z, by rw [ed_z]; exact l3_z⟩, ⟨by rw [ed_z, rg_v_fr FM (by decide)]; exact r1_z, by rw [ed_z]; exact r2_z, by rw [ed_z]; exact r3_z⟩, ⟨k1_z, k2_z, k3_z⟩, ⟨hC0, hC1, hC2, hC3⟩, ?_, ?_, ?_⟩
  · intro t ht
    rw [ed_z] at ht
    rw [eC (23 + 2) t (by decide), eC (23 + 3) t (by decide), eM 171 _ (by decide), eM 172 _ (by decide)]
    exact D t ht
  · intro t ht
    rw [ed_z] at ht
    rw [eC (23 + 4) t (by decide), eC (23 + 5) t (by decide), eM 173 _ (by decide), eM 174 _ (by decide)]
    exact E t ht
  · intro t ht
    rw [ed_z] at ht
    rw [eC (23 + 6) t (by decide), eC (23 + 7) t (by decide), eC (23 + 8) t (by decide), eM 175 _ (by decide), eM 176 _ (by decide), eM 177 _ (by decide)]
    exact G t ht
theorem ry_t23 {h h' g g' : am_H} (B : rp_t h g) (FC : ab_Fr ((ry_MC23).drop 1) h h') (FM : ab_Fr ry_MT g g') : rp_t h' g' := by
  obtain ⟨b0_z, b1_z, b2_z, b3_z, b4_z, b5_z, b6_z, t, o0_z, o1_z, o2_z, o3_z, o4_z, o5_z, o6_z⟩ := B
  exact ⟨b0_z, b1_z, b2_z, b3_z, b4_z, b5_z, b6_z, (rg_v_fr FC (by decide)).trans t, (rg_v_fr FM (by decide)).trans o0_z, (rg_v_fr FM (by decide)).trans o1_z, (rg_v_fr FM (by decide)).trans o2_z, (rg_v_fr FM (by decide)).trans o3_z, (rg_v_fr FM (by decide)).trans o4_z, (rg_v_fr FM (by decide)).trans o5_z, (rg_v_fr FM (by decide)).trans o6_z⟩
theorem ry_rq23 {T : Nat → Int32} {S x p : Int32} {h h' g g' : am_H} (R : rq T S x p 23 h g) (FC : ab_Fr (ry_MC23.drop 1) h h') (FM : ab_Fr ry_MM g g') : rq T S x p 23 h' g' := by
  have q := ry_q023 (rq_0 R) (ab_Fr_sub (by decide) FC) FM
  obtain ⟨R1, R2, R3, R4, R5, R6, R7, R8, R9, R10⟩ := R
  have e10_z : rg_v h' 44 10 = rg_v h 44 10 := rg_v_fr FC (by decide)
  have e11_z : rg_v h' 44 11 = rg_v h 44 11 := rg_v_fr FC (by decide)
  have f8_z : rg_v g' 164 8 = rg_v g 164 8 := rg_v_fr FM (by decide)
  have f9_z : rg_v g' 164 9 = rg_v g 164 9 := rg_v_fr FM (by decide)
  exact ⟨q.1, q.2.1, q.2.2.1, q.2.2.2, (rg_v_fr FC (by decide)).trans R5, (rg_v_fr FM (by decide)).trans R6, R7, R8, by rw [e10_z]; exact R9, by rw [e10_z, e11_z, f8_z, f9_z]; exact R10⟩
theorem rs_beg2 {n : Nat} {h h' : am_H} {r : Option Value} {lw : Int32}  (hc_z : rn n am_m43 0 (lv_args 0 [.ref 11, .int lw]) [] h r h') : (r = none ∧ h' = (am_up h 14 lw.toNatClampNeg (.int (rg_v h 11 1)))) := by
  have g0_z : am_get (lv_args 0 [.ref 11, .int lw]) 0 = some (.ref 11) := rfl
  have g1_z : am_get (lv_args 0 [.ref 11, .int lw]) 1 = some (.int lw) := rfl
  replace hc_z := rn_aload_n (am_cur_of (i := (0, 1, .aload_n 0, (0, 0, 0), 0)) (by decide +kernel)) g0_z hc_z
  replace hc_z := rn_getR (x := 14) (am_cur_of (i := (1, 3, .getfield 18, (2, 4, 169), 0)) (by decide +kernel)) (by decide +kernel) hc_z
  replace hc_z := rn_iload_n (am_cur_of (i := (4, 1, .iload_n 1, (0, 0, 0), 0)) (by decide +kernel)) g1_z hc_z
  replace hc_z := rn_aload_n (am_cur_of (i := (5, 1, .aload_n 0, (0, 0, 0), 0)) (by decide +kernel)) g0_z hc_z
  replace hc_z := rn_getI (v := rg_v h 11 1) (am_cur_of (i := (6, 3, .getfield 39, (2, 1, 166), 0)) (by decide +kernel)) (by decide +kernel) rfl hc_z
  replace hc_z := rn_iastore (N := 3) (q := lw.toNatClampNeg) (am_cur_of (i := (9, 1, .iastore, (0, 0, 0), 0)) (by decide +kernel)) (by decide +kernel) rfl hc_z
  obtain ⟨p3937_z, hc_z⟩ := hc_z
  replace hc_z := rn_vret (am_cur_of (i := (10, 1, .return_, (0, 0, 0), 0)) (by decide +kernel)) hc_z
  obtain ⟨e3938_z, e3939_z⟩ := hc_z
  exact ⟨e3938_z, e3939_z⟩
theorem rs_endl2 {lw : Int32} {r : Option Value} {h' : am_H} : ∀ (m : Nat) (i : Int32) (ls : am_L) (h : am_H), am_get ls 0 = some (.ref 11) → am_get ls 1 = some (.int lw) → am_get ls 2 = some (.int i) → rn m am_m52 11 ls [] h r h' → r = none ∧ ab_Fr [(16, 0)] h h' := by
  intro m
  induction m with
  | zero => intro i ls h g0_z g1_z g2_z hc_z; exact absurd hc_z rn_0
  | succ m ih_z =>
    intro i ls h g0_z g1_z g2_z hc_z
    have z0_z : (0 : Int32).toInt = 0 := by decide
    have z1_z : (1 : Int32).toInt = 1 := by decide
    replace hc_z := rn_iload_n (am_cur_of (i := (17, 1, .iload_n 2, (0, 0, 0), 0)) (by decide +kernel)) g2_z hc_z
    replace hc_z := rn_aload_n (am_cur_of (i := (18, 1, .aload_n 0, (0, 0, 0), 0)) (by decide +kernel)) g0_z hc_z
    replace hc_z := rn_getI (v := rg_v h 11 1) (am_cur_of (i := (19, 3, .getfield 39, (2, 1, 166), 0)) (by decide +kernel)) (by decide +kernel) rfl hc_z
    replace hc_z := rn_cmp (am_cur_of (i := (22, 3, .if_icmp .ge 35, (33, 0, 0), 0)) (by decide +kernel)) hc_z
    rcases hc_z with ⟨b3940_z, hc_z⟩ | ⟨b3940_z, hc_z⟩
    · replace b3940_z : (rg_v h 11 1).toInt ≤ i.toInt := b3940_z
      replace hc_z := rn_vret (am_cur_of (i := (57, 1, .return_, (0, 0, 0), 0)) (by decide +kernel)) hc_z
      obtain ⟨e3941_z, e3942_z⟩ := hc_z
      subst e3942_z
      exact ⟨e3941_z, ab_Fr_refl⟩
    · replace b3940_z : i.toInt < (rg_v h 11 1).toInt := b3940_z
      replace hc_z := rn_aload_n (am_cur_of (i := (25, 1, .aload_n 0, (0, 0, 0), 0)) (by decide +kernel)) g0_z hc_z
      replace hc_z := rn_getR (x := 12) (am_cur_of (i := (26, 3, .getfield 9, (2, 2, 167), 0)) (by decide +kernel)) (by decide +kernel) hc_z
      replace hc_z := rn_iload_n (am_cur_of (i := (29, 1, .iload_n 2, (0, 0, 0), 0)) (by decide +kernel)) g2_z hc_z
      replace hc_z := rn_iaload (N := 64) (q := i.toNatClampNeg) (v := rg_v h 12 i.toNatClampNeg) (am_cur_of (i := (30, 1, .iaload, (0, 0, 0), 0)) (by decide +kernel)) (by decide +kernel) rfl rfl hc_z
      obtain ⟨p3943_z, hc_z⟩ := hc_z
      replace hc_z := rn_iconst (w := 1) (am_cur_of (i := (31, 1, .iconst 1, (0, 0, 0), 0)) (by decide +kernel)) (by decide) hc_z
      replace hc_z := rn_cmp (am_cur_of (i := (32, 3, .if_icmp .ne 19, (31, 0, 0), 0)) (by decide +kernel)) hc_z
      rcases hc_z with ⟨b3944_z, hc_z⟩ | ⟨b3944_z, hc_z⟩
      · replace b3944_z : ¬ (rg_v h 12 i.toNatClampNeg) = (1 : Int32) ∧ ¬ (rg_v h 12 i.toNatClampNeg).toInt = (1 : Int32).toInt := b3944_z
        replace hc_z := rn_iinc (w := i + 1) (am_cur_of (i := (51, 3, .iinc 2 1, (0, 0, 0), 0)) (by decide +kernel)) g2_z rfl hc_z
        obtain ⟨_, s3945_z, s3946_z, g2_z, hc_z⟩ := hc_z
        replace g0_z := s3945_z 0 _ (by decide) rfl g0_z
        replace g1_z := s3945_z 1 _ (by decide) rfl g1_z
        clear s3945_z s3946_z
        replace hc_z := rn_gotoL (am_cur_of (i := (54, 3, .goto (-37), (11, 0, 0), 0)) (by decide +kernel)) hc_z
        exact ih_z _ _ _ g0_z g1_z g2_z hc_z
      · replace b3944_z : (rg_v h 12 i.toNatClampNeg) = (1 : Int32) ∧ (rg_v h 12 i.toNatClampNeg).toInt = (1 : Int32).toInt := b3944_z
        replace hc_z := rn_aload_n (am_cur_of (i := (35, 1, .aload_n 0, (0, 0, 0), 0)) (by decide +kernel)) g0_z hc_z
        replace hc_z := rn_getR (x := 13) (am_cur_of (i := (36, 3, .getfield 15, (2, 3, 168), 0)) (by decide +kernel)) (by decide +kernel) hc_z
        replace hc_z := rn_iload_n (am_cur_of (i := (39, 1, .iload_n 2, (0, 0, 0), 0)) (by decide +kernel)) g2_z hc_z
        replace hc_z := rn_iaload (N := 64) (q := i.toNatClampNeg) (v := rg_v h 13 i.toNatClampNeg) (am_cur_of (i := (40, 1, .iaload, (0, 0, 0), 0)) (by decide +kernel)) (by decide +kernel) rfl rfl hc_z
        obtain ⟨p3947_z, hc_z⟩ := hc_z
        replace hc_z := rn_if (am_cur_of (i := (41, 3, .ifCond .ne 10, (31, 0, 0), 0)) (by decide +kernel)) hc_z
        rcases hc_z with ⟨b3948_z, hc_z⟩ | ⟨b3948_z, hc_z⟩
        · replace b3948_z : ¬ (rg_v h 13 i.toNatClampNeg) = (0 : Int32) ∧ ¬ (rg_v h 13 i.toNatClampNeg).toInt = (0 : Int32).toInt := b3948_z
          replace hc_z := rn_iinc (w := i + 1) (am_cur_of (i := (51, 3, .iinc 2 1, (0, 0, 0), 0)) (by decide +kernel)) g2_z rfl hc_z
          obtain ⟨_, s3949_z, s3950_z, g2_z, hc_z⟩ := hc_z
          replace g0_z := s3949_z 0 _ (by decide) rfl g0_z
          replace g1_z := s3949_z 1 _ (by decide) rfl g1_z
          clear s3949_z s3950_z
          replace hc_z := rn_gotoL (am_cur_of (i := (54, 3, .goto (-37), (11, 0, 0), 0)) (by decide +kernel)) hc_z
          exact ih_z _ _ _ g0_z g1_z g2_z hc_z
        · replace b3948_z : (rg_v h 13 i.toNatClampNeg) = (0 : Int32) ∧ (rg_v h 13 i.toNatClampNeg).toInt = (0 : Int32).toInt := b3948_z
          replace hc_z := rn_aload_n (am_cur_of (i := (44, 1, .aload_n 0, (0, 0, 0), 0)) (by decide +kernel)) g0_z hc_z
          replace hc_z := rn_getR (x := 16) (am_cur_of (i := (45, 3, .getfield 24, (2, 6, 171), 0)) (by decide +kernel)) (by decide +kernel) hc_z
          replace hc_z := rn_iload_n (am_cur_of (i := (48, 1, .iload_n 1, (0, 0, 0), 0)) (by decide +kernel)) g1_z hc_z
          replace hc_z := rn_iconst (w := 1) (am_cur_of (i := (49, 1, .iconst 1, (0, 0, 0), 0)) (by decide +kernel)) (by decide) hc_z
          replace hc_z := rn_bastore (N := 3) (q := lw.toNatClampNeg) (am_cur_of (i := (50, 1, .bastore, (0, 0, 0), 0)) (by decide +kernel)) (by decide +kernel) rfl hc_z
          obtain ⟨p3951_z, hc_z⟩ := hc_z
          replace hc_z := rn_iinc (w := i + 1) (am_cur_of (i := (51, 3, .iinc 2 1, (0, 0, 0), 0)) (by decide +kernel)) g2_z rfl hc_z
          obtain ⟨_, s3952_z, s3953_z, g2_z, hc_z⟩ := hc_z
          replace g0_z := s3952_z 0 _ (by decide) rfl g0_z
          replace g1_z := s3952_z 1 _ (by decide) rfl g1_z
          clear s3952_z s3953_z
          replace hc_z := rn_gotoL (am_cur_of (i := (54, 3, .goto (-37), (11, 0, 0), 0)) (by decide +kernel)) hc_z
          obtain ⟨e1_z, e2_z⟩ := ih_z _ _ _ g0_z g1_z g2_z hc_z
          exact ⟨e1_z, ab_Fr_trans (ab_Fr_up rfl ab_Fr_refl) e2_z⟩
theorem rs_end2 {n : Nat} {h h' : am_H} {r : Option Value} {lw : Int32} (hc_z : rn n am_m52 0 (lv_args 0 [.ref 11, .int lw]) [] h r h') : r = none ∧ ab_Fr [(15, 0), (16, 0)] h h' := by
  have g0_z : am_get (lv_args 0 [.ref 11, .int lw]) 0 = some (.ref 11) := rfl
  have g1_z : am_get (lv_args 0 [.ref 11, .int lw]) 1 = some (.int lw) := rfl
  replace hc_z := rn_aload_n (am_cur_of (i := (0, 1, .aload_n 0, (0, 0, 0), 0)) (by decide +kernel)) g0_z hc_z
  replace hc_z := rn_getR (x := 15) (am_cur_of (i := (1, 3, .getfield 21, (2, 5, 170), 0)) (by decide +kernel)) (by decide +kernel) hc_z
  replace hc_z := rn_iload_n (am_cur_of (i := (4, 1, .iload_n 1, (0, 0, 0), 0)) (by decide +kernel)) g1_z hc_z
  replace hc_z := rn_aload_n (am_cur_of (i := (5, 1, .aload_n 0, (0, 0, 0), 0)) (by decide +kernel)) g0_z hc_z
  replace hc_z := rn_getI (v := rg_v h 11 1) (am_cur_of (i := (6, 3, .getfield 39, (2, 1, 166), 0)) (by decide +kernel)) (by decide +kernel) rfl hc_z
  replace hc_z := rn_iastore (N := 3) (q := lw.toNatClampNeg) (am_cur_of (i := (9, 1, .iastore, (0, 0, 0), 0)) (by decide +kernel)) (by decide +kernel) rfl hc_z
  obtain ⟨p3954_z, hc_z⟩ := hc_z
  replace hc_z := rn_aload_n (am_cur_of (i := (10, 1, .aload_n 0, (0, 0, 0), 0)) (by decide +kernel)) g0_z hc_z
  replace hc_z := rn_getR (x := 14) (am_cur_of (i := (11, 3, .getfield 18, (2, 4, 169), 0)) (by decide +kernel)) (by decide +kernel) hc_z
  replace hc_z := rn_iload_n (am_cur_of (i := (14, 1, .iload_n 1, (0, 0, 0), 0)) (by decide +kernel)) g1_z hc_z
  replace hc_z := rn_iaload (N := 3) (q := lw.toNatClampNeg) (v := rg_v h 14 lw.toNatClampNeg) (am_cur_of (i := (15, 1, .iaload, (0, 0, 0), 0)) (by decide +kernel)) (by decide +kernel) rfl (show rg_v (am_up h 15 lw.toNatClampNeg (.int (rg_v h 11 1))) 14 lw.toNatClampNeg = rg_v h 14 lw.toNatClampNeg from rfl) hc_z
  obtain ⟨p3955_z, hc_z⟩ := hc_z
  replace hc_z := rn_istore_n (am_cur_of (i := (16, 1, .istore_n 2, (0, 0, 0), 0)) (by decide +kernel)) hc_z
  obtain ⟨_, s3956_z, s3957_z, g2_z, hc_z⟩ := hc_z
  replace g0_z := s3956_z 0 _ (by decide) rfl g0_z
  replace g1_z := s3956_z 1 _ (by decide) rfl g1_z
  clear s3956_z s3957_z
  obtain ⟨e1_z, e2_z⟩ := rs_endl2 _ _ _ _ g0_z g1_z g2_z hc_z
  exact ⟨e1_z, ab_Fr_trans (ab_Fr_up rfl ab_Fr_refl) (ab_Fr_sub (by decide) e2_z)⟩
theorem rs_beg23 {n : Nat} {h h' : am_H} {r : Option Value} {lw : Int32}  (hc_z : rn n am_m43 0 (lv_args 0 [.ref 32, .int lw]) [] h r h') : (r = none ∧ h' = (am_up h 35 lw.toNatClampNeg (.int (rg_v h 32 1)))) := by
  have g0_z : am_get (lv_args 0 [.ref 32, .int lw]) 0 = some (.ref 32) := rfl
  have g1_z : am_get (lv_args 0 [.ref 32, .int lw]) 1 = some (.int lw) := rfl
  replace hc_z := rn_aload_n (am_cur_of (i := (0, 1, .aload_n 0, (0, 0, 0), 0)) (by decide +kernel)) g0_z hc_z
  replace hc_z := rn_getR (x := 35) (am_cur_of (i := (1, 3, .getfield 18, (2, 4, 169), 0)) (by decide +kernel)) (by decide +kernel) hc_z
  replace hc_z := rn_iload_n (am_cur_of (i := (4, 1, .iload_n 1, (0, 0, 0), 0)) (by decide +kernel)) g1_z hc_z
  replace hc_z := rn_aload_n (am_cur_of (i := (5, 1, .aload_n 0, (0, 0, 0), 0)) (by decide +kernel)) g0_z hc_z
  replace hc_z := rn_getI (v := rg_v h 32 1) (am_cur_of (i := (6, 3, .getfield 39, (2, 1, 166), 0)) (by decide +kernel)) (by decide +kernel) rfl hc_z
  replace hc_z := rn_iastore (N := 3) (q := lw.toNatClampNeg) (am_cur_of (i := (9, 1, .iastore, (0, 0, 0), 0)) (by decide +kernel)) (by decide +kernel) rfl hc_z
  obtain ⟨p3958_z, hc_z⟩ := hc_z
  replace hc_z := rn_vret (am_cur_of (i := (10, 1, .return_, (0, 0, 0), 0)) (by decide +kernel)) hc_z
  obtain ⟨e3959_z, e3960_z⟩ := hc_z
  exact ⟨e3959_z, e3960_z⟩
theorem rs_endl23 {lw : Int32} {r : Option Value} {h' : am_H} : ∀ (m : Nat) (i : Int32) (ls : am_L) (h : am_H), am_get ls 0 = some (.ref 32) → am_get ls 1 = some (.int lw) → am_get ls 2 = some (.int i) → rn m am_m52 11 ls [] h r h' → r = none ∧ ab_Fr [(37, 0)] h h' := by
  intro m
  induction m with
  | zero => intro i ls h g0_z g1_z g2_z hc_z; exact absurd hc_z rn_0
  | succ m ih_z =>
    intro i ls h g0_z g1_z g2_z hc_z
    have z0_z : (0 : Int32).toInt = 0 := by decide
    have z1_z : (1 : Int32).toInt = 1 := by decide
    replace hc_z := rn_iload_n (am_cur_of (i := (17, 1, .iload_n 2, (0, 0, 0), 0)) (by decide +kernel)) g2_z hc_z
    replace hc_z := rn_aload_n (am_cur_of (i := (18, 1, .aload_n 0, (0, 0, 0), 0)) (by decide +kernel)) g0_z hc_z
    replace hc_z := rn_getI (v := rg_v h 32 1) (am_cur_of (i := (19, 3, .getfield 39, (2, 1, 166), 0)) (by decide +kernel)) (by decide +kernel) rfl hc_z
    replace hc_z := rn_cmp (am_cur_of (i := (22, 3, .if_icmp .ge 35, (33, 0, 0), 0)) (by decide +kernel)) hc_z
    rcases hc_z with ⟨b3961_z, hc_z⟩ | ⟨b3961_z, hc_z⟩
    · replace b3961_z : (rg_v h 32 1).toInt ≤ i.toInt := b3961_z
      replace hc_z := rn_vret (am_cur_of (i := (57, 1, .return_, (0, 0, 0), 0)) (by decide +kernel)) hc_z
      obtain ⟨e3962_z, e3963_z⟩ := hc_z
      subst e3963_z
      exact ⟨e3962_z, ab_Fr_refl⟩
    · replace b3961_z : i.toInt < (rg_v h 32 1).toInt := b3961_z
      replace hc_z := rn_aload_n (am_cur_of (i := (25, 1, .aload_n 0, (0, 0, 0), 0)) (by decide +kernel)) g0_z hc_z
      replace hc_z := rn_getR (x := 33) (am_cur_of (i := (26, 3, .getfield 9, (2, 2, 167), 0)) (by decide +kernel)) (by decide +kernel) hc_z
      replace hc_z := rn_iload_n (am_cur_of (i := (29, 1, .iload_n 2, (0, 0, 0), 0)) (by decide +kernel)) g2_z hc_z
      replace hc_z := rn_iaload (N := 64) (q := i.toNatClampNeg) (v := rg_v h 33 i.toNatClampNeg) (am_cur_of (i := (30, 1, .iaload, (0, 0, 0), 0)) (by decide +kernel)) (by decide +kernel) rfl rfl hc_z
      obtain ⟨p3964_z, hc_z⟩ := hc_z
      replace hc_z := rn_iconst (w := 1) (am_cur_of (i := (31, 1, .iconst 1, (0, 0, 0), 0)) (by decide +kernel)) (by decide) hc_z
      replace hc_z := rn_cmp (am_cur_of (i := (32, 3, .if_icmp .ne 19, (31, 0, 0), 0)) (by decide +kernel)) hc_z
      rcases hc_z with ⟨b3965_z, hc_z⟩ | ⟨b3965_z, hc_z⟩
      · replace b3965_z : ¬ (rg_v h 33 i.toNatClampNeg) = (1 : Int32) ∧ ¬ (rg_v h 33 i.toNatClampNeg).toInt = (1 : Int32).toInt := b3965_z
        replace hc_z := rn_iinc (w := i + 1) (am_cur_of (i := (51, 3, .iinc 2 1, (0, 0, 0), 0)) (by decide +kernel)) g2_z rfl hc_z
        obtain ⟨_, s3966_z, s3967_z, g2_z, hc_z⟩ := hc_z
        replace g0_z := s3966_z 0 _ (by decide) rfl g0_z
        replace g1_z := s3966_z 1 _ (by decide) rfl g1_z
        clear s3966_z s3967_z
        replace hc_z := rn_gotoL (am_cur_of (i := (54, 3, .goto (-37), (11, 0, 0), 0)) (by decide +kernel)) hc_z
        exact ih_z _ _ _ g0_z g1_z g2_z hc_z
      · replace b3965_z : (rg_v h 33 i.toNatClampNeg) = (1 : Int32) ∧ (rg_v h 33 i.toNatClampNeg).toInt = (1 : Int32).toInt := b3965_z
        replace hc_z := rn_aload_n (am_cur_of (i := (35, 1, .aload_n 0, (0, 0, 0), 0)) (by decide +kernel)) g0_z hc_z
        replace hc_z := rn_getR (x := 34) (am_cur_of (i := (36, 3, .getfield 15, (2, 3, 168), 0)) (by decide +kernel)) (by decide +kernel) hc_z
        replace hc_z := rn_iload_n (am_cur_of (i := (39, 1, .iload_n 2, (0, 0, 0), 0)) (by decide +kernel)) g2_z hc_z
        replace hc_z := rn_iaload (N := 64) (q := i.toNatClampNeg) (v := rg_v h 34 i.toNatClampNeg) (am_cur_of (i := (40, 1, .iaload, (0, 0, 0), 0)) (by decide +kernel)) (by decide +kernel) rfl rfl hc_z
        obtain ⟨p3968_z, hc_z⟩ := hc_z
        replace hc_z := rn_if (am_cur_of (i := (41, 3, .ifCond .ne 10, (31, 0, 0), 0)) (by decide +kernel)) hc_z
        rcases hc_z with ⟨b3969_z, hc_z⟩ | ⟨b3969_z, hc_z⟩
        · replace b3969_z : ¬ (rg_v h 34 i.toNatClampNeg) = (0 : Int32) ∧ ¬ (rg_v h 34 i.toNatClampNeg).toInt = (0 : Int32).toInt := b3969_z
          replace hc_z := rn_iinc (w := i + 1) (am_cur_of (i := (51, 3, .iinc 2 1, (0, 0, 0), 0)) (by decide +kernel)) g2_z rfl hc_z
          obtain ⟨_, s3970_z, s3971_z, g2_z, hc_z⟩ := hc_z
          replace g0_z := s3970_z 0 _ (by decide) rfl g0_z
          replace g1_z := s3970_z 1 _ (by decide) rfl g1_z
          clear s3970_z s3971_z
          replace hc_z := rn_gotoL (am_cur_of (i := (54, 3, .goto (-37), (11, 0, 0), 0)) (by decide +kernel)) hc_z
          exact ih_z _ _ _ g0_z g1_z g2_z hc_z
        · replace b3969_z : (rg_v h 34 i.toNatClampNeg) = (0 : Int32) ∧ (rg_v h 34 i.toNatClampNeg).toInt = (0 : Int32).toInt := b3969_z
          replace hc_z := rn_aload_n (am_cur_of (i := (44, 1, .aload_n 0, (0, 0, 0), 0)) (by decide +kernel)) g0_z hc_z
          replace hc_z := rn_getR (x := 37) (am_cur_of (i := (45, 3, .getfield 24, (2, 6, 171), 0)) (by decide +kernel)) (by decide +kernel) hc_z
          replace hc_z := rn_iload_n (am_cur_of (i := (48, 1, .iload_n 1, (0, 0, 0), 0)) (by decide +kernel)) g1_z hc_z
          replace hc_z := rn_iconst (w := 1) (am_cur_of (i := (49, 1, .iconst 1, (0, 0, 0), 0)) (by decide +kernel)) (by decide) hc_z
          replace hc_z := rn_bastore (N := 3) (q := lw.toNatClampNeg) (am_cur_of (i := (50, 1, .bastore, (0, 0, 0), 0)) (by decide +kernel)) (by decide +kernel) rfl hc_z
          obtain ⟨p3972_z, hc_z⟩ := hc_z
          replace hc_z := rn_iinc (w := i + 1) (am_cur_of (i := (51, 3, .iinc 2 1, (0, 0, 0), 0)) (by decide +kernel)) g2_z rfl hc_z
          obtain ⟨_, s3973_z, s3974_z, g2_z, hc_z⟩ := hc_z
          replace g0_z := s3973_z 0 _ (by decide) rfl g0_z
          replace g1_z := s3973_z 1 _ (by decide) rfl g1_z
          clear s3973_z s3974_z
          replace hc_z := rn_gotoL (am_cur_of (i := (54, 3, .goto (-37), (11, 0, 0), 0)) (by decide +kernel)) hc_z
          obtain ⟨e1_z, e2_z⟩ := ih_z _ _ _ g0_z g1_z g2_z hc_z
          exact ⟨e1_z, ab_Fr_trans (ab_Fr_up rfl ab_Fr_refl) e2_z⟩
theorem rs_end23 {n : Nat} {h h' : am_H} {r : Option Value} {lw : Int32} (hc_z : rn n am_m52 0 (lv_args 0 [.ref 32, .int lw]) [] h r h') : r = none ∧ ab_Fr [(36, 0), (37, 0)] h h' := by
  have g0_z : am_get (lv_args 0 [.ref 32, .int lw]) 0 = some (.ref 32) := rfl
  have g1_z : am_get (lv_args 0 [.ref 32, .int lw]) 1 = some (.int lw) := rfl
  replace hc_z := rn_aload_n (am_cur_of (i := (0, 1, .aload_n 0, (0, 0, 0), 0)) (by decide +kernel)) g0_z hc_z
  replace hc_z := rn_getR (x := 36) (am_cur_of (i := (1, 3, .getfield 21, (2, 5, 170), 0)) (by decide +kernel)) (by decide +kernel) hc_z
  replace hc_z := rn_iload_n (am_cur_of (i := (4, 1, .iload_n 1, (0, 0, 0), 0)) (by decide +kernel)) g1_z hc_z
  replace hc_z := rn_aload_n (am_cur_of (i := (5, 1, .aload_n 0, (0, 0, 0), 0)) (by decide +kernel)) g0_z hc_z
  replace hc_z := rn_getI (v := rg_v h 32 1) (am_cur_of (i := (6, 3, .getfield 39, (2, 1, 166), 0)) (by decide +kernel)) (by decide +kernel) rfl hc_z
  replace hc_z := rn_iastore (N := 3) (q := lw.toNatClampNeg) (am_cur_of (i := (9, 1, .iastore, (0, 0, 0), 0)) (by decide +kernel)) (by decide +kernel) rfl hc_z
  obtain ⟨p3975_z, hc_z⟩ := hc_z
  replace hc_z := rn_aload_n (am_cur_of (i := (10, 1, .aload_n 0, (0, 0, 0), 0)) (by decide +kernel)) g0_z hc_z
  replace hc_z := rn_getR (x := 35) (am_cur_of (i := (11, 3, .getfield 18, (2, 4, 169), 0)) (by decide +kernel)) (by decide +kernel) hc_z
  replace hc_z := rn_iload_n (am_cur_of (i := (14, 1, .iload_n 1, (0, 0, 0), 0)) (by decide +kernel)) g1_z hc_z
  replace hc_z := rn_iaload (N := 3) (q := lw.toNatClampNeg) (v := rg_v h 35 lw.toNatClampNeg) (am_cur_of (i := (15, 1, .iaload, (0, 0, 0), 0)) (by decide +kernel)) (by decide +kernel) rfl (show rg_v (am_up h 36 lw.toNatClampNeg (.int (rg_v h 32 1))) 35 lw.toNatClampNeg = rg_v h 35 lw.toNatClampNeg from rfl) hc_z
  obtain ⟨p3976_z, hc_z⟩ := hc_z
  replace hc_z := rn_istore_n (am_cur_of (i := (16, 1, .istore_n 2, (0, 0, 0), 0)) (by decide +kernel)) hc_z
  obtain ⟨_, s3977_z, s3978_z, g2_z, hc_z⟩ := hc_z
  replace g0_z := s3977_z 0 _ (by decide) rfl g0_z
  replace g1_z := s3977_z 1 _ (by decide) rfl g1_z
  clear s3977_z s3978_z
  obtain ⟨e1_z, e2_z⟩ := rs_endl23 _ _ _ _ g0_z g1_z g2_z hc_z
  exact ⟨e1_z, ab_Fr_trans (ab_Fr_up rfl ab_Fr_refl) (ab_Fr_sub (by decide) e2_z)⟩
/-- how a law ends: the third, where the class has seen no more signs, and the model's fault is 1 there -/
def lw_3 (p : Int32) (h' g' : am_H) : Prop := rg_v h' 44 1 = 0 ∧ rg_v h' 44 9 = p ∧ ¬ (rg_v h' 44 10 = 5 ∧ rg_v h' 44 11 = 59) ∧ rg_v g' 164 4 = 1 ∧ rg_v g' 164 5 = p
def lw_Q (T : Nat → Int32) (S x : Int32) (d : Nat) (h' g' : am_H) (r' : Option Value) : Prop := (r' = some (.int 1) ∧ ∃ x2_z p2_z, rq T S x2_z p2_z d h' g' ∧ x.toInt ≤ p2_z.toInt ∧ rp d h' g' ∧ rp_t h' g') ∨ (r' = some (.int 0) ∧ ∃ p2_z, rq_F p2_z h' g') ∨ (r' = some (.int 0) ∧ ∃ p2_z, lw_3 p2_z h' g')
theorem lw_t2 {T : Nat → Int32} {S x p lw : Int32} {n n' : Nat} {h h' g g' : am_H} {r r' : Option Value} {ls ls2_z : am_L} (R : rq T S x p 2 h g) (A : rp 2 h g) (B : rp_t h g) (Z : rs 2 h g) (g0_z : am_get ls 0 = some (.ref 44)) (g1_z : am_get ls 1 = some (.int lw)) (g0m : am_get ls2_z 0 = some (.ref 164)) (hc_z : rn n am_m42 80 ls [] h r h') (hm_z : rn n' am_m170 37 ls2_z [] g r' g') : r' = some (.int 1) ∧ rq T S x p 2 h' g' ∧ rp 2 h' g' ∧ rp_t h' g' := by
  replace hc_z := rn_aload_n (am_cur_of (i := (143, 1, .aload_n 0, (0, 0, 0), 0)) (by decide +kernel)) g0_z hc_z
  replace hc_z := rn_iconst (w := 3) (am_cur_of (i := (144, 1, .iconst 3, (0, 0, 0), 0)) (by decide +kernel)) (by decide) hc_z
  replace hc_z := rn_callV (M' := am_m46) (o := 44) (ar := [.int 3]) (rest := []) (L := lv_args 0 [.ref 44, .int 3]) (am_cur_of (i := (145, 3, .invokevirtual 264, (46, 838, 3), 0)) (by decide +kernel)) rfl rfl rfl rfl hc_z
  obtain ⟨r3979_z, h3980_z, q3981_z, hc_z⟩ := hc_z
  replace hm_z := rn_aload_n (am_cur_of (i := (74, 1, .aload_n 0, (0, 0, 0), 0)) (by decide +kernel)) g0m hm_z
  replace hm_z := rn_iconst (w := 1) (am_cur_of (i := (75, 1, .iconst 1, (0, 0, 0), 0)) (by decide +kernel)) (by decide) hm_z
  replace hm_z := rn_callV (M' := am_m179) (o := 164) (ar := [.int 1]) (rest := []) (L := lv_args 0 [.ref 164, .int 1]) (am_cur_of (i := (76, 3, .invokevirtual 318, (179, 1747, 3), 0)) (by decide +kernel)) rfl rfl rfl rfl hm_z
  obtain ⟨r3982_z, h3983_z, q3984_z, hm_z⟩ := hm_z
  obtain ⟨rfl, rfl, FC, FM, R1, A1, B1, Z1, -⟩ := rz_set2 rs_l3 (by decide) R A B Z q3981_z q3984_z
  replace hm_z : rn _ _ _ _ [] _ _ _ := hm_z
  replace hc_z : rn _ _ _ _ [] _ _ _ := hc_z
  replace hc_z := rn_aload_n (am_cur_of (i := (148, 1, .aload_n 0, (0, 0, 0), 0)) (by decide +kernel)) g0_z hc_z
  replace hc_z := rn_getM (x := 2) (am_cur_of (i := (149, 3, .getfield 25, (4, 6, 415), 0)) (by decide +kernel)) R1.2.2.1 hc_z
  replace hc_z := rn_getR (x := 11) (am_cur_of (i := (152, 3, .getfield 242, (1, 19, 316), 0)) (by decide +kernel)) (by decide +kernel) hc_z
  replace hc_z := rn_iload_n (am_cur_of (i := (155, 1, .iload_n 1, (0, 0, 0), 0)) (by decide +kernel)) g1_z hc_z
  replace hc_z := rn_callV (M' := am_m52) (o := 11) (ar := [.int lw]) (rest := []) (L := lv_args 0 [.ref 11, .int lw]) (am_cur_of (i := (156, 3, .invokevirtual 267, (52, 864, 3), 0)) (by decide +kernel)) rfl rfl rfl rfl hc_z
  obtain ⟨r3985_z, h3986_z, q3987_z, hc_z⟩ := hc_z
  obtain ⟨rfl, EF⟩ := rs_end2 q3987_z
  replace hc_z : rn _ _ _ _ [] _ _ _ := hc_z
  replace hc_z := rn_vret (am_cur_of (i := (159, 1, .return_, (0, 0, 0), 0)) (by decide +kernel)) hc_z
  obtain ⟨e3988_z, e3989_z⟩ := hc_z
  subst e3989_z
  replace hm_z := rn_iconst (w := 1) (am_cur_of (i := (79, 1, .iconst 1, (0, 0, 0), 0)) (by decide +kernel)) (by decide) hm_z
  replace hm_z := rn_iret (am_cur_of (i := (80, 1, .ireturn, (0, 0, 0), 0)) (by decide +kernel)) hm_z
  obtain ⟨e3990_z, e3991_z⟩ := hm_z
  subst e3991_z
  exact ⟨e3990_z, ry_rq2 R1 (ab_Fr_sub (by decide) EF) ab_Fr_refl, ry_p2 A1 (ab_Fr_sub (by decide) EF) ab_Fr_refl (by rw [rg_v_fr EF (by decide)]; exact A1.2.2.2.2.2.1.1) (by rw [rg_v_fr EF (by decide)]; exact A1.2.2.2.2.2.1.2.1) (by rw [rg_v_fr EF (by decide)]; exact A1.2.2.2.2.2.1.2.2), ry_t2 B1 (ab_Fr_sub (by decide) EF) ab_Fr_refl⟩
def re_P6 (v : Value) (h : am_H) : Prop := rg_Gd h ∧ h 44 6 = v
theorem re_wP6 (v : Value) : rw_P re_w (re_P6 v) := by
  refine ⟨fun h o ci_z f u hP hk_z hc_z hf_z => ?_, fun _ h o r n ty u hP hk_z ht hq_z hf_z => ?_⟩
  · have hc_z' : (!(Nat.beq (rg_cl ci_z f) 9) && (!(Nat.beq ci_z 4) || Nat.beq f 13)) = true := hc_z
    rw [Bool.and_eq_true] at hc_z'
    refine ⟨rn_wP.1 h o ci_z f u hP.1 hk_z hc_z'.1 hf_z, ?_⟩
    by_cases ho : (44 : Nat) = o
    · subst ho
      by_cases h6_z : 6 = f
      · subst h6_z
        rw [rs_k44] at hk_z
        cases hk_z
        exact absurd hc_z'.2 (by decide)
      · exact (am_up_same _ _ _ _ _ h6_z).trans hP.2
    · exact (by rw [am_up_other _ _ _ _ _ ho] : am_up h o f u 44 6 = h 44 6).trans hP.2
  · have ho : ¬ (44 : Nat) = o := by
      intro e1_z
      subst e1_z
      rw [rs_k44] at hk_z
      cases hk_z
    exact ⟨rn_wP.2 rfl h o r n ty u hP.1 hk_z ht hq_z hf_z, (by rw [am_up_other _ _ _ _ _ ho] : am_up h o r u 44 6 = h 44 6).trans hP.2⟩
theorem re_ref46 {n k : Nat} {ls : am_L} {st : List Value} {h h' : am_H} {r : Option Value} (hr : rn n am_m46 k ls st h r h') : h' 44 6 = h 44 6 := by
  obtain ⟨-, hG, nc, ns, m, -, hrun⟩ := hr
  have hK : rw_K re_w am_m46.2.2.2 := re_K (a := 46) (by decide) rfl
  exact (rw_run (re_wP6 (h 44 6)) (fun a M ha_z hM => Or.inl (re_K ha_z hM)) m am_m46 _ ls st h nc ns _ hK (fun j hj_z => hK j (List.mem_of_mem_drop hj_z)) ⟨hG, rfl⟩ hrun).2.2
theorem lw_u2 {lw : Int32} {n : Nat} {h h' : am_H} {r : Option Value} {ls : am_L} (R3 : h 44 6 = .ref 2) (g0_z : am_get ls 0 = some (.ref 44)) (g1_z : am_get ls 1 = some (.int lw)) (hc_z : rn n am_m42 80 ls [] h r h') : ∀ j, ¬ j = 13 → rg_v h' 44 j = rg_v h 44 j := by
  replace hc_z := rn_aload_n (am_cur_of (i := (143, 1, .aload_n 0, (0, 0, 0), 0)) (by decide +kernel)) g0_z hc_z
  replace hc_z := rn_iconst (w := 3) (am_cur_of (i := (144, 1, .iconst 3, (0, 0, 0), 0)) (by decide +kernel)) (by decide) hc_z
  replace hc_z := rn_callV (M' := am_m46) (o := 44) (ar := [.int 3]) (rest := []) (L := lv_args 0 [.ref 44, .int 3]) (am_cur_of (i := (145, 3, .invokevirtual 264, (46, 838, 3), 0)) (by decide +kernel)) rfl rfl rfl rfl hc_z
  obtain ⟨r3992_z, h3993_z, q3994_z, hc_z⟩ := hc_z
  have vo := rn_void rfl q3994_z
  subst vo
  have k1_z := re_keep (a := 46) (by decide) rfl q3994_z
  have k1r : h3993_z 44 6 = h 44 6 := re_ref46 q3994_z
  replace hc_z : rn _ _ _ _ [] _ _ _ := hc_z
  replace hc_z := rn_aload_n (am_cur_of (i := (148, 1, .aload_n 0, (0, 0, 0), 0)) (by decide +kernel)) g0_z hc_z
  replace hc_z := rn_getM (x := 2) (am_cur_of (i := (149, 3, .getfield 25, (4, 6, 415), 0)) (by decide +kernel)) (k1r.trans R3) hc_z
  replace hc_z := rn_getR (x := 11) (am_cur_of (i := (152, 3, .getfield 242, (1, 19, 316), 0)) (by decide +kernel)) (by decide +kernel) hc_z
  replace hc_z := rn_iload_n (am_cur_of (i := (155, 1, .iload_n 1, (0, 0, 0), 0)) (by decide +kernel)) g1_z hc_z
  replace hc_z := rn_callV (M' := am_m52) (o := 11) (ar := [.int lw]) (rest := []) (L := lv_args 0 [.ref 11, .int lw]) (am_cur_of (i := (156, 3, .invokevirtual 267, (52, 864, 3), 0)) (by decide +kernel)) rfl rfl rfl rfl hc_z
  obtain ⟨r3995_z, h3996_z, q3997_z, hc_z⟩ := hc_z
  have vo := rn_void rfl q3997_z
  subst vo
  have k2_z := re_keep (a := 52) (by decide) rfl q3997_z
  replace hc_z : rn _ _ _ _ [] _ _ _ := hc_z
  replace hc_z := rn_vret (am_cur_of (i := (159, 1, .return_, (0, 0, 0), 0)) (by decide +kernel)) hc_z
  obtain ⟨e3998_z, e3999_z⟩ := hc_z
  subst e3999_z
  exact fun j hj_z => (k2_z j hj_z).trans (k1_z j hj_z)
theorem lw_t23 {T : Nat → Int32} {S x p lw : Int32} {n n' : Nat} {h h' g g' : am_H} {r r' : Option Value} {ls ls2_z : am_L} (R : rq T S x p 23 h g) (A : rp 23 h g) (B : rp_t h g) (Z : rs 23 h g) (g0_z : am_get ls 0 = some (.ref 44)) (g1_z : am_get ls 1 = some (.int lw)) (g0m : am_get ls2_z 0 = some (.ref 164)) (hc_z : rn n am_m42 80 ls [] h r h') (hm_z : rn n' am_m170 37 ls2_z [] g r' g') : r' = some (.int 1) ∧ rq T S x p 23 h' g' ∧ rp 23 h' g' ∧ rp_t h' g' := by
  replace hc_z := rn_aload_n (am_cur_of (i := (143, 1, .aload_n 0, (0, 0, 0), 0)) (by decide +kernel)) g0_z hc_z
  replace hc_z := rn_iconst (w := 3) (am_cur_of (i := (144, 1, .iconst 3, (0, 0, 0), 0)) (by decide +kernel)) (by decide) hc_z
  replace hc_z := rn_callV (M' := am_m46) (o := 44) (ar := [.int 3]) (rest := []) (L := lv_args 0 [.ref 44, .int 3]) (am_cur_of (i := (145, 3, .invokevirtual 264, (46, 838, 3), 0)) (by decide +kernel)) rfl rfl rfl rfl hc_z
  obtain ⟨r4000_z, h4001_z, q4002_z, hc_z⟩ := hc_z
  replace hm_z := rn_aload_n (am_cur_of (i := (74, 1, .aload_n 0, (0, 0, 0), 0)) (by decide +kernel)) g0m hm_z
  replace hm_z := rn_iconst (w := 1) (am_cur_of (i := (75, 1, .iconst 1, (0, 0, 0), 0)) (by decide +kernel)) (by decide) hm_z
  replace hm_z := rn_callV (M' := am_m179) (o := 164) (ar := [.int 1]) (rest := []) (L := lv_args 0 [.ref 164, .int 1]) (am_cur_of (i := (76, 3, .invokevirtual 318, (179, 1747, 3), 0)) (by decide +kernel)) rfl rfl rfl rfl hm_z
  obtain ⟨r4003_z, h4004_z, q4005_z, hm_z⟩ := hm_z
  obtain ⟨rfl, rfl, FC, FM, R1, A1, B1, Z1, -⟩ := rz_set23 rs_l3 (by decide) R A B Z q4002_z q4005_z
  replace hm_z : rn _ _ _ _ [] _ _ _ := hm_z
  replace hc_z : rn _ _ _ _ [] _ _ _ := hc_z
  replace hc_z := rn_aload_n (am_cur_of (i := (148, 1, .aload_n 0, (0, 0, 0), 0)) (by decide +kernel)) g0_z hc_z
  replace hc_z := rn_getM (x := 23) (am_cur_of (i := (149, 3, .getfield 25, (4, 6, 415), 0)) (by decide +kernel)) R1.2.2.1 hc_z
  replace hc_z := rn_getR (x := 32) (am_cur_of (i := (152, 3, .getfield 242, (1, 19, 316), 0)) (by decide +kernel)) (by decide +kernel) hc_z
  replace hc_z := rn_iload_n (am_cur_of (i := (155, 1, .iload_n 1, (0, 0, 0), 0)) (by decide +kernel)) g1_z hc_z
  replace hc_z := rn_callV (M' := am_m52) (o := 32) (ar := [.int lw]) (rest := []) (L := lv_args 0 [.ref 32, .int lw]) (am_cur_of (i := (156, 3, .invokevirtual 267, (52, 864, 3), 0)) (by decide +kernel)) rfl rfl rfl rfl hc_z
  obtain ⟨r4006_z, h4007_z, q4008_z, hc_z⟩ := hc_z
  obtain ⟨rfl, EF⟩ := rs_end23 q4008_z
  replace hc_z : rn _ _ _ _ [] _ _ _ := hc_z
  replace hc_z := rn_vret (am_cur_of (i := (159, 1, .return_, (0, 0, 0), 0)) (by decide +kernel)) hc_z
  obtain ⟨e4009_z, e4010_z⟩ := hc_z
  subst e4010_z
  replace hm_z := rn_iconst (w := 1) (am_cur_of (i := (79, 1, .iconst 1, (0, 0, 0), 0)) (by decide +kernel)) (by decide) hm_z
  replace hm_z := rn_iret (am_cur_of (i := (80, 1, .ireturn, (0, 0, 0), 0)) (by decide +kernel)) hm_z
  obtain ⟨e4011_z, e4012_z⟩ := hm_z
  subst e4012_z
  exact ⟨e4011_z, ry_rq23 R1 (ab_Fr_sub (by decide) EF) ab_Fr_refl, ry_p23 A1 (ab_Fr_sub (by decide) EF) ab_Fr_refl (by rw [rg_v_fr EF (by decide)]; exact A1.2.2.2.2.2.1.1) (by rw [rg_v_fr EF (by decide)]; exact A1.2.2.2.2.2.1.2.1) (by rw [rg_v_fr EF (by decide)]; exact A1.2.2.2.2.2.1.2.2), ry_t23 B1 (ab_Fr_sub (by decide) EF) ab_Fr_refl⟩
theorem lw_u23 {lw : Int32} {n : Nat} {h h' : am_H} {r : Option Value} {ls : am_L} (R3 : h 44 6 = .ref 23) (g0_z : am_get ls 0 = some (.ref 44)) (g1_z : am_get ls 1 = some (.int lw)) (hc_z : rn n am_m42 80 ls [] h r h') : ∀ j, ¬ j = 13 → rg_v h' 44 j = rg_v h 44 j := by
  replace hc_z := rn_aload_n (am_cur_of (i := (143, 1, .aload_n 0, (0, 0, 0), 0)) (by decide +kernel)) g0_z hc_z
  replace hc_z := rn_iconst (w := 3) (am_cur_of (i := (144, 1, .iconst 3, (0, 0, 0), 0)) (by decide +kernel)) (by decide) hc_z
  replace hc_z := rn_callV (M' := am_m46) (o := 44) (ar := [.int 3]) (rest := []) (L := lv_args 0 [.ref 44, .int 3]) (am_cur_of (i := (145, 3, .invokevirtual 264, (46, 838, 3), 0)) (by decide +kernel)) rfl rfl rfl rfl hc_z
  obtain ⟨r4013_z, h4014_z, q4015_z, hc_z⟩ := hc_z
  have vo := rn_void rfl q4015_z
  subst vo
  have k1_z := re_keep (a := 46) (by decide) rfl q4015_z
  have k1r : h4014_z 44 6 = h 44 6 := re_ref46 q4015_z
  replace hc_z : rn _ _ _ _ [] _ _ _ := hc_z
  replace hc_z := rn_aload_n (am_cur_of (i := (148, 1, .aload_n 0, (0, 0, 0), 0)) (by decide +kernel)) g0_z hc_z
  replace hc_z := rn_getM (x := 23) (am_cur_of (i := (149, 3, .getfield 25, (4, 6, 415), 0)) (by decide +kernel)) (k1r.trans R3) hc_z
  replace hc_z := rn_getR (x := 32) (am_cur_of (i := (152, 3, .getfield 242, (1, 19, 316), 0)) (by decide +kernel)) (by decide +kernel) hc_z
  replace hc_z := rn_iload_n (am_cur_of (i := (155, 1, .iload_n 1, (0, 0, 0), 0)) (by decide +kernel)) g1_z hc_z
  replace hc_z := rn_callV (M' := am_m52) (o := 32) (ar := [.int lw]) (rest := []) (L := lv_args 0 [.ref 32, .int lw]) (am_cur_of (i := (156, 3, .invokevirtual 267, (52, 864, 3), 0)) (by decide +kernel)) rfl rfl rfl rfl hc_z
  obtain ⟨r4016_z, h4017_z, q4018_z, hc_z⟩ := hc_z
  have vo := rn_void rfl q4018_z
  subst vo
  have k2_z := re_keep (a := 52) (by decide) rfl q4018_z
  replace hc_z : rn _ _ _ _ [] _ _ _ := hc_z
  replace hc_z := rn_vret (am_cur_of (i := (159, 1, .return_, (0, 0, 0), 0)) (by decide +kernel)) hc_z
  obtain ⟨e4019_z, e4020_z⟩ := hc_z
  subst e4020_z
  exact fun j hj_z => (k2_z j hj_z).trans (k1_z j hj_z)
