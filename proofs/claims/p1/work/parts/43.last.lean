/-! ===== LASTS, FIRM ===== -/
def am_la : Nat → Nat → Nat → Nat
  | 0, _, _ => 0
  | d + 1, f, b => if f < b then 0 else am_la d (am_nf f) b + 1
theorem am_la_lt {d f b : Nat} (h : f < b) : am_la (d + 1) f b = 0 := if_pos h
theorem am_la_ge {d f b : Nat} (h : b ≤ f) : am_la (d + 1) f b = am_la d (am_nf f) b + 1 := if_neg (Nat.not_lt.mpr h)
theorem am_la_le : ∀ (d f b : Nat), am_la d f b ≤ d
  | 0, _, _ => Nat.le_refl 0
  | d + 1, f, b => by
    rcases Nat.lt_or_ge f b with h | h
    · rw [am_la_lt h]; exact Nat.zero_le _
    · rw [am_la_ge h]; exact Nat.succ_le_succ (am_la_le d _ b)
def am_fi : Nat → Nat → Nat → Nat → Int32
  | 0, _, _, _ => -2
  | d + 1, x, m, b => if am_la m x b < m then am_fi d (x + 1) m b else nI x
theorem am_fi_lt {d x m b : Nat} (h : am_la m x b < m) : am_fi (d + 1) x m b = am_fi d (x + 1) m b := if_pos h
theorem am_fi_ge {d x m b : Nat} (h : m ≤ am_la m x b) : am_fi (d + 1) x m b = nI x := if_neg (Nat.not_lt.mpr h)
def am_saQ : List (Nat × Nat) := [(17, 0), (17, 1), (17, 2), (17, 3), (17, 4), (17, 5), (148, 6), (149, 0), (149, 1)]
def am_saR : List (Nat × Nat × Value) := [(0, 11, .ref 148), (148, 1, .ref 149), (148, 5, .int 2147483647), (148, 0, .ref 2), (2, 19, .ref 11), (11, 7, .ref 17), (2, 0, .int 500), (11, 6, .ref 16), (16, 0, .int 0), (11, 4, .ref 14), (14, 0, .int 0), (11, 5, .ref 15), (15, 0, .int 0), (148, 4, .int 0), (148, 2, .int (-1))]
theorem am_sa_l {h00 : am_H} {Q : Option Value → List am_k → am_H → Prop} {m b fin : Nat} (hm : m ≤ 3600) (hb : b ≤ 9999) (hG : am_Ts h00 am_saR)
    (K : ∀ h', am_Fr am_saQ h00 h' → Q (some (.int (nI fin))) am_ks0 h') :
    ∀ (d g f s : Nat) (lst : Int32) (h : am_H), g + d = m → f ≤ 500 → s + d ≤ 200000 → g + am_la d f b = fin → am_Fr am_saQ h00 h → h 149 0 = .int (nI f) → h 149 1 = .int (nI s) → h 148 6 = .int lst →
      am_Ek false am_G0 am_m48 14 [(0, .ref 0), (2, .int (nI b)), (3, .int (nI m)), (4, .int (nI g))] [] am_ks0 h 0 0 Q := by
  intro d
  induction d with
  | zero =>
    intro g f s lst h hin hf hs hfin F e0 e1 e2
    have hin : g = m := hin
    have hfin : g = fin := hfin
    rw [← hfin] at K
    refine am_e_iload n48_14 rfl ?_
    refine am_e_iload_n n48_15 rfl ?_
    refine am_e_cmpT n48_16 (am_c_geT (by rw [hin]; exact am_lt_irr _)) t48_16 ?_
    refine am_e_iload n48_31 rfl ?_
    refine am_e_iret c48_32 rfl rfl rfl ?_
    exact K _ F
  | succ d ih =>
    intro g f s lst h hin hf hs hfin F e0 e1 e2
    rcases Nat.lt_or_ge f b with hfb | hfb
    · rw [am_la_lt hfb] at hfin
      have hfin : g = fin := hfin
      rw [← hfin] at K
      refine am_e_iload n48_14 rfl ?_
      refine am_e_iload_n n48_15 rfl ?_
      refine am_e_cmpF n48_16 (am_c_geF (nI_lt (by omega) (by omega))) ?_
      refine am_e_aload_n n48_17 rfl ?_
      refine am_e_getf (v := .ref 148) n48_18 rfl ((F 0 11 rfl).trans (hG.1)) ?_
      refine am_e_getf (v := .ref 149) n48_19 rfl ((F 148 1 rfl).trans (hG.2.1)) ?_
      refine am_e_getf (v := .int (nI f)) n48_20 rfl e0 ?_
      refine am_e_iload_n n48_21 rfl ?_
      refine am_e_cmpT n48_22 (am_c_ltT (nI_lt hfb (by omega))) t48_22 ?_
      refine am_e_iload n48_31 rfl ?_
      refine am_e_iret c48_32 rfl rfl rfl ?_
      exact K _ F
    · skip
      refine am_e_iload n48_14 rfl ?_
      refine am_e_iload_n n48_15 rfl ?_
      refine am_e_cmpF n48_16 (am_c_geF (nI_lt (by omega) (by omega))) ?_
      refine am_e_aload_n n48_17 rfl ?_
      refine am_e_getf (v := .ref 148) n48_18 rfl ((F 0 11 rfl).trans (hG.1)) ?_
      refine am_e_getf (v := .ref 149) n48_19 rfl ((F 148 1 rfl).trans (hG.2.1)) ?_
      refine am_e_getf (v := .int (nI f)) n48_20 rfl e0 ?_
      refine am_e_iload_n n48_21 rfl ?_
      refine am_e_cmpF n48_22 (am_c_ltF (nI_nlt hfb (by omega))) ?_
      refine am_e_aload_n n48_23 rfl ?_
      refine am_e_getf (v := .ref 148) n48_24 rfl ((F 0 11 rfl).trans (hG.1)) ?_
      refine am_e_iconst (w := 1) n48_25 rfl ?_
      refine am_e_iconst (w := 0) n48_26 rfl ?_
      refine am_e_callV (L := [(0, .ref 148), (1, .int 1), (2, .int 0)]) n48_27 rfl rfl rfl rfl rfl rfl rfl rfl ?_
      refine am_goBy0 (n := 1) (f := f) (s := s) (by omega) ⟨((F 148 1 rfl).trans (hG.2.1)), ((F 148 5 rfl).trans (hG.2.2.1)), ((F 148 0 rfl).trans (hG.2.2.2.1)), ((F 2 19 rfl).trans (hG.2.2.2.2.1)), ((F 11 7 rfl).trans (hG.2.2.2.2.2.1)), ((F 2 0 rfl).trans (hG.2.2.2.2.2.2.1)), ((F 11 6 rfl).trans (hG.2.2.2.2.2.2.2.1)), ((F 16 0 rfl).trans (hG.2.2.2.2.2.2.2.2.1)), ((F 11 4 rfl).trans (hG.2.2.2.2.2.2.2.2.2.1)), ((F 14 0 rfl).trans (hG.2.2.2.2.2.2.2.2.2.2.1)), ((F 11 5 rfl).trans (hG.2.2.2.2.2.2.2.2.2.2.2.1)), ((F 15 0 rfl).trans (hG.2.2.2.2.2.2.2.2.2.2.2.2.1)), ((F 148 4 rfl).trans (hG.2.2.2.2.2.2.2.2.2.2.2.2.2.1)), ((F 148 2 rfl).trans (hG.2.2.2.2.2.2.2.2.2.2.2.2.2.2.1)), trivial⟩ hf (by omega) e0 e1 e2 ?_
      intro h16 F16 qa16 qb16 qc16
      obtain ⟨l16, qc16⟩ := qc16
      refine am_e_pop n48_28 rfl ?_
      refine am_e_iinc (w := (nI (g + 1))) (ls' := [(4, .int (nI (g + 1))), (0, .ref 0), (2, .int (nI b)), (3, .int (nI m))]) n48_29 rfl rfl (am_inc _) rfl ?_
      refine am_e_goto c48_30 t48_30 ?_
      refine am_Ek_ls (ls' := [(0, .ref 0), (2, .int (nI b)), (3, .int (nI m)), (4, .int (nI (g + 1)))]) ⟨rfl, rfl, rfl, rfl, trivial⟩ ?_
      exact ih (g + 1) (am_nf f) (s + 1) _ _ (by omega) (am_nf_le hf) (by omega) (by rw [am_la_ge hfb] at hfin; omega) (am_Fr_trans F (am_Fr_sub rfl F16)) qa16 qb16 qc16
theorem am_sa_s {h : am_H} {Q : Option Value → List am_k → am_H → Prop} {m b f : Nat} {lst : Int32} (hm : m ≤ 3600) (hb : b ≤ 9999) (hG : am_Ts h am_saR)
    (K : ∀ h', am_Fr am_saQ h h' → Q (some (.int (nI (am_la m f b)))) am_ks0 h') (hf : f ≤ 500) (e0 : h 149 0 = .int (nI f)) (e1 : h 149 1 = .int (nI 0)) (e2 : h 148 6 = .int lst) : am_Ek false am_G0 am_m48 14 [(0, .ref 0), (2, .int (nI b)), (3, .int (nI m)), (4, .int (nI 0))] [] am_ks0 h 0 0 Q :=
  am_sa_l hm hb hG K m 0 f 0 lst h (Nat.zero_add m) hf (by omega) (Nat.zero_add _) am_Fr_refl e0 e1 e2
def am_saM : List (Nat × Nat) := [(17, 0), (17, 1), (17, 2), (17, 3), (17, 4), (17, 5), (148, 0), (148, 2), (148, 3), (148, 4), (148, 5), (148, 6), (149, 0), (149, 1), (149, 2), (149, 3), (149, 4), (150, 0), (150, 1), (150, 2), (150, 3), (151, 0), (151, 1), (151, 2), (151, 3), (152, 0), (152, 1), (152, 2), (152, 3)]
def am_saL : List (Nat × Nat × Value) := [(0, 11, .ref 148), (0, 2, .ref 2), (0, 5, .ref 48), (148, 1, .ref 149), (48, 0, .int 0), (48, 1, .int 0), (48, 2, .int (-1)), (48, 3, .int 0), (48, 4, .int 0), (149, 5, .ref 150), (48, 5, .ref 49), (49, 0, .int 0), (149, 6, .ref 151), (48, 6, .ref 50), (50, 0, .int 0), (149, 7, .ref 152), (48, 7, .ref 51), (51, 0, .int 0), (49, 1, .int 0), (50, 1, .int 0), (51, 1, .int 0), (49, 2, .int 0), (50, 2, .int 0), (51, 2, .int 0), (49, 3, .int 0), (50, 3, .int 0), (51, 3, .int 0), (2, 18, .int (-1)), (2, 19, .ref 11), (11, 7, .ref 17), (2, 0, .int 500), (11, 6, .ref 16), (16, 0, .int 0), (11, 4, .ref 14), (14, 0, .int 0), (11, 5, .ref 15), (15, 0, .int 0)]
theorem am_sa {h : am_H} {Q : Option Value → List am_k → am_H → Prop} {m b f : Nat} (hm : m ≤ 3600) (hb : b ≤ 9999) (hf : f ≤ 500) (hG : am_Ts h am_saL)
    (K : ∀ h', am_Fr am_saM h h' → Q (some (.int (nI (am_la m f b)))) am_ks0 h') : am_Ek false am_G0 am_m48 0 [(0, .ref 0), (1, .int (nI f)), (2, .int (nI b)), (3, .int (nI m))] [] am_ks0 h 0 0 Q := by
  refine am_e_aload_n n48_0 rfl ?_
  refine am_e_getf (v := .ref 148) n48_1 rfl (hG.1) ?_
  refine am_e_aload_n n48_2 rfl ?_
  refine am_e_getf (v := .ref 2) n48_3 rfl (hG.2.1) ?_
  refine am_e_aload_n n48_4 rfl ?_
  refine am_e_getf (v := .ref 48) n48_5 rfl (hG.2.2.1) ?_
  refine am_e_callV (L := [(0, .ref 148), (1, .ref 2), (2, .ref 48)]) n48_6 rfl rfl rfl rfl rfl rfl rfl rfl ?_
  refine am_e_aload_n n31_0 rfl ?_
  refine am_e_aload_n n31_1 rfl ?_
  refine am_e_putf n31_2 rfl rfl ?_
  refine am_e_aload_n n31_3 rfl ?_
  refine am_e_getf (v := .ref 149) n31_4 rfl (hG.2.2.2.1) ?_
  refine am_e_aload_n n31_5 rfl ?_
  refine am_e_callV (L := [(0, .ref 149), (1, .ref 48)]) n31_6 rfl rfl rfl rfl rfl rfl rfl rfl ?_
  refine am_e_aload_n n32_0 rfl ?_
  refine am_e_aload_n n32_1 rfl ?_
  refine am_e_getf (v := .int 0) n32_2 rfl (hG.2.2.2.2.1) ?_
  refine am_e_putf n32_3 rfl rfl ?_
  refine am_e_aload_n n32_4 rfl ?_
  refine am_e_aload_n n32_5 rfl ?_
  refine am_e_getf (v := .int 0) n32_6 rfl (hG.2.2.2.2.2.1) ?_
  refine am_e_putf n32_7 rfl rfl ?_
  refine am_e_aload_n n32_8 rfl ?_
  refine am_e_aload_n n32_9 rfl ?_
  refine am_e_getf (v := .int (-1)) n32_10 rfl (hG.2.2.2.2.2.2.1) ?_
  refine am_e_putf n32_11 rfl rfl ?_
  refine am_e_aload_n n32_12 rfl ?_
  refine am_e_aload_n n32_13 rfl ?_
  refine am_e_getf (v := .int 0) n32_14 rfl (hG.2.2.2.2.2.2.2.1) ?_
  refine am_e_putf n32_15 rfl rfl ?_
  refine am_e_aload_n n32_16 rfl ?_
  refine am_e_aload_n n32_17 rfl ?_
  refine am_e_getf (v := .int 0) n32_18 rfl (hG.2.2.2.2.2.2.2.2.1) ?_
  refine am_e_putf n32_19 rfl rfl ?_
  refine am_e_iconst (w := 0) n32_20 rfl ?_
  refine am_e_istore_n (ls' := [(2, .int 0), (0, .ref 149), (1, .ref 48)]) n32_21 rfl rfl ?_
  refine am_e_iload_n n32_22 rfl ?_
  refine am_e_iconst (w := 4) n32_23 rfl ?_
  refine am_e_cmpF n32_24 (am_c_geF (by decide)) ?_
  refine am_e_aload_n n32_25 rfl ?_
  refine am_e_getf (v := .ref 150) n32_26 rfl (hG.2.2.2.2.2.2.2.2.2.1) ?_
  refine am_e_iload_n n32_27 rfl ?_
  refine am_e_aload_n n32_28 rfl ?_
  refine am_e_getf (v := .ref 49) n32_29 rfl (hG.2.2.2.2.2.2.2.2.2.2.1) ?_
  refine am_e_iload_n n32_30 rfl ?_
  refine am_e_iaload (v := 0) (q := 0) n32_31 rfl (by decide) (by decide) (hG.2.2.2.2.2.2.2.2.2.2.2.1) ?_
  refine am_e_iastore (q := 0) n32_32 rfl (by decide) (by decide) ?_
  refine am_e_aload_n n32_33 rfl ?_
  refine am_e_getf (v := .ref 151) n32_34 rfl (hG.2.2.2.2.2.2.2.2.2.2.2.2.1) ?_
  refine am_e_iload_n n32_35 rfl ?_
  refine am_e_aload_n n32_36 rfl ?_
  refine am_e_getf (v := .ref 50) n32_37 rfl (hG.2.2.2.2.2.2.2.2.2.2.2.2.2.1) ?_
  refine am_e_iload_n n32_38 rfl ?_
  refine am_e_iaload (v := 0) (q := 0) n32_39 rfl (by decide) (by decide) (hG.2.2.2.2.2.2.2.2.2.2.2.2.2.2.1) ?_
  refine am_e_iastore (q := 0) n32_40 rfl (by decide) (by decide) ?_
  refine am_e_aload_n n32_41 rfl ?_
  refine am_e_getf (v := .ref 152) n32_42 rfl (hG.2.2.2.2.2.2.2.2.2.2.2.2.2.2.2.1) ?_
  refine am_e_iload_n n32_43 rfl ?_
  refine am_e_aload_n n32_44 rfl ?_
  refine am_e_getf (v := .ref 51) n32_45 rfl (hG.2.2.2.2.2.2.2.2.2.2.2.2.2.2.2.2.1) ?_
  refine am_e_iload_n n32_46 rfl ?_
  refine am_e_iaload (v := 0) (q := 0) n32_47 rfl (by decide) (by decide) (hG.2.2.2.2.2.2.2.2.2.2.2.2.2.2.2.2.2.1) ?_
  refine am_e_iastore (q := 0) n32_48 rfl (by decide) (by decide) ?_
  refine am_e_iinc (w := 1) (ls' := [(2, .int 1), (0, .ref 149), (1, .ref 48)]) n32_49 rfl rfl (by decide) rfl ?_
  refine am_e_goto c32_50 t32_50 ?_
  refine am_e_iload_n n32_22 rfl ?_
  refine am_e_iconst (w := 4) n32_23 rfl ?_
  refine am_e_cmpF n32_24 (am_c_geF (by decide)) ?_
  refine am_e_aload_n n32_25 rfl ?_
  refine am_e_getf (v := .ref 150) n32_26 rfl (hG.2.2.2.2.2.2.2.2.2.1) ?_
  refine am_e_iload_n n32_27 rfl ?_
  refine am_e_aload_n n32_28 rfl ?_
  refine am_e_getf (v := .ref 49) n32_29 rfl (hG.2.2.2.2.2.2.2.2.2.2.1) ?_
  refine am_e_iload_n n32_30 rfl ?_
  refine am_e_iaload (v := 0) (q := 1) n32_31 rfl (by decide) (by decide) (hG.2.2.2.2.2.2.2.2.2.2.2.2.2.2.2.2.2.2.1) ?_
  refine am_e_iastore (q := 1) n32_32 rfl (by decide) (by decide) ?_
  refine am_e_aload_n n32_33 rfl ?_
  refine am_e_getf (v := .ref 151) n32_34 rfl (hG.2.2.2.2.2.2.2.2.2.2.2.2.1) ?_
  refine am_e_iload_n n32_35 rfl ?_
  refine am_e_aload_n n32_36 rfl ?_
  refine am_e_getf (v := .ref 50) n32_37 rfl (hG.2.2.2.2.2.2.2.2.2.2.2.2.2.1) ?_
  refine am_e_iload_n n32_38 rfl ?_
  refine am_e_iaload (v := 0) (q := 1) n32_39 rfl (by decide) (by decide) (hG.2.2.2.2.2.2.2.2.2.2.2.2.2.2.2.2.2.2.2.1) ?_
  refine am_e_iastore (q := 1) n32_40 rfl (by decide) (by decide) ?_
  refine am_e_aload_n n32_41 rfl ?_
  refine am_e_getf (v := .ref 152) n32_42 rfl (hG.2.2.2.2.2.2.2.2.2.2.2.2.2.2.2.1) ?_
  refine am_e_iload_n n32_43 rfl ?_
  refine am_e_aload_n n32_44 rfl ?_
  refine am_e_getf (v := .ref 51) n32_45 rfl (hG.2.2.2.2.2.2.2.2.2.2.2.2.2.2.2.2.1) ?_
  refine am_e_iload_n n32_46 rfl ?_
  refine am_e_iaload (v := 0) (q := 1) n32_47 rfl (by decide) (by decide) (hG.2.2.2.2.2.2.2.2.2.2.2.2.2.2.2.2.2.2.2.2.1) ?_
  refine am_e_iastore (q := 1) n32_48 rfl (by decide) (by decide) ?_
  refine am_e_iinc (w := 2) (ls' := [(2, .int 2), (0, .ref 149), (1, .ref 48)]) n32_49 rfl rfl (by decide) rfl ?_
  refine am_e_goto c32_50 t32_50 ?_
  refine am_e_iload_n n32_22 rfl ?_
  refine am_e_iconst (w := 4) n32_23 rfl ?_
  refine am_e_cmpF n32_24 (am_c_geF (by decide)) ?_
  refine am_e_aload_n n32_25 rfl ?_
  refine am_e_getf (v := .ref 150) n32_26 rfl (hG.2.2.2.2.2.2.2.2.2.1) ?_
  refine am_e_iload_n n32_27 rfl ?_
  refine am_e_aload_n n32_28 rfl ?_
  refine am_e_getf (v := .ref 49) n32_29 rfl (hG.2.2.2.2.2.2.2.2.2.2.1) ?_
  refine am_e_iload_n n32_30 rfl ?_
  refine am_e_iaload (v := 0) (q := 2) n32_31 rfl (by decide) (by decide) (hG.2.2.2.2.2.2.2.2.2.2.2.2.2.2.2.2.2.2.2.2.2.1) ?_
  refine am_e_iastore (q := 2) n32_32 rfl (by decide) (by decide) ?_
  refine am_e_aload_n n32_33 rfl ?_
  refine am_e_getf (v := .ref 151) n32_34 rfl (hG.2.2.2.2.2.2.2.2.2.2.2.2.1) ?_
  refine am_e_iload_n n32_35 rfl ?_
  refine am_e_aload_n n32_36 rfl ?_
  refine am_e_getf (v := .ref 50) n32_37 rfl (hG.2.2.2.2.2.2.2.2.2.2.2.2.2.1) ?_
  refine am_e_iload_n n32_38 rfl ?_
  refine am_e_iaload (v := 0) (q := 2) n32_39 rfl (by decide) (by decide) (hG.2.2.2.2.2.2.2.2.2.2.2.2.2.2.2.2.2.2.2.2.2.2.1) ?_
  refine am_e_iastore (q := 2) n32_40 rfl (by decide) (by decide) ?_
  refine am_e_aload_n n32_41 rfl ?_
  refine am_e_getf (v := .ref 152) n32_42 rfl (hG.2.2.2.2.2.2.2.2.2.2.2.2.2.2.2.1) ?_
  refine am_e_iload_n n32_43 rfl ?_
  refine am_e_aload_n n32_44 rfl ?_
  refine am_e_getf (v := .ref 51) n32_45 rfl (hG.2.2.2.2.2.2.2.2.2.2.2.2.2.2.2.2.1) ?_
  refine am_e_iload_n n32_46 rfl ?_
  refine am_e_iaload (v := 0) (q := 2) n32_47 rfl (by decide) (by decide) (hG.2.2.2.2.2.2.2.2.2.2.2.2.2.2.2.2.2.2.2.2.2.2.2.1) ?_
  refine am_e_iastore (q := 2) n32_48 rfl (by decide) (by decide) ?_
  refine am_e_iinc (w := 3) (ls' := [(2, .int 3), (0, .ref 149), (1, .ref 48)]) n32_49 rfl rfl (by decide) rfl ?_
  refine am_e_goto c32_50 t32_50 ?_
  refine am_e_iload_n n32_22 rfl ?_
  refine am_e_iconst (w := 4) n32_23 rfl ?_
  refine am_e_cmpF n32_24 (am_c_geF (by decide)) ?_
  refine am_e_aload_n n32_25 rfl ?_
  refine am_e_getf (v := .ref 150) n32_26 rfl (hG.2.2.2.2.2.2.2.2.2.1) ?_
  refine am_e_iload_n n32_27 rfl ?_
  refine am_e_aload_n n32_28 rfl ?_
  refine am_e_getf (v := .ref 49) n32_29 rfl (hG.2.2.2.2.2.2.2.2.2.2.1) ?_
  refine am_e_iload_n n32_30 rfl ?_
  refine am_e_iaload (v := 0) (q := 3) n32_31 rfl (by decide) (by decide) (hG.2.2.2.2.2.2.2.2.2.2.2.2.2.2.2.2.2.2.2.2.2.2.2.2.1) ?_
  refine am_e_iastore (q := 3) n32_32 rfl (by decide) (by decide) ?_
  refine am_e_aload_n n32_33 rfl ?_
  refine am_e_getf (v := .ref 151) n32_34 rfl (hG.2.2.2.2.2.2.2.2.2.2.2.2.1) ?_
  refine am_e_iload_n n32_35 rfl ?_
  refine am_e_aload_n n32_36 rfl ?_
  refine am_e_getf (v := .ref 50) n32_37 rfl (hG.2.2.2.2.2.2.2.2.2.2.2.2.2.1) ?_
  refine am_e_iload_n n32_38 rfl ?_
  refine am_e_iaload (v := 0) (q := 3) n32_39 rfl (by decide) (by decide) (hG.2.2.2.2.2.2.2.2.2.2.2.2.2.2.2.2.2.2.2.2.2.2.2.2.2.1) ?_
  refine am_e_iastore (q := 3) n32_40 rfl (by decide) (by decide) ?_
  refine am_e_aload_n n32_41 rfl ?_
  refine am_e_getf (v := .ref 152) n32_42 rfl (hG.2.2.2.2.2.2.2.2.2.2.2.2.2.2.2.1) ?_
  refine am_e_iload_n n32_43 rfl ?_
  refine am_e_aload_n n32_44 rfl ?_
  refine am_e_getf (v := .ref 51) n32_45 rfl (hG.2.2.2.2.2.2.2.2.2.2.2.2.2.2.2.2.1) ?_
  refine am_e_iload_n n32_46 rfl ?_
  refine am_e_iaload (v := 0) (q := 3) n32_47 rfl (by decide) (by decide) (hG.2.2.2.2.2.2.2.2.2.2.2.2.2.2.2.2.2.2.2.2.2.2.2.2.2.2.1) ?_
  refine am_e_iastore (q := 3) n32_48 rfl (by decide) (by decide) ?_
  refine am_e_iinc (w := 4) (ls' := [(2, .int 4), (0, .ref 149), (1, .ref 48)]) n32_49 rfl rfl (by decide) rfl ?_
  refine am_e_goto c32_50 t32_50 ?_
  refine am_e_iload_n n32_22 rfl ?_
  refine am_e_iconst (w := 4) n32_23 rfl ?_
  refine am_e_cmpT n32_24 (am_c_geT (by decide)) t32_24 ?_
  refine am_e_vret c32_51 rfl rfl ?_
  refine am_e_aload_n n31_7 rfl ?_
  refine am_e_aload_n n31_8 rfl ?_
  refine am_e_getf (v := .int (-1)) n31_9 rfl (hG.2.2.2.2.2.2.2.2.2.2.2.2.2.2.2.2.2.2.2.2.2.2.2.2.2.2.2.1) ?_
  refine am_e_putf n31_10 rfl rfl ?_
  refine am_e_aload_n n31_11 rfl ?_
  refine am_e_iconst (w := 0) n31_12 rfl ?_
  refine am_e_putf n31_13 rfl rfl ?_
  refine am_e_aload_n n31_14 rfl ?_
  refine am_e_iconst (w := 0) n31_15 rfl ?_
  refine am_e_putf n31_16 rfl rfl ?_
  refine am_e_aload_n n31_17 rfl ?_
  refine am_e_ldc (w := 2147483647) n31_18 (by decide) ?_
  refine am_e_putf n31_19 rfl rfl ?_
  refine am_e_aload_n n31_20 rfl ?_
  refine am_e_ldc (w := 2147483647) n31_21 (by decide) ?_
  refine am_e_putf n31_22 rfl rfl ?_
  refine am_e_vret c31_23 rfl rfl ?_
  refine am_e_aload_n n48_7 rfl ?_
  refine am_e_getf (v := .ref 148) n48_8 rfl (hG.1) ?_
  refine am_e_getf (v := .ref 149) n48_9 rfl (hG.2.2.2.1) ?_
  refine am_e_iload_n n48_10 rfl ?_
  refine am_e_putf n48_11 rfl rfl ?_
  refine am_e_iconst (w := 0) n48_12 rfl ?_
  refine am_e_istore (ls' := [(4, .int 0), (0, .ref 0), (1, .int (nI f)), (2, .int (nI b)), (3, .int (nI m))]) n48_13 rfl rfl ?_
  refine am_Ek_ls (ls' := [(0, .ref 0), (2, .int (nI b)), (3, .int (nI m)), (4, .int (nI 0))]) ⟨rfl, rfl, rfl, rfl, trivial⟩ ?_
  refine am_sa_s hm hb ⟨(hG.1), (hG.2.2.2.1), rfl, rfl, (hG.2.2.2.2.2.2.2.2.2.2.2.2.2.2.2.2.2.2.2.2.2.2.2.2.2.2.2.2.1), (hG.2.2.2.2.2.2.2.2.2.2.2.2.2.2.2.2.2.2.2.2.2.2.2.2.2.2.2.2.2.1), (hG.2.2.2.2.2.2.2.2.2.2.2.2.2.2.2.2.2.2.2.2.2.2.2.2.2.2.2.2.2.2.1), (hG.2.2.2.2.2.2.2.2.2.2.2.2.2.2.2.2.2.2.2.2.2.2.2.2.2.2.2.2.2.2.2.1), (hG.2.2.2.2.2.2.2.2.2.2.2.2.2.2.2.2.2.2.2.2.2.2.2.2.2.2.2.2.2.2.2.2.1), (hG.2.2.2.2.2.2.2.2.2.2.2.2.2.2.2.2.2.2.2.2.2.2.2.2.2.2.2.2.2.2.2.2.2.1), (hG.2.2.2.2.2.2.2.2.2.2.2.2.2.2.2.2.2.2.2.2.2.2.2.2.2.2.2.2.2.2.2.2.2.2.1), (hG.2.2.2.2.2.2.2.2.2.2.2.2.2.2.2.2.2.2.2.2.2.2.2.2.2.2.2.2.2.2.2.2.2.2.2.1), (hG.2.2.2.2.2.2.2.2.2.2.2.2.2.2.2.2.2.2.2.2.2.2.2.2.2.2.2.2.2.2.2.2.2.2.2.2.1), rfl, rfl, trivial⟩ ?_ hf rfl rfl rfl
  exact fun h' F' => K h' (am_Fr_trans (am_Fr_up rfl (am_Fr_up rfl (am_Fr_up rfl (am_Fr_up rfl (am_Fr_up rfl (am_Fr_up rfl (am_Fr_up rfl (am_Fr_up rfl (am_Fr_up rfl (am_Fr_up rfl (am_Fr_up rfl (am_Fr_up rfl (am_Fr_up rfl (am_Fr_up rfl (am_Fr_up rfl (am_Fr_up rfl (am_Fr_up rfl (am_Fr_up rfl (am_Fr_up rfl (am_Fr_up rfl (am_Fr_up rfl (am_Fr_up rfl (am_Fr_up rfl (am_Fr_up rfl am_Fr_refl)))))))))))))))))))))))) (am_Fr_sub rfl F'))
def am_lbQ : List (Nat × Nat) := [(186, 0), (186, 1), (186, 2), (186, 3), (186, 4), (186, 5), (188, 1), (189, 1)]
def am_lbR : List (Nat × Nat × Value) := [(164, 50, .ref 188), (164, 61, .int 0), (164, 47, .ref 186), (164, 23, .ref 168), (168, 0, .int 500), (164, 51, .ref 189), (164, 33, .ref 178), (178, 2, .int 0), (178, 0, .int 0), (164, 62, .int (-1)), (164, 58, .int (-1)), (164, 60, .int 0)]
theorem am_lb_l {h00 : am_H} {Q : Option Value → List am_k → am_H → Prop} {m b fin : Nat} (hm : m ≤ 3600) (hb : b ≤ 9999) (hG : am_Ts h00 am_lbR)
    (K : ∀ h', am_Fr am_lbQ h00 h' → Q (some (.int (nI fin))) am_ks0 h') :
    ∀ (d g f s : Nat) (h : am_H), g + d = m → f ≤ 500 → s + d ≤ 200000 → g + am_la d f b = fin → am_Fr am_lbQ h00 h → h 188 1 = .int (nI f) → h 189 1 = .int (nI s) →
      am_Ek false am_G0 am_m110 11 [(0, .ref 164), (2, .int (nI b)), (3, .int (nI m)), (4, .int (nI g))] [] am_ks0 h 0 0 Q := by
  intro d
  induction d with
  | zero =>
    intro g f s h hin hf hs hfin F e0 e1
    have hin : g = m := hin
    have hfin : g = fin := hfin
    rw [← hfin] at K
    refine am_e_iload n110_11 rfl ?_
    refine am_e_iload_n n110_12 rfl ?_
    refine am_e_cmpT n110_13 (am_c_geT (by rw [hin]; exact am_lt_irr _)) t110_13 ?_
    refine am_e_iload n110_27 rfl ?_
    refine am_e_iret c110_28 rfl rfl rfl ?_
    exact K _ F
  | succ d ih =>
    intro g f s h hin hf hs hfin F e0 e1
    rcases Nat.lt_or_ge f b with hfb | hfb
    · rw [am_la_lt hfb] at hfin
      have hfin : g = fin := hfin
      rw [← hfin] at K
      refine am_e_iload n110_11 rfl ?_
      refine am_e_iload_n n110_12 rfl ?_
      refine am_e_cmpF n110_13 (am_c_geF (nI_lt (by omega) (by omega))) ?_
      refine am_e_aload_n n110_14 rfl ?_
      refine am_e_getf (v := .ref 188) n110_15 rfl ((F 164 50 rfl).trans (hG.1)) ?_
      refine am_e_iconst (w := 1) n110_16 rfl ?_
      refine am_e_iaload (v := (nI f)) (q := 1) n110_17 rfl (by decide) (by decide) e0 ?_
      refine am_e_iload_n n110_18 rfl ?_
      refine am_e_cmpT n110_19 (am_c_ltT (nI_lt hfb (by omega))) t110_19 ?_
      refine am_e_iload n110_27 rfl ?_
      refine am_e_iret c110_28 rfl rfl rfl ?_
      exact K _ F
    · skip
      refine am_e_iload n110_11 rfl ?_
      refine am_e_iload_n n110_12 rfl ?_
      refine am_e_cmpF n110_13 (am_c_geF (nI_lt (by omega) (by omega))) ?_
      refine am_e_aload_n n110_14 rfl ?_
      refine am_e_getf (v := .ref 188) n110_15 rfl ((F 164 50 rfl).trans (hG.1)) ?_
      refine am_e_iconst (w := 1) n110_16 rfl ?_
      refine am_e_iaload (v := (nI f)) (q := 1) n110_17 rfl (by decide) (by decide) e0 ?_
      refine am_e_iload_n n110_18 rfl ?_
      refine am_e_cmpF n110_19 (am_c_ltF (nI_nlt hfb (by omega))) ?_
      refine am_e_aload_n n110_20 rfl ?_
      refine am_e_iconst (w := 1) n110_21 rfl ?_
      refine am_e_iconst (w := 0) n110_22 rfl ?_
      refine am_e_iconst (w := 0) n110_23 rfl ?_
      refine am_e_callV (L := [(0, .ref 164), (1, .int 1), (2, .int 0), (3, .int 0)]) n110_24 rfl rfl rfl rfl rfl rfl rfl rfl ?_
      refine am_aS10 (f := f) (s := s) ⟨((F 164 50 rfl).trans (hG.1)), ((F 164 61 rfl).trans (hG.2.1)), ((F 164 47 rfl).trans (hG.2.2.1)), ((F 164 23 rfl).trans (hG.2.2.2.1)), ((F 168 0 rfl).trans (hG.2.2.2.2.1)), ((F 164 51 rfl).trans (hG.2.2.2.2.2.1)), ((F 164 33 rfl).trans (hG.2.2.2.2.2.2.1)), ((F 178 2 rfl).trans (hG.2.2.2.2.2.2.2.1)), ((F 178 0 rfl).trans (hG.2.2.2.2.2.2.2.2.1)), ((F 164 62 rfl).trans (hG.2.2.2.2.2.2.2.2.2.1)), ((F 164 58 rfl).trans (hG.2.2.2.2.2.2.2.2.2.2.1)), ((F 164 60 rfl).trans (hG.2.2.2.2.2.2.2.2.2.2.2.1)), trivial⟩ hf e0 e1 ?_
      intro h17 F17 qa17 qb17
      refine am_e_iinc (w := (nI (g + 1))) (ls' := [(4, .int (nI (g + 1))), (0, .ref 164), (2, .int (nI b)), (3, .int (nI m))]) n110_25 rfl rfl (am_inc _) rfl ?_
      refine am_e_goto c110_26 t110_26 ?_
      refine am_Ek_ls (ls' := [(0, .ref 164), (2, .int (nI b)), (3, .int (nI m)), (4, .int (nI (g + 1)))]) ⟨rfl, rfl, rfl, rfl, trivial⟩ ?_
      exact ih (g + 1) (am_nf f) (s + 1) _ (by omega) (am_nf_le hf) (by omega) (by rw [am_la_ge hfb] at hfin; omega) (am_Fr_trans F (am_Fr_sub rfl F17)) qa17 qb17
theorem am_lb_s {h : am_H} {Q : Option Value → List am_k → am_H → Prop} {m b f : Nat} (hm : m ≤ 3600) (hb : b ≤ 9999) (hG : am_Ts h am_lbR)
    (K : ∀ h', am_Fr am_lbQ h h' → Q (some (.int (nI (am_la m f b)))) am_ks0 h') (hf : f ≤ 500) (e0 : h 188 1 = .int (nI f)) (e1 : h 189 1 = .int (nI 0)) : am_Ek false am_G0 am_m110 11 [(0, .ref 164), (2, .int (nI b)), (3, .int (nI m)), (4, .int (nI 0))] [] am_ks0 h 0 0 Q :=
  am_lb_l hm hb hG K m 0 f 0 h (Nat.zero_add m) hf (by omega) (Nat.zero_add _) am_Fr_refl e0 e1
def am_lbM : List (Nat × Nat) := [(186, 0), (186, 1), (186, 2), (186, 3), (186, 4), (186, 5), (188, 1), (189, 1), (190, 1), (191, 4), (191, 5), (191, 6), (191, 7), (192, 4), (192, 5), (192, 6), (192, 7), (193, 4), (193, 5), (193, 6), (193, 7), (194, 1)]
def am_lbL : List (Nat × Nat × Value) := [(164, 50, .ref 188), (188, 0, .int 0), (164, 51, .ref 189), (189, 0, .int 0), (164, 52, .ref 190), (190, 0, .int (-1)), (164, 56, .ref 194), (194, 0, .int 0), (164, 53, .ref 191), (191, 0, .int 0), (164, 54, .ref 192), (192, 0, .int 0), (164, 55, .ref 193), (193, 0, .int 0), (191, 1, .int 0), (192, 1, .int 0), (193, 1, .int 0), (191, 2, .int 0), (192, 2, .int 0), (193, 2, .int 0), (191, 3, .int 0), (192, 3, .int 0), (193, 3, .int 0), (164, 61, .int 0), (164, 47, .ref 186), (164, 23, .ref 168), (168, 0, .int 500), (164, 33, .ref 178), (178, 2, .int 0), (178, 0, .int 0), (164, 62, .int (-1)), (164, 58, .int (-1)), (164, 60, .int 0)]
theorem am_lb {h : am_H} {Q : Option Value → List am_k → am_H → Prop} {m b f : Nat} (hm : m ≤ 3600) (hb : b ≤ 9999) (hf : f ≤ 500) (hG : am_Ts h am_lbL)
    (K : ∀ h', am_Fr am_lbM h h' → Q (some (.int (nI (am_la m f b)))) am_ks0 h') : am_Ek false am_G0 am_m110 0 [(0, .ref 164), (1, .int (nI f)), (2, .int (nI b)), (3, .int (nI m))] [] am_ks0 h 0 0 Q := by
  refine am_e_aload_n n110_0 rfl ?_
  refine am_e_iconst (w := 1) n110_1 rfl ?_
  refine am_e_iconst (w := 0) n110_2 rfl ?_
  refine am_e_callV (L := [(0, .ref 164), (1, .int 1), (2, .int 0)]) n110_3 rfl rfl rfl rfl rfl rfl rfl rfl ?_
  refine am_e_aload_n n97_0 rfl ?_
  refine am_e_getf (v := .ref 188) n97_1 rfl (hG.1) ?_
  refine am_e_iload_n n97_2 rfl ?_
  refine am_e_aload_n n97_3 rfl ?_
  refine am_e_getf (v := .ref 188) n97_4 rfl (hG.1) ?_
  refine am_e_iload_n n97_5 rfl ?_
  refine am_e_iaload (v := 0) (q := 0) n97_6 rfl (by decide) (by decide) (hG.2.1) ?_
  refine am_e_iastore (q := 1) n97_7 rfl (by decide) (by decide) ?_
  refine am_e_aload_n n97_8 rfl ?_
  refine am_e_getf (v := .ref 189) n97_9 rfl (hG.2.2.1) ?_
  refine am_e_iload_n n97_10 rfl ?_
  refine am_e_aload_n n97_11 rfl ?_
  refine am_e_getf (v := .ref 189) n97_12 rfl (hG.2.2.1) ?_
  refine am_e_iload_n n97_13 rfl ?_
  refine am_e_iaload (v := 0) (q := 0) n97_14 rfl (by decide) (by decide) (hG.2.2.2.1) ?_
  refine am_e_iastore (q := 1) n97_15 rfl (by decide) (by decide) ?_
  refine am_e_aload_n n97_16 rfl ?_
  refine am_e_getf (v := .ref 190) n97_17 rfl (hG.2.2.2.2.1) ?_
  refine am_e_iload_n n97_18 rfl ?_
  refine am_e_aload_n n97_19 rfl ?_
  refine am_e_getf (v := .ref 190) n97_20 rfl (hG.2.2.2.2.1) ?_
  refine am_e_iload_n n97_21 rfl ?_
  refine am_e_iaload (v := (-1)) (q := 0) n97_22 rfl (by decide) (by decide) (hG.2.2.2.2.2.1) ?_
  refine am_e_iastore (q := 1) n97_23 rfl (by decide) (by decide) ?_
  refine am_e_aload_n n97_24 rfl ?_
  refine am_e_getf (v := .ref 194) n97_25 rfl (hG.2.2.2.2.2.2.1) ?_
  refine am_e_iload_n n97_26 rfl ?_
  refine am_e_aload_n n97_27 rfl ?_
  refine am_e_getf (v := .ref 194) n97_28 rfl (hG.2.2.2.2.2.2.1) ?_
  refine am_e_iload_n n97_29 rfl ?_
  refine am_e_iaload (v := 0) (q := 0) n97_30 rfl (by decide) (by decide) (hG.2.2.2.2.2.2.2.1) ?_
  refine am_e_iastore (q := 1) n97_31 rfl (by decide) (by decide) ?_
  refine am_e_iconst (w := 0) n97_32 rfl ?_
  refine am_e_istore_n (ls' := [(3, .int 0), (0, .ref 164), (1, .int 1), (2, .int 0)]) n97_33 rfl rfl ?_
  refine am_e_iload_n n97_34 rfl ?_
  refine am_e_iconst (w := 4) n97_35 rfl ?_
  refine am_e_cmpF n97_36 (am_c_geF (by decide)) ?_
  refine am_e_aload_n n97_37 rfl ?_
  refine am_e_getf (v := .ref 191) n97_38 rfl (hG.2.2.2.2.2.2.2.2.1) ?_
  refine am_e_iconst (w := 4) n97_39 rfl ?_
  refine am_e_iload_n n97_40 rfl ?_
  refine am_e_imul (w := 4) n97_41 (by decide) ?_
  refine am_e_iload_n n97_42 rfl ?_
  refine am_e_iadd (w := 4) n97_43 (by decide) ?_
  refine am_e_aload_n n97_44 rfl ?_
  refine am_e_getf (v := .ref 191) n97_45 rfl (hG.2.2.2.2.2.2.2.2.1) ?_
  refine am_e_iconst (w := 4) n97_46 rfl ?_
  refine am_e_iload_n n97_47 rfl ?_
  refine am_e_imul (w := 0) n97_48 (by decide) ?_
  refine am_e_iload_n n97_49 rfl ?_
  refine am_e_iadd (w := 0) n97_50 (by decide) ?_
  refine am_e_iaload (v := 0) (q := 0) n97_51 rfl (by decide) (by decide) (hG.2.2.2.2.2.2.2.2.2.1) ?_
  refine am_e_iastore (q := 4) n97_52 rfl (by decide) (by decide) ?_
  refine am_e_aload_n n97_53 rfl ?_
  refine am_e_getf (v := .ref 192) n97_54 rfl (hG.2.2.2.2.2.2.2.2.2.2.1) ?_
  refine am_e_iconst (w := 4) n97_55 rfl ?_
  refine am_e_iload_n n97_56 rfl ?_
  refine am_e_imul (w := 4) n97_57 (by decide) ?_
  refine am_e_iload_n n97_58 rfl ?_
  refine am_e_iadd (w := 4) n97_59 (by decide) ?_
  refine am_e_aload_n n97_60 rfl ?_
  refine am_e_getf (v := .ref 192) n97_61 rfl (hG.2.2.2.2.2.2.2.2.2.2.1) ?_
  refine am_e_iconst (w := 4) n97_62 rfl ?_
  refine am_e_iload_n n97_63 rfl ?_
  refine am_e_imul (w := 0) n97_64 (by decide) ?_
  refine am_e_iload_n n97_65 rfl ?_
  refine am_e_iadd (w := 0) n97_66 (by decide) ?_
  refine am_e_iaload (v := 0) (q := 0) n97_67 rfl (by decide) (by decide) (hG.2.2.2.2.2.2.2.2.2.2.2.1) ?_
  refine am_e_iastore (q := 4) n97_68 rfl (by decide) (by decide) ?_
  refine am_e_aload_n n97_69 rfl ?_
  refine am_e_getf (v := .ref 193) n97_70 rfl (hG.2.2.2.2.2.2.2.2.2.2.2.2.1) ?_
  refine am_e_iconst (w := 4) n97_71 rfl ?_
  refine am_e_iload_n n97_72 rfl ?_
  refine am_e_imul (w := 4) n97_73 (by decide) ?_
  refine am_e_iload_n n97_74 rfl ?_
  refine am_e_iadd (w := 4) n97_75 (by decide) ?_
  refine am_e_aload_n n97_76 rfl ?_
  refine am_e_getf (v := .ref 193) n97_77 rfl (hG.2.2.2.2.2.2.2.2.2.2.2.2.1) ?_
  refine am_e_iconst (w := 4) n97_78 rfl ?_
  refine am_e_iload_n n97_79 rfl ?_
  refine am_e_imul (w := 0) n97_80 (by decide) ?_
  refine am_e_iload_n n97_81 rfl ?_
  refine am_e_iadd (w := 0) n97_82 (by decide) ?_
  refine am_e_iaload (v := 0) (q := 0) n97_83 rfl (by decide) (by decide) (hG.2.2.2.2.2.2.2.2.2.2.2.2.2.1) ?_
  refine am_e_iastore (q := 4) n97_84 rfl (by decide) (by decide) ?_
  refine am_e_iinc (w := 1) (ls' := [(3, .int 1), (0, .ref 164), (1, .int 1), (2, .int 0)]) n97_85 rfl rfl (by decide) rfl ?_
  refine am_e_goto c97_86 t97_86 ?_
  refine am_e_iload_n n97_34 rfl ?_
  refine am_e_iconst (w := 4) n97_35 rfl ?_
  refine am_e_cmpF n97_36 (am_c_geF (by decide)) ?_
  refine am_e_aload_n n97_37 rfl ?_
  refine am_e_getf (v := .ref 191) n97_38 rfl (hG.2.2.2.2.2.2.2.2.1) ?_
  refine am_e_iconst (w := 4) n97_39 rfl ?_
  refine am_e_iload_n n97_40 rfl ?_
  refine am_e_imul (w := 4) n97_41 (by decide) ?_
  refine am_e_iload_n n97_42 rfl ?_
  refine am_e_iadd (w := 5) n97_43 (by decide) ?_
  refine am_e_aload_n n97_44 rfl ?_
  refine am_e_getf (v := .ref 191) n97_45 rfl (hG.2.2.2.2.2.2.2.2.1) ?_
  refine am_e_iconst (w := 4) n97_46 rfl ?_
  refine am_e_iload_n n97_47 rfl ?_
  refine am_e_imul (w := 0) n97_48 (by decide) ?_
  refine am_e_iload_n n97_49 rfl ?_
  refine am_e_iadd (w := 1) n97_50 (by decide) ?_
  refine am_e_iaload (v := 0) (q := 1) n97_51 rfl (by decide) (by decide) (hG.2.2.2.2.2.2.2.2.2.2.2.2.2.2.1) ?_
  refine am_e_iastore (q := 5) n97_52 rfl (by decide) (by decide) ?_
  refine am_e_aload_n n97_53 rfl ?_
  refine am_e_getf (v := .ref 192) n97_54 rfl (hG.2.2.2.2.2.2.2.2.2.2.1) ?_
  refine am_e_iconst (w := 4) n97_55 rfl ?_
  refine am_e_iload_n n97_56 rfl ?_
  refine am_e_imul (w := 4) n97_57 (by decide) ?_
  refine am_e_iload_n n97_58 rfl ?_
  refine am_e_iadd (w := 5) n97_59 (by decide) ?_
  refine am_e_aload_n n97_60 rfl ?_
  refine am_e_getf (v := .ref 192) n97_61 rfl (hG.2.2.2.2.2.2.2.2.2.2.1) ?_
  refine am_e_iconst (w := 4) n97_62 rfl ?_
  refine am_e_iload_n n97_63 rfl ?_
  refine am_e_imul (w := 0) n97_64 (by decide) ?_
  refine am_e_iload_n n97_65 rfl ?_
  refine am_e_iadd (w := 1) n97_66 (by decide) ?_
  refine am_e_iaload (v := 0) (q := 1) n97_67 rfl (by decide) (by decide) (hG.2.2.2.2.2.2.2.2.2.2.2.2.2.2.2.1) ?_
  refine am_e_iastore (q := 5) n97_68 rfl (by decide) (by decide) ?_
  refine am_e_aload_n n97_69 rfl ?_
  refine am_e_getf (v := .ref 193) n97_70 rfl (hG.2.2.2.2.2.2.2.2.2.2.2.2.1) ?_
  refine am_e_iconst (w := 4) n97_71 rfl ?_
  refine am_e_iload_n n97_72 rfl ?_
  refine am_e_imul (w := 4) n97_73 (by decide) ?_
  refine am_e_iload_n n97_74 rfl ?_
  refine am_e_iadd (w := 5) n97_75 (by decide) ?_
  refine am_e_aload_n n97_76 rfl ?_
  refine am_e_getf (v := .ref 193) n97_77 rfl (hG.2.2.2.2.2.2.2.2.2.2.2.2.1) ?_
  refine am_e_iconst (w := 4) n97_78 rfl ?_
  refine am_e_iload_n n97_79 rfl ?_
  refine am_e_imul (w := 0) n97_80 (by decide) ?_
  refine am_e_iload_n n97_81 rfl ?_
  refine am_e_iadd (w := 1) n97_82 (by decide) ?_
  refine am_e_iaload (v := 0) (q := 1) n97_83 rfl (by decide) (by decide) (hG.2.2.2.2.2.2.2.2.2.2.2.2.2.2.2.2.1) ?_
  refine am_e_iastore (q := 5) n97_84 rfl (by decide) (by decide) ?_
  refine am_e_iinc (w := 2) (ls' := [(3, .int 2), (0, .ref 164), (1, .int 1), (2, .int 0)]) n97_85 rfl rfl (by decide) rfl ?_
  refine am_e_goto c97_86 t97_86 ?_
  refine am_e_iload_n n97_34 rfl ?_
  refine am_e_iconst (w := 4) n97_35 rfl ?_
  refine am_e_cmpF n97_36 (am_c_geF (by decide)) ?_
  refine am_e_aload_n n97_37 rfl ?_
  refine am_e_getf (v := .ref 191) n97_38 rfl (hG.2.2.2.2.2.2.2.2.1) ?_
  refine am_e_iconst (w := 4) n97_39 rfl ?_
  refine am_e_iload_n n97_40 rfl ?_
  refine am_e_imul (w := 4) n97_41 (by decide) ?_
  refine am_e_iload_n n97_42 rfl ?_
  refine am_e_iadd (w := 6) n97_43 (by decide) ?_
  refine am_e_aload_n n97_44 rfl ?_
  refine am_e_getf (v := .ref 191) n97_45 rfl (hG.2.2.2.2.2.2.2.2.1) ?_
  refine am_e_iconst (w := 4) n97_46 rfl ?_
  refine am_e_iload_n n97_47 rfl ?_
  refine am_e_imul (w := 0) n97_48 (by decide) ?_
  refine am_e_iload_n n97_49 rfl ?_
  refine am_e_iadd (w := 2) n97_50 (by decide) ?_
  refine am_e_iaload (v := 0) (q := 2) n97_51 rfl (by decide) (by decide) (hG.2.2.2.2.2.2.2.2.2.2.2.2.2.2.2.2.2.1) ?_
  refine am_e_iastore (q := 6) n97_52 rfl (by decide) (by decide) ?_
  refine am_e_aload_n n97_53 rfl ?_
  refine am_e_getf (v := .ref 192) n97_54 rfl (hG.2.2.2.2.2.2.2.2.2.2.1) ?_
  refine am_e_iconst (w := 4) n97_55 rfl ?_
  refine am_e_iload_n n97_56 rfl ?_
  refine am_e_imul (w := 4) n97_57 (by decide) ?_
  refine am_e_iload_n n97_58 rfl ?_
  refine am_e_iadd (w := 6) n97_59 (by decide) ?_
  refine am_e_aload_n n97_60 rfl ?_
  refine am_e_getf (v := .ref 192) n97_61 rfl (hG.2.2.2.2.2.2.2.2.2.2.1) ?_
  refine am_e_iconst (w := 4) n97_62 rfl ?_
  refine am_e_iload_n n97_63 rfl ?_
  refine am_e_imul (w := 0) n97_64 (by decide) ?_
  refine am_e_iload_n n97_65 rfl ?_
  refine am_e_iadd (w := 2) n97_66 (by decide) ?_
  refine am_e_iaload (v := 0) (q := 2) n97_67 rfl (by decide) (by decide) (hG.2.2.2.2.2.2.2.2.2.2.2.2.2.2.2.2.2.2.1) ?_
  refine am_e_iastore (q := 6) n97_68 rfl (by decide) (by decide) ?_
  refine am_e_aload_n n97_69 rfl ?_
  refine am_e_getf (v := .ref 193) n97_70 rfl (hG.2.2.2.2.2.2.2.2.2.2.2.2.1) ?_
  refine am_e_iconst (w := 4) n97_71 rfl ?_
  refine am_e_iload_n n97_72 rfl ?_
  refine am_e_imul (w := 4) n97_73 (by decide) ?_
  refine am_e_iload_n n97_74 rfl ?_
  refine am_e_iadd (w := 6) n97_75 (by decide) ?_
  refine am_e_aload_n n97_76 rfl ?_
  refine am_e_getf (v := .ref 193) n97_77 rfl (hG.2.2.2.2.2.2.2.2.2.2.2.2.1) ?_
  refine am_e_iconst (w := 4) n97_78 rfl ?_
  refine am_e_iload_n n97_79 rfl ?_
  refine am_e_imul (w := 0) n97_80 (by decide) ?_
  refine am_e_iload_n n97_81 rfl ?_
  refine am_e_iadd (w := 2) n97_82 (by decide) ?_
  refine am_e_iaload (v := 0) (q := 2) n97_83 rfl (by decide) (by decide) (hG.2.2.2.2.2.2.2.2.2.2.2.2.2.2.2.2.2.2.2.1) ?_
  refine am_e_iastore (q := 6) n97_84 rfl (by decide) (by decide) ?_
  refine am_e_iinc (w := 3) (ls' := [(3, .int 3), (0, .ref 164), (1, .int 1), (2, .int 0)]) n97_85 rfl rfl (by decide) rfl ?_
  refine am_e_goto c97_86 t97_86 ?_
  refine am_e_iload_n n97_34 rfl ?_
  refine am_e_iconst (w := 4) n97_35 rfl ?_
  refine am_e_cmpF n97_36 (am_c_geF (by decide)) ?_
  refine am_e_aload_n n97_37 rfl ?_
  refine am_e_getf (v := .ref 191) n97_38 rfl (hG.2.2.2.2.2.2.2.2.1) ?_
  refine am_e_iconst (w := 4) n97_39 rfl ?_
  refine am_e_iload_n n97_40 rfl ?_
  refine am_e_imul (w := 4) n97_41 (by decide) ?_
  refine am_e_iload_n n97_42 rfl ?_
  refine am_e_iadd (w := 7) n97_43 (by decide) ?_
  refine am_e_aload_n n97_44 rfl ?_
  refine am_e_getf (v := .ref 191) n97_45 rfl (hG.2.2.2.2.2.2.2.2.1) ?_
  refine am_e_iconst (w := 4) n97_46 rfl ?_
  refine am_e_iload_n n97_47 rfl ?_
  refine am_e_imul (w := 0) n97_48 (by decide) ?_
  refine am_e_iload_n n97_49 rfl ?_
  refine am_e_iadd (w := 3) n97_50 (by decide) ?_
  refine am_e_iaload (v := 0) (q := 3) n97_51 rfl (by decide) (by decide) (hG.2.2.2.2.2.2.2.2.2.2.2.2.2.2.2.2.2.2.2.2.1) ?_
  refine am_e_iastore (q := 7) n97_52 rfl (by decide) (by decide) ?_
  refine am_e_aload_n n97_53 rfl ?_
  refine am_e_getf (v := .ref 192) n97_54 rfl (hG.2.2.2.2.2.2.2.2.2.2.1) ?_
  refine am_e_iconst (w := 4) n97_55 rfl ?_
  refine am_e_iload_n n97_56 rfl ?_
  refine am_e_imul (w := 4) n97_57 (by decide) ?_
  refine am_e_iload_n n97_58 rfl ?_
  refine am_e_iadd (w := 7) n97_59 (by decide) ?_
  refine am_e_aload_n n97_60 rfl ?_
  refine am_e_getf (v := .ref 192) n97_61 rfl (hG.2.2.2.2.2.2.2.2.2.2.1) ?_
  refine am_e_iconst (w := 4) n97_62 rfl ?_
  refine am_e_iload_n n97_63 rfl ?_
  refine am_e_imul (w := 0) n97_64 (by decide) ?_
  refine am_e_iload_n n97_65 rfl ?_
  refine am_e_iadd (w := 3) n97_66 (by decide) ?_
  refine am_e_iaload (v := 0) (q := 3) n97_67 rfl (by decide) (by decide) (hG.2.2.2.2.2.2.2.2.2.2.2.2.2.2.2.2.2.2.2.2.2.1) ?_
  refine am_e_iastore (q := 7) n97_68 rfl (by decide) (by decide) ?_
  refine am_e_aload_n n97_69 rfl ?_
  refine am_e_getf (v := .ref 193) n97_70 rfl (hG.2.2.2.2.2.2.2.2.2.2.2.2.1) ?_
  refine am_e_iconst (w := 4) n97_71 rfl ?_
  refine am_e_iload_n n97_72 rfl ?_
  refine am_e_imul (w := 4) n97_73 (by decide) ?_
  refine am_e_iload_n n97_74 rfl ?_
  refine am_e_iadd (w := 7) n97_75 (by decide) ?_
  refine am_e_aload_n n97_76 rfl ?_
  refine am_e_getf (v := .ref 193) n97_77 rfl (hG.2.2.2.2.2.2.2.2.2.2.2.2.1) ?_
  refine am_e_iconst (w := 4) n97_78 rfl ?_
  refine am_e_iload_n n97_79 rfl ?_
  refine am_e_imul (w := 0) n97_80 (by decide) ?_
  refine am_e_iload_n n97_81 rfl ?_
  refine am_e_iadd (w := 3) n97_82 (by decide) ?_
  refine am_e_iaload (v := 0) (q := 3) n97_83 rfl (by decide) (by decide) (hG.2.2.2.2.2.2.2.2.2.2.2.2.2.2.2.2.2.2.2.2.2.2.1) ?_
  refine am_e_iastore (q := 7) n97_84 rfl (by decide) (by decide) ?_
  refine am_e_iinc (w := 4) (ls' := [(3, .int 4), (0, .ref 164), (1, .int 1), (2, .int 0)]) n97_85 rfl rfl (by decide) rfl ?_
  refine am_e_goto c97_86 t97_86 ?_
  refine am_e_iload_n n97_34 rfl ?_
  refine am_e_iconst (w := 4) n97_35 rfl ?_
  refine am_e_cmpT n97_36 (am_c_geT (by decide)) t97_36 ?_
  refine am_e_vret c97_87 rfl rfl ?_
  refine am_e_aload_n n110_4 rfl ?_
  refine am_e_getf (v := .ref 188) n110_5 rfl (hG.1) ?_
  refine am_e_iconst (w := 1) n110_6 rfl ?_
  refine am_e_iload_n n110_7 rfl ?_
  refine am_e_iastore (q := 1) n110_8 rfl (by decide) (by decide) ?_
  refine am_e_iconst (w := 0) n110_9 rfl ?_
  refine am_e_istore (ls' := [(4, .int 0), (0, .ref 164), (1, .int (nI f)), (2, .int (nI b)), (3, .int (nI m))]) n110_10 rfl rfl ?_
  refine am_Ek_ls (ls' := [(0, .ref 164), (2, .int (nI b)), (3, .int (nI m)), (4, .int (nI 0))]) ⟨rfl, rfl, rfl, rfl, trivial⟩ ?_
  refine am_lb_s hm hb ⟨(hG.1), (hG.2.2.2.2.2.2.2.2.2.2.2.2.2.2.2.2.2.2.2.2.2.2.2.1), (hG.2.2.2.2.2.2.2.2.2.2.2.2.2.2.2.2.2.2.2.2.2.2.2.2.1), (hG.2.2.2.2.2.2.2.2.2.2.2.2.2.2.2.2.2.2.2.2.2.2.2.2.2.1), (hG.2.2.2.2.2.2.2.2.2.2.2.2.2.2.2.2.2.2.2.2.2.2.2.2.2.2.1), (hG.2.2.1), (hG.2.2.2.2.2.2.2.2.2.2.2.2.2.2.2.2.2.2.2.2.2.2.2.2.2.2.2.1), (hG.2.2.2.2.2.2.2.2.2.2.2.2.2.2.2.2.2.2.2.2.2.2.2.2.2.2.2.2.1), (hG.2.2.2.2.2.2.2.2.2.2.2.2.2.2.2.2.2.2.2.2.2.2.2.2.2.2.2.2.2.1), (hG.2.2.2.2.2.2.2.2.2.2.2.2.2.2.2.2.2.2.2.2.2.2.2.2.2.2.2.2.2.2.1), (hG.2.2.2.2.2.2.2.2.2.2.2.2.2.2.2.2.2.2.2.2.2.2.2.2.2.2.2.2.2.2.2.1), (hG.2.2.2.2.2.2.2.2.2.2.2.2.2.2.2.2.2.2.2.2.2.2.2.2.2.2.2.2.2.2.2.2.1), trivial⟩ ?_ hf rfl rfl
  exact fun h' F' => K h' (am_Fr_trans (am_Fr_up rfl (am_Fr_up rfl (am_Fr_up rfl (am_Fr_up rfl (am_Fr_up rfl (am_Fr_up rfl (am_Fr_up rfl (am_Fr_up rfl (am_Fr_up rfl (am_Fr_up rfl (am_Fr_up rfl (am_Fr_up rfl (am_Fr_up rfl (am_Fr_up rfl (am_Fr_up rfl (am_Fr_up rfl (am_Fr_up rfl am_Fr_refl))))))))))))))))) (am_Fr_sub rfl F'))
def am_fcM : List (Nat × Nat) := [(17, 0), (17, 1), (17, 2), (17, 3), (17, 4), (17, 5), (148, 0), (148, 2), (148, 3), (148, 4), (148, 5), (148, 6), (149, 0), (149, 1), (149, 2), (149, 3), (149, 4), (150, 0), (150, 1), (150, 2), (150, 3), (151, 0), (151, 1), (151, 2), (151, 3), (152, 0), (152, 1), (152, 2), (152, 3)]
def am_fcL : List (Nat × Nat × Value) := [(0, 2, .ref 2), (2, 0, .int 500), (0, 11, .ref 148), (0, 5, .ref 48), (148, 1, .ref 149), (48, 0, .int 0), (48, 1, .int 0), (48, 2, .int (-1)), (48, 3, .int 0), (48, 4, .int 0), (149, 5, .ref 150), (48, 5, .ref 49), (49, 0, .int 0), (149, 6, .ref 151), (48, 6, .ref 50), (50, 0, .int 0), (149, 7, .ref 152), (48, 7, .ref 51), (51, 0, .int 0), (49, 1, .int 0), (50, 1, .int 0), (51, 1, .int 0), (49, 2, .int 0), (50, 2, .int 0), (51, 2, .int 0), (49, 3, .int 0), (50, 3, .int 0), (51, 3, .int 0), (2, 18, .int (-1)), (2, 19, .ref 11), (11, 7, .ref 17), (11, 6, .ref 16), (16, 0, .int 0), (11, 4, .ref 14), (14, 0, .int 0), (11, 5, .ref 15), (15, 0, .int 0)]
theorem am_fc_l {h00 : am_H} {Q : Option Value → List am_k → am_H → Prop} {m b : Nat} {fin : Int32} (hm : m ≤ 60) (hb : b ≤ 9999) (hG : am_Ts h00 am_fcL)
    (K : ∀ h', am_Fr am_fcM h00 h' → Q (some (.int fin)) am_ks0 h') :
    ∀ (d x : Nat) (h : am_H), x + d = 501 → am_fi d x m b = fin → am_Fr am_fcM h00 h → am_Ek false am_G0 am_m49 14 [(0, .ref 0), (1, .int (nI m)), (2, .int (nI b)), (3, .int (nI x))] [] am_ks0 h 0 0 Q := by
  intro d
  induction d with
  | zero =>
    intro x h hin hfin F
    have hin : x = 501 := hin
    subst hin
    have hfin : (-2 : Int32) = fin := hfin
    rw [← hfin] at K
    refine am_e_iload_n n49_14 rfl ?_
    refine am_e_aload_n n49_15 rfl ?_
    refine am_e_getf (v := .ref 2) n49_16 rfl ((F 0 2 rfl).trans (hG.1)) ?_
    refine am_e_getf (v := .int 500) n49_17 rfl ((F 2 0 rfl).trans (hG.2.1)) ?_
    refine am_e_cmpT n49_18 (am_c_gtT (by decide)) t49_18 ?_
    refine am_e_bipush (w := (-2)) n49_30 (by decide) ?_
    refine am_e_iret c49_31 rfl rfl rfl ?_
    exact K _ F
  | succ d ih =>
    intro x h hin hfin F
    rcases Nat.lt_or_ge (am_la m x b) m with hc | hc
    · skip
      refine am_e_iload_n n49_14 rfl ?_
      refine am_e_aload_n n49_15 rfl ?_
      refine am_e_getf (v := .ref 2) n49_16 rfl ((F 0 2 rfl).trans (hG.1)) ?_
      refine am_e_getf (v := .int 500) n49_17 rfl ((F 2 0 rfl).trans (hG.2.1)) ?_
      refine am_e_cmpF n49_18 (am_c_gtF (nI_nlt (a := 500) (b := x) (by omega) (by decide))) ?_
      refine am_e_aload_n n49_19 rfl ?_
      refine am_e_iload_n n49_20 rfl ?_
      refine am_e_iload_n n49_21 rfl ?_
      refine am_e_iload_n n49_22 rfl ?_
      refine am_e_callV (L := [(0, .ref 0), (1, .int (nI x)), (2, .int (nI b)), (3, .int (nI m))]) n49_23 rfl rfl rfl rfl rfl rfl rfl rfl ?_
      refine am_sa (m := m) (b := b) (f := x) (by omega) (by omega) (by omega) ⟨((F 0 11 rfl).trans (hG.2.2.1)), ((F 0 2 rfl).trans (hG.1)), ((F 0 5 rfl).trans (hG.2.2.2.1)), ((F 148 1 rfl).trans (hG.2.2.2.2.1)), ((F 48 0 rfl).trans (hG.2.2.2.2.2.1)), ((F 48 1 rfl).trans (hG.2.2.2.2.2.2.1)), ((F 48 2 rfl).trans (hG.2.2.2.2.2.2.2.1)), ((F 48 3 rfl).trans (hG.2.2.2.2.2.2.2.2.1)), ((F 48 4 rfl).trans (hG.2.2.2.2.2.2.2.2.2.1)), ((F 149 5 rfl).trans (hG.2.2.2.2.2.2.2.2.2.2.1)), ((F 48 5 rfl).trans (hG.2.2.2.2.2.2.2.2.2.2.2.1)), ((F 49 0 rfl).trans (hG.2.2.2.2.2.2.2.2.2.2.2.2.1)), ((F 149 6 rfl).trans (hG.2.2.2.2.2.2.2.2.2.2.2.2.2.1)), ((F 48 6 rfl).trans (hG.2.2.2.2.2.2.2.2.2.2.2.2.2.2.1)), ((F 50 0 rfl).trans (hG.2.2.2.2.2.2.2.2.2.2.2.2.2.2.2.1)), ((F 149 7 rfl).trans (hG.2.2.2.2.2.2.2.2.2.2.2.2.2.2.2.2.1)), ((F 48 7 rfl).trans (hG.2.2.2.2.2.2.2.2.2.2.2.2.2.2.2.2.2.1)), ((F 51 0 rfl).trans (hG.2.2.2.2.2.2.2.2.2.2.2.2.2.2.2.2.2.2.1)), ((F 49 1 rfl).trans (hG.2.2.2.2.2.2.2.2.2.2.2.2.2.2.2.2.2.2.2.1)), ((F 50 1 rfl).trans (hG.2.2.2.2.2.2.2.2.2.2.2.2.2.2.2.2.2.2.2.2.1)), ((F 51 1 rfl).trans (hG.2.2.2.2.2.2.2.2.2.2.2.2.2.2.2.2.2.2.2.2.2.1)), ((F 49 2 rfl).trans (hG.2.2.2.2.2.2.2.2.2.2.2.2.2.2.2.2.2.2.2.2.2.2.1)), ((F 50 2 rfl).trans (hG.2.2.2.2.2.2.2.2.2.2.2.2.2.2.2.2.2.2.2.2.2.2.2.1)), ((F 51 2 rfl).trans (hG.2.2.2.2.2.2.2.2.2.2.2.2.2.2.2.2.2.2.2.2.2.2.2.2.1)), ((F 49 3 rfl).trans (hG.2.2.2.2.2.2.2.2.2.2.2.2.2.2.2.2.2.2.2.2.2.2.2.2.2.1)), ((F 50 3 rfl).trans (hG.2.2.2.2.2.2.2.2.2.2.2.2.2.2.2.2.2.2.2.2.2.2.2.2.2.2.1)), ((F 51 3 rfl).trans (hG.2.2.2.2.2.2.2.2.2.2.2.2.2.2.2.2.2.2.2.2.2.2.2.2.2.2.2.1)), ((F 2 18 rfl).trans (hG.2.2.2.2.2.2.2.2.2.2.2.2.2.2.2.2.2.2.2.2.2.2.2.2.2.2.2.2.1)), ((F 2 19 rfl).trans (hG.2.2.2.2.2.2.2.2.2.2.2.2.2.2.2.2.2.2.2.2.2.2.2.2.2.2.2.2.2.1)), ((F 11 7 rfl).trans (hG.2.2.2.2.2.2.2.2.2.2.2.2.2.2.2.2.2.2.2.2.2.2.2.2.2.2.2.2.2.2.1)), ((F 2 0 rfl).trans (hG.2.1)), ((F 11 6 rfl).trans (hG.2.2.2.2.2.2.2.2.2.2.2.2.2.2.2.2.2.2.2.2.2.2.2.2.2.2.2.2.2.2.2.1)), ((F 16 0 rfl).trans (hG.2.2.2.2.2.2.2.2.2.2.2.2.2.2.2.2.2.2.2.2.2.2.2.2.2.2.2.2.2.2.2.2.1)), ((F 11 4 rfl).trans (hG.2.2.2.2.2.2.2.2.2.2.2.2.2.2.2.2.2.2.2.2.2.2.2.2.2.2.2.2.2.2.2.2.2.1)), ((F 14 0 rfl).trans (hG.2.2.2.2.2.2.2.2.2.2.2.2.2.2.2.2.2.2.2.2.2.2.2.2.2.2.2.2.2.2.2.2.2.2.1)), ((F 11 5 rfl).trans (hG.2.2.2.2.2.2.2.2.2.2.2.2.2.2.2.2.2.2.2.2.2.2.2.2.2.2.2.2.2.2.2.2.2.2.2.1)), ((F 15 0 rfl).trans (hG.2.2.2.2.2.2.2.2.2.2.2.2.2.2.2.2.2.2.2.2.2.2.2.2.2.2.2.2.2.2.2.2.2.2.2.2.1)), trivial⟩ ?_
      intro h18 F18
      refine am_e_iload_n n49_24 rfl ?_
      refine am_e_cmpT n49_25 (am_c_ltT (nI_lt hc (by omega))) t49_25 ?_
      refine am_e_iinc (w := (nI (x + 1))) (ls' := [(3, .int (nI (x + 1))), (0, .ref 0), (1, .int (nI m)), (2, .int (nI b))]) n49_28 rfl rfl (am_inc _) rfl ?_
      refine am_e_goto c49_29 t49_29 ?_
      refine am_Ek_ls (ls' := [(0, .ref 0), (1, .int (nI m)), (2, .int (nI b)), (3, .int (nI (x + 1)))]) ⟨rfl, rfl, rfl, rfl, trivial⟩ ?_
      exact ih (x + 1) _ (by omega) (by rw [am_fi_lt hc] at hfin; exact hfin) (am_Fr_trans F (am_Fr_sub rfl F18))
    · rw [am_fi_ge hc] at hfin
      rw [← hfin] at K
      refine am_e_iload_n n49_14 rfl ?_
      refine am_e_aload_n n49_15 rfl ?_
      refine am_e_getf (v := .ref 2) n49_16 rfl ((F 0 2 rfl).trans (hG.1)) ?_
      refine am_e_getf (v := .int 500) n49_17 rfl ((F 2 0 rfl).trans (hG.2.1)) ?_
      refine am_e_cmpF n49_18 (am_c_gtF (nI_nlt (a := 500) (b := x) (by omega) (by decide))) ?_
      refine am_e_aload_n n49_19 rfl ?_
      refine am_e_iload_n n49_20 rfl ?_
      refine am_e_iload_n n49_21 rfl ?_
      refine am_e_iload_n n49_22 rfl ?_
      refine am_e_callV (L := [(0, .ref 0), (1, .int (nI x)), (2, .int (nI b)), (3, .int (nI m))]) n49_23 rfl rfl rfl rfl rfl rfl rfl rfl ?_
      refine am_sa (m := m) (b := b) (f := x) (by omega) (by omega) (by omega) ⟨((F 0 11 rfl).trans (hG.2.2.1)), ((F 0 2 rfl).trans (hG.1)), ((F 0 5 rfl).trans (hG.2.2.2.1)), ((F 148 1 rfl).trans (hG.2.2.2.2.1)), ((F 48 0 rfl).trans (hG.2.2.2.2.2.1)), ((F 48 1 rfl).trans (hG.2.2.2.2.2.2.1)), ((F 48 2 rfl).trans (hG.2.2.2.2.2.2.2.1)), ((F 48 3 rfl).trans (hG.2.2.2.2.2.2.2.2.1)), ((F 48 4 rfl).trans (hG.2.2.2.2.2.2.2.2.2.1)), ((F 149 5 rfl).trans (hG.2.2.2.2.2.2.2.2.2.2.1)), ((F 48 5 rfl).trans (hG.2.2.2.2.2.2.2.2.2.2.2.1)), ((F 49 0 rfl).trans (hG.2.2.2.2.2.2.2.2.2.2.2.2.1)), ((F 149 6 rfl).trans (hG.2.2.2.2.2.2.2.2.2.2.2.2.2.1)), ((F 48 6 rfl).trans (hG.2.2.2.2.2.2.2.2.2.2.2.2.2.2.1)), ((F 50 0 rfl).trans (hG.2.2.2.2.2.2.2.2.2.2.2.2.2.2.2.1)), ((F 149 7 rfl).trans (hG.2.2.2.2.2.2.2.2.2.2.2.2.2.2.2.2.1)), ((F 48 7 rfl).trans (hG.2.2.2.2.2.2.2.2.2.2.2.2.2.2.2.2.2.1)), ((F 51 0 rfl).trans (hG.2.2.2.2.2.2.2.2.2.2.2.2.2.2.2.2.2.2.1)), ((F 49 1 rfl).trans (hG.2.2.2.2.2.2.2.2.2.2.2.2.2.2.2.2.2.2.2.1)), ((F 50 1 rfl).trans (hG.2.2.2.2.2.2.2.2.2.2.2.2.2.2.2.2.2.2.2.2.1)), ((F 51 1 rfl).trans (hG.2.2.2.2.2.2.2.2.2.2.2.2.2.2.2.2.2.2.2.2.2.1)), ((F 49 2 rfl).trans (hG.2.2.2.2.2.2.2.2.2.2.2.2.2.2.2.2.2.2.2.2.2.2.1)), ((F 50 2 rfl).trans (hG.2.2.2.2.2.2.2.2.2.2.2.2.2.2.2.2.2.2.2.2.2.2.2.1)), ((F 51 2 rfl).trans (hG.2.2.2.2.2.2.2.2.2.2.2.2.2.2.2.2.2.2.2.2.2.2.2.2.1)), ((F 49 3 rfl).trans (hG.2.2.2.2.2.2.2.2.2.2.2.2.2.2.2.2.2.2.2.2.2.2.2.2.2.1)), ((F 50 3 rfl).trans (hG.2.2.2.2.2.2.2.2.2.2.2.2.2.2.2.2.2.2.2.2.2.2.2.2.2.2.1)), ((F 51 3 rfl).trans (hG.2.2.2.2.2.2.2.2.2.2.2.2.2.2.2.2.2.2.2.2.2.2.2.2.2.2.2.1)), ((F 2 18 rfl).trans (hG.2.2.2.2.2.2.2.2.2.2.2.2.2.2.2.2.2.2.2.2.2.2.2.2.2.2.2.2.1)), ((F 2 19 rfl).trans (hG.2.2.2.2.2.2.2.2.2.2.2.2.2.2.2.2.2.2.2.2.2.2.2.2.2.2.2.2.2.1)), ((F 11 7 rfl).trans (hG.2.2.2.2.2.2.2.2.2.2.2.2.2.2.2.2.2.2.2.2.2.2.2.2.2.2.2.2.2.2.1)), ((F 2 0 rfl).trans (hG.2.1)), ((F 11 6 rfl).trans (hG.2.2.2.2.2.2.2.2.2.2.2.2.2.2.2.2.2.2.2.2.2.2.2.2.2.2.2.2.2.2.2.1)), ((F 16 0 rfl).trans (hG.2.2.2.2.2.2.2.2.2.2.2.2.2.2.2.2.2.2.2.2.2.2.2.2.2.2.2.2.2.2.2.2.1)), ((F 11 4 rfl).trans (hG.2.2.2.2.2.2.2.2.2.2.2.2.2.2.2.2.2.2.2.2.2.2.2.2.2.2.2.2.2.2.2.2.2.1)), ((F 14 0 rfl).trans (hG.2.2.2.2.2.2.2.2.2.2.2.2.2.2.2.2.2.2.2.2.2.2.2.2.2.2.2.2.2.2.2.2.2.2.1)), ((F 11 5 rfl).trans (hG.2.2.2.2.2.2.2.2.2.2.2.2.2.2.2.2.2.2.2.2.2.2.2.2.2.2.2.2.2.2.2.2.2.2.2.1)), ((F 15 0 rfl).trans (hG.2.2.2.2.2.2.2.2.2.2.2.2.2.2.2.2.2.2.2.2.2.2.2.2.2.2.2.2.2.2.2.2.2.2.2.2.1)), trivial⟩ ?_
      intro h19 F19
      refine am_e_iload_n n49_24 rfl ?_
      refine am_e_cmpF n49_25 (am_c_ltF (nI_nlt hc (have := am_la_le m x b; by omega))) ?_
      refine am_e_iload_n n49_26 rfl ?_
      refine am_e_iret c49_27 rfl rfl rfl ?_
      exact K _ (am_Fr_trans F (am_Fr_sub rfl F19))
theorem am_fc_e {h : am_H} {Q : Option Value → List am_k → am_H → Prop} {m b : Nat} (hm : m ≤ 60) (hb : b ≤ 9999) (hG : am_Ts h am_fcL)
    (K : ∀ h', am_Fr am_fcM h h' → Q (some (.int (am_fi 501 0 m b))) am_ks0 h') : am_Ek false am_G0 am_m49 14 [(0, .ref 0), (1, .int (nI m)), (2, .int (nI b)), (3, .int (nI 0))] [] am_ks0 h 0 0 Q :=
  am_fc_l hm hb hG K 501 0 h rfl rfl am_Fr_refl
def am_fmM : List (Nat × Nat) := [(186, 0), (186, 1), (186, 2), (186, 3), (186, 4), (186, 5), (188, 1), (189, 1), (190, 1), (191, 4), (191, 5), (191, 6), (191, 7), (192, 4), (192, 5), (192, 6), (192, 7), (193, 4), (193, 5), (193, 6), (193, 7), (194, 1)]
def am_fmL : List (Nat × Nat × Value) := [(164, 23, .ref 168), (168, 0, .int 500), (164, 50, .ref 188), (188, 0, .int 0), (164, 51, .ref 189), (189, 0, .int 0), (164, 52, .ref 190), (190, 0, .int (-1)), (164, 56, .ref 194), (194, 0, .int 0), (164, 53, .ref 191), (191, 0, .int 0), (164, 54, .ref 192), (192, 0, .int 0), (164, 55, .ref 193), (193, 0, .int 0), (191, 1, .int 0), (192, 1, .int 0), (193, 1, .int 0), (191, 2, .int 0), (192, 2, .int 0), (193, 2, .int 0), (191, 3, .int 0), (192, 3, .int 0), (193, 3, .int 0), (164, 61, .int 0), (164, 47, .ref 186), (164, 33, .ref 178), (178, 2, .int 0), (178, 0, .int 0), (164, 62, .int (-1)), (164, 58, .int (-1)), (164, 60, .int 0)]
theorem am_fm_l {h00 : am_H} {Q : Option Value → List am_k → am_H → Prop} {m b : Nat} {fin : Int32} (hm : m ≤ 60) (hb : b ≤ 9999) (hG : am_Ts h00 am_fmL)
    (K : ∀ h', am_Fr am_fmM h00 h' → Q (some (.int fin)) am_ks0 h') :
    ∀ (d x : Nat) (h : am_H), x + d = 501 → am_fi d x m b = fin → am_Fr am_fmM h00 h → am_Ek false am_G0 am_m111 17 [(0, .ref 164), (1, .int (nI m)), (2, .int (nI b)), (3, .int (nI x))] [] am_ks0 h 0 0 Q := by
  intro d
  induction d with
  | zero =>
    intro x h hin hfin F
    have hin : x = 501 := hin
    subst hin
    have hfin : (-2 : Int32) = fin := hfin
    rw [← hfin] at K
    refine am_e_iload_n n111_17 rfl ?_
    refine am_e_aload_n n111_18 rfl ?_
    refine am_e_getf (v := .ref 168) n111_19 rfl ((F 164 23 rfl).trans (hG.1)) ?_
    refine am_e_iconst (w := 0) n111_20 rfl ?_
    refine am_e_iaload (v := 500) (q := 0) n111_21 rfl (by decide) (by decide) ((F 168 0 rfl).trans (hG.2.1)) ?_
    refine am_e_cmpT n111_22 (am_c_gtT (by decide)) t111_22 ?_
    refine am_e_bipush (w := (-2)) n111_34 (by decide) ?_
    refine am_e_iret c111_35 rfl rfl rfl ?_
    exact K _ F
  | succ d ih =>
    intro x h hin hfin F
    rcases Nat.lt_or_ge (am_la m x b) m with hc | hc
    · skip
      refine am_e_iload_n n111_17 rfl ?_
      refine am_e_aload_n n111_18 rfl ?_
      refine am_e_getf (v := .ref 168) n111_19 rfl ((F 164 23 rfl).trans (hG.1)) ?_
      refine am_e_iconst (w := 0) n111_20 rfl ?_
      refine am_e_iaload (v := 500) (q := 0) n111_21 rfl (by decide) (by decide) ((F 168 0 rfl).trans (hG.2.1)) ?_
      refine am_e_cmpF n111_22 (am_c_gtF (nI_nlt (a := 500) (b := x) (by omega) (by decide))) ?_
      refine am_e_aload_n n111_23 rfl ?_
      refine am_e_iload_n n111_24 rfl ?_
      refine am_e_iload_n n111_25 rfl ?_
      refine am_e_iload_n n111_26 rfl ?_
      refine am_e_callV (L := [(0, .ref 164), (1, .int (nI x)), (2, .int (nI b)), (3, .int (nI m))]) n111_27 rfl rfl rfl rfl rfl rfl rfl rfl ?_
      refine am_lb (m := m) (b := b) (f := x) (by omega) (by omega) (by omega) ⟨((F 164 50 rfl).trans (hG.2.2.1)), ((F 188 0 rfl).trans (hG.2.2.2.1)), ((F 164 51 rfl).trans (hG.2.2.2.2.1)), ((F 189 0 rfl).trans (hG.2.2.2.2.2.1)), ((F 164 52 rfl).trans (hG.2.2.2.2.2.2.1)), ((F 190 0 rfl).trans (hG.2.2.2.2.2.2.2.1)), ((F 164 56 rfl).trans (hG.2.2.2.2.2.2.2.2.1)), ((F 194 0 rfl).trans (hG.2.2.2.2.2.2.2.2.2.1)), ((F 164 53 rfl).trans (hG.2.2.2.2.2.2.2.2.2.2.1)), ((F 191 0 rfl).trans (hG.2.2.2.2.2.2.2.2.2.2.2.1)), ((F 164 54 rfl).trans (hG.2.2.2.2.2.2.2.2.2.2.2.2.1)), ((F 192 0 rfl).trans (hG.2.2.2.2.2.2.2.2.2.2.2.2.2.1)), ((F 164 55 rfl).trans (hG.2.2.2.2.2.2.2.2.2.2.2.2.2.2.1)), ((F 193 0 rfl).trans (hG.2.2.2.2.2.2.2.2.2.2.2.2.2.2.2.1)), ((F 191 1 rfl).trans (hG.2.2.2.2.2.2.2.2.2.2.2.2.2.2.2.2.1)), ((F 192 1 rfl).trans (hG.2.2.2.2.2.2.2.2.2.2.2.2.2.2.2.2.2.1)), ((F 193 1 rfl).trans (hG.2.2.2.2.2.2.2.2.2.2.2.2.2.2.2.2.2.2.1)), ((F 191 2 rfl).trans (hG.2.2.2.2.2.2.2.2.2.2.2.2.2.2.2.2.2.2.2.1)), ((F 192 2 rfl).trans (hG.2.2.2.2.2.2.2.2.2.2.2.2.2.2.2.2.2.2.2.2.1)), ((F 193 2 rfl).trans (hG.2.2.2.2.2.2.2.2.2.2.2.2.2.2.2.2.2.2.2.2.2.1)), ((F 191 3 rfl).trans (hG.2.2.2.2.2.2.2.2.2.2.2.2.2.2.2.2.2.2.2.2.2.2.1)), ((F 192 3 rfl).trans (hG.2.2.2.2.2.2.2.2.2.2.2.2.2.2.2.2.2.2.2.2.2.2.2.1)), ((F 193 3 rfl).trans (hG.2.2.2.2.2.2.2.2.2.2.2.2.2.2.2.2.2.2.2.2.2.2.2.2.1)), ((F 164 61 rfl).trans (hG.2.2.2.2.2.2.2.2.2.2.2.2.2.2.2.2.2.2.2.2.2.2.2.2.2.1)), ((F 164 47 rfl).trans (hG.2.2.2.2.2.2.2.2.2.2.2.2.2.2.2.2.2.2.2.2.2.2.2.2.2.2.1)), ((F 164 23 rfl).trans (hG.1)), ((F 168 0 rfl).trans (hG.2.1)), ((F 164 33 rfl).trans (hG.2.2.2.2.2.2.2.2.2.2.2.2.2.2.2.2.2.2.2.2.2.2.2.2.2.2.2.1)), ((F 178 2 rfl).trans (hG.2.2.2.2.2.2.2.2.2.2.2.2.2.2.2.2.2.2.2.2.2.2.2.2.2.2.2.2.1)), ((F 178 0 rfl).trans (hG.2.2.2.2.2.2.2.2.2.2.2.2.2.2.2.2.2.2.2.2.2.2.2.2.2.2.2.2.2.1)), ((F 164 62 rfl).trans (hG.2.2.2.2.2.2.2.2.2.2.2.2.2.2.2.2.2.2.2.2.2.2.2.2.2.2.2.2.2.2.1)), ((F 164 58 rfl).trans (hG.2.2.2.2.2.2.2.2.2.2.2.2.2.2.2.2.2.2.2.2.2.2.2.2.2.2.2.2.2.2.2.1)), ((F 164 60 rfl).trans (hG.2.2.2.2.2.2.2.2.2.2.2.2.2.2.2.2.2.2.2.2.2.2.2.2.2.2.2.2.2.2.2.2.1)), trivial⟩ ?_
      intro h20 F20
      refine am_e_iload_n n111_28 rfl ?_
      refine am_e_cmpT n111_29 (am_c_ltT (nI_lt hc (by omega))) t111_29 ?_
      refine am_e_iinc (w := (nI (x + 1))) (ls' := [(3, .int (nI (x + 1))), (0, .ref 164), (1, .int (nI m)), (2, .int (nI b))]) n111_32 rfl rfl (am_inc _) rfl ?_
      refine am_e_goto c111_33 t111_33 ?_
      refine am_Ek_ls (ls' := [(0, .ref 164), (1, .int (nI m)), (2, .int (nI b)), (3, .int (nI (x + 1)))]) ⟨rfl, rfl, rfl, rfl, trivial⟩ ?_
      exact ih (x + 1) _ (by omega) (by rw [am_fi_lt hc] at hfin; exact hfin) (am_Fr_trans F (am_Fr_sub rfl F20))
    · rw [am_fi_ge hc] at hfin
      rw [← hfin] at K
      refine am_e_iload_n n111_17 rfl ?_
      refine am_e_aload_n n111_18 rfl ?_
      refine am_e_getf (v := .ref 168) n111_19 rfl ((F 164 23 rfl).trans (hG.1)) ?_
      refine am_e_iconst (w := 0) n111_20 rfl ?_
      refine am_e_iaload (v := 500) (q := 0) n111_21 rfl (by decide) (by decide) ((F 168 0 rfl).trans (hG.2.1)) ?_
      refine am_e_cmpF n111_22 (am_c_gtF (nI_nlt (a := 500) (b := x) (by omega) (by decide))) ?_
      refine am_e_aload_n n111_23 rfl ?_
      refine am_e_iload_n n111_24 rfl ?_
      refine am_e_iload_n n111_25 rfl ?_
      refine am_e_iload_n n111_26 rfl ?_
      refine am_e_callV (L := [(0, .ref 164), (1, .int (nI x)), (2, .int (nI b)), (3, .int (nI m))]) n111_27 rfl rfl rfl rfl rfl rfl rfl rfl ?_
      refine am_lb (m := m) (b := b) (f := x) (by omega) (by omega) (by omega) ⟨((F 164 50 rfl).trans (hG.2.2.1)), ((F 188 0 rfl).trans (hG.2.2.2.1)), ((F 164 51 rfl).trans (hG.2.2.2.2.1)), ((F 189 0 rfl).trans (hG.2.2.2.2.2.1)), ((F 164 52 rfl).trans (hG.2.2.2.2.2.2.1)), ((F 190 0 rfl).trans (hG.2.2.2.2.2.2.2.1)), ((F 164 56 rfl).trans (hG.2.2.2.2.2.2.2.2.1)), ((F 194 0 rfl).trans (hG.2.2.2.2.2.2.2.2.2.1)), ((F 164 53 rfl).trans (hG.2.2.2.2.2.2.2.2.2.2.1)), ((F 191 0 rfl).trans (hG.2.2.2.2.2.2.2.2.2.2.2.1)), ((F 164 54 rfl).trans (hG.2.2.2.2.2.2.2.2.2.2.2.2.1)), ((F 192 0 rfl).trans (hG.2.2.2.2.2.2.2.2.2.2.2.2.2.1)), ((F 164 55 rfl).trans (hG.2.2.2.2.2.2.2.2.2.2.2.2.2.2.1)), ((F 193 0 rfl).trans (hG.2.2.2.2.2.2.2.2.2.2.2.2.2.2.2.1)), ((F 191 1 rfl).trans (hG.2.2.2.2.2.2.2.2.2.2.2.2.2.2.2.2.1)), ((F 192 1 rfl).trans (hG.2.2.2.2.2.2.2.2.2.2.2.2.2.2.2.2.2.1)), ((F 193 1 rfl).trans (hG.2.2.2.2.2.2.2.2.2.2.2.2.2.2.2.2.2.2.1)), ((F 191 2 rfl).trans (hG.2.2.2.2.2.2.2.2.2.2.2.2.2.2.2.2.2.2.2.1)), ((F 192 2 rfl).trans (hG.2.2.2.2.2.2.2.2.2.2.2.2.2.2.2.2.2.2.2.2.1)), ((F 193 2 rfl).trans (hG.2.2.2.2.2.2.2.2.2.2.2.2.2.2.2.2.2.2.2.2.2.1)), ((F 191 3 rfl).trans (hG.2.2.2.2.2.2.2.2.2.2.2.2.2.2.2.2.2.2.2.2.2.2.1)), ((F 192 3 rfl).trans (hG.2.2.2.2.2.2.2.2.2.2.2.2.2.2.2.2.2.2.2.2.2.2.2.1)), ((F 193 3 rfl).trans (hG.2.2.2.2.2.2.2.2.2.2.2.2.2.2.2.2.2.2.2.2.2.2.2.2.1)), ((F 164 61 rfl).trans (hG.2.2.2.2.2.2.2.2.2.2.2.2.2.2.2.2.2.2.2.2.2.2.2.2.2.1)), ((F 164 47 rfl).trans (hG.2.2.2.2.2.2.2.2.2.2.2.2.2.2.2.2.2.2.2.2.2.2.2.2.2.2.1)), ((F 164 23 rfl).trans (hG.1)), ((F 168 0 rfl).trans (hG.2.1)), ((F 164 33 rfl).trans (hG.2.2.2.2.2.2.2.2.2.2.2.2.2.2.2.2.2.2.2.2.2.2.2.2.2.2.2.1)), ((F 178 2 rfl).trans (hG.2.2.2.2.2.2.2.2.2.2.2.2.2.2.2.2.2.2.2.2.2.2.2.2.2.2.2.2.1)), ((F 178 0 rfl).trans (hG.2.2.2.2.2.2.2.2.2.2.2.2.2.2.2.2.2.2.2.2.2.2.2.2.2.2.2.2.2.1)), ((F 164 62 rfl).trans (hG.2.2.2.2.2.2.2.2.2.2.2.2.2.2.2.2.2.2.2.2.2.2.2.2.2.2.2.2.2.2.1)), ((F 164 58 rfl).trans (hG.2.2.2.2.2.2.2.2.2.2.2.2.2.2.2.2.2.2.2.2.2.2.2.2.2.2.2.2.2.2.2.1)), ((F 164 60 rfl).trans (hG.2.2.2.2.2.2.2.2.2.2.2.2.2.2.2.2.2.2.2.2.2.2.2.2.2.2.2.2.2.2.2.2.1)), trivial⟩ ?_
      intro h21 F21
      refine am_e_iload_n n111_28 rfl ?_
      refine am_e_cmpF n111_29 (am_c_ltF (nI_nlt hc (have := am_la_le m x b; by omega))) ?_
      refine am_e_iload_n n111_30 rfl ?_
      refine am_e_iret c111_31 rfl rfl rfl ?_
      exact K _ (am_Fr_trans F (am_Fr_sub rfl F21))
theorem am_fm_e {h : am_H} {Q : Option Value → List am_k → am_H → Prop} {m b : Nat} (hm : m ≤ 60) (hb : b ≤ 9999) (hG : am_Ts h am_fmL)
    (K : ∀ h', am_Fr am_fmM h h' → Q (some (.int (am_fi 501 0 m b))) am_ks0 h') : am_Ek false am_G0 am_m111 17 [(0, .ref 164), (1, .int (nI m)), (2, .int (nI b)), (3, .int (nI 0))] [] am_ks0 h 0 0 Q :=
  am_fm_l hm hb hG K 501 0 h rfl rfl am_Fr_refl
