/-! ===== LOOPS ON A NEW OBJECT (written by wip/p1/mkloop.py) ===== -/
def am_nf (f : Nat) : Nat := f - f / 100
def am_nfs : Nat → Nat → Nat
  | 0, f => f
  | n + 1, f => am_nfs n (am_nf f)
theorem am_nf_le {f : Nat} (hf : f ≤ 500) : am_nf f ≤ 500 := Nat.le_trans (Nat.sub_le _ _) hf
theorem am_nf_lt {f : Nat} (hf : f ≤ 500) : am_nf f < 2 ^ 31 := Nat.lt_of_le_of_lt (am_nf_le hf) (by decide)
theorem am_nfs_le : ∀ {n f : Nat}, f ≤ 500 → am_nfs n f ≤ 500
  | 0, _, h => h
  | n + 1, f, h => (am_nfs_le (am_nf_le h) : am_nfs n (am_nf f) ≤ 500)
theorem am_nfs_0 : ∀ n : Nat, am_nfs n 0 = 0
  | 0 => rfl
  | n + 1 => am_nfs_0 n
theorem am_nf_all : (List.range 501).all (fun f => decide ((if (nI f - (((nI f / 100) + 0) + 0)) < 0 then 0 else (nI f - (((nI f / 100) + 0) + 0))) = nI (am_nf f)) && decide ((nI f - ((nI f / 100) + 0)) - 0 = nI (am_nf f))) = true := by decide +kernel
theorem am_nf_c {f : Nat} (hf : f ≤ 500) : (if (nI f - (((nI f / 100) + 0) + 0)) < 0 then 0 else (nI f - (((nI f / 100) + 0) + 0))) = nI (am_nf f) := by
  have := List.all_eq_true.mp am_nf_all f (List.mem_range.mpr (by omega))
  rw [Bool.and_eq_true] at this
  exact of_decide_eq_true this.1
theorem am_nf_m {f : Nat} (hf : f ≤ 500) : (nI f - ((nI f / 100) + 0)) - 0 = nI (am_nf f) := by
  have := List.all_eq_true.mp am_nf_all f (List.mem_range.mpr (by omega))
  rw [Bool.and_eq_true] at this
  exact of_decide_eq_true this.2
theorem am_inc (i : Nat) : nI i + Int32.ofInt 1 = nI (i + 1) := nI_1 i
theorem am_lt_lim {s : Nat} (h : s ≤ 200000) : nI s < (2147483647 : Int32) := nI_lt (b := 2147483647) (by omega) (by decide)
def am_gbM0 : List (Nat × Nat) := [(17, 0), (17, 1), (17, 2), (17, 3), (17, 4), (17, 5), (148, 6), (149, 0), (149, 1)]
def am_gbL0 : List (Nat × Nat × Value) := [(148, 1, .ref 149), (148, 5, .int 2147483647), (148, 0, .ref 2), (2, 19, .ref 11), (11, 7, .ref 17), (2, 0, .int 500), (11, 6, .ref 16), (16, 0, .int 0), (11, 4, .ref 14), (14, 0, .int 0), (11, 5, .ref 15), (15, 0, .int 0), (148, 4, .int 0), (148, 2, .int (-1))]
theorem am_goBy0_loop {h00 : am_H} {Q : Option Value → List am_k → am_H → Prop} {n fin sfin : Nat} (hn : n ≤ 100000) (hG : am_Ts h00 am_gbL0)
    (K : ∀ h', am_Fr am_gbM0 h00 h' → h' 149 0 = .int (nI fin) → h' 149 1 = .int (nI sfin) → (∃ l, h' 148 6 = .int l) → Q (some (.int 1)) am_ks0 h') :
    ∀ (d i f s : Nat) (lst : Int32) (h : am_H), i + d = n → f ≤ 500 → s + d = sfin ∧ sfin ≤ 200000 → am_nfs d f = fin → am_Fr am_gbM0 h00 h → h 149 0 = .int (nI f) → h 149 1 = .int (nI s) → h 148 6 = .int lst →
      am_Ek false am_G0 am_m38 26 [(0, .ref 148), (1, .int (nI n)), (2, .int 0), (4, .int 0), (5, .int (nI i))] [] am_ks0 h 0 0 Q := by
  intro d
  induction d with
  | zero =>
    intro i f s lst h hin hf hs hfin F e0 e1 e2
    have hin : i = n := hin
    have hs1 : s = sfin := hs.1
    subst hs1
    have hfin : f = fin := hfin
    refine am_e_iload n38_26 rfl ?_
    refine am_e_iload_n n38_27 rfl ?_
    refine am_e_cmpT n38_28 (am_c_geT (by rw [hin]; exact am_lt_irr _)) t38_28 ?_
    refine am_e_iconst (w := 1) n38_108 rfl ?_
    refine am_e_iret c38_109 rfl rfl rfl ?_
    exact K _ F (hfin ▸ e0) e1 ⟨_, e2⟩
  | succ d ih =>
    intro i f s lst h hin hf hs hfin F e0 e1 e2
    refine am_e_iload n38_26 rfl ?_
    refine am_e_iload_n n38_27 rfl ?_
    refine am_e_cmpF n38_28 (am_c_geF (nI_lt (by omega) (by omega))) ?_
    refine am_e_aload_n n38_29 rfl ?_
    refine am_e_getf (v := .ref 149) n38_30 rfl ((F 148 1 rfl).trans (hG.1)) ?_
    refine am_e_getf (v := .int (nI s)) n38_31 rfl e1 ?_
    refine am_e_aload_n n38_32 rfl ?_
    refine am_e_getf (v := .int 2147483647) n38_33 rfl ((F 148 5 rfl).trans (hG.2.1)) ?_
    refine am_e_cmpT n38_34 (am_c_ltT (am_lt_lim (by omega))) t38_34 ?_
    refine am_e_aload_n n38_37 rfl ?_
    refine am_e_getf (v := .ref 149) n38_38 rfl ((F 148 1 rfl).trans (hG.1)) ?_
    refine am_e_getf (v := .int (nI f)) n38_39 rfl e0 ?_
    refine am_e_bipush (w := 100) n38_40 (by decide) ?_
    refine am_e_idiv (w := ((nI f) / 100)) n38_41 (by decide) rfl ?_
    refine am_e_iload_n n38_42 rfl ?_
    refine am_e_ifT n38_43 (am_c_eqT (by decide)) t38_43 ?_
    refine am_e_iconst (w := 0) n38_46 rfl ?_
    refine am_e_iadd (w := (((nI f) / 100) + 0)) n38_47 rfl ?_
    refine am_e_istore (ls' := [(6, .int (((nI f) / 100) + 0)), (0, .ref 148), (1, .int (nI n)), (2, .int 0), (4, .int 0), (5, .int (nI i))]) n38_48 rfl rfl ?_
    refine am_e_aload_n n38_49 rfl ?_
    refine am_e_iconst (w := 0) n38_50 rfl ?_
    refine am_e_iload_n n38_51 rfl ?_
    refine am_e_ifT n38_52 (am_c_eqT (by decide)) t38_52 ?_
    refine am_e_iconst (w := 0) n38_55 rfl ?_
    refine am_e_iconst (w := 0) n38_56 rfl ?_
    refine am_e_callV (L := [(0, .ref 148), (1, .int 0), (2, .int 0), (3, .int 0)]) n38_57 rfl rfl rfl rfl rfl rfl rfl rfl ?_
    refine am_e_aload_n n33_0 rfl ?_
    refine am_e_getf (v := .ref 2) n33_1 rfl ((F 148 0 rfl).trans (hG.2.2.1)) ?_
    refine am_e_getf (v := .ref 11) n33_2 rfl ((F 2 19 rfl).trans (hG.2.2.2.1)) ?_
    refine am_e_astore (ls' := [(4, .ref 11), (0, .ref 148), (1, .int 0), (2, .int 0), (3, .int 0)]) n33_3 rfl rfl ?_
    refine am_e_aload n33_4 rfl ?_
    refine am_e_getf (v := .ref 17) n33_5 rfl ((F 11 7 rfl).trans (hG.2.2.2.2.1)) ?_
    refine am_e_iconst (w := 1) n33_6 rfl ?_
    refine am_e_aload_n n33_7 rfl ?_
    refine am_e_getf (v := .ref 149) n33_8 rfl ((F 148 1 rfl).trans (hG.1)) ?_
    refine am_e_getf (v := .int (nI f)) n33_9 rfl e0 ?_
    refine am_e_i2l (w := ((nI f).toInt64)) n33_10 rfl ?_
    refine am_e_lastore (q := 1) n33_11 rfl (by decide) (by decide) ?_
    refine am_e_aload n33_12 rfl ?_
    refine am_e_getf (v := .ref 17) n33_13 rfl ((F 11 7 rfl).trans (hG.2.2.2.2.1)) ?_
    refine am_e_iconst (w := 2) n33_14 rfl ?_
    refine am_e_aload_n n33_15 rfl ?_
    refine am_e_getf (v := .ref 2) n33_16 rfl ((F 148 0 rfl).trans (hG.2.2.1)) ?_
    refine am_e_getf (v := .int 500) n33_17 rfl ((F 2 0 rfl).trans (hG.2.2.2.2.2.1)) ?_
    refine am_e_aload_n n33_18 rfl ?_
    refine am_e_getf (v := .ref 149) n33_19 rfl ((F 148 1 rfl).trans (hG.1)) ?_
    refine am_e_getf (v := .int (nI f)) n33_20 rfl e0 ?_
    refine am_e_isub (w := (500 - (nI f))) n33_21 rfl ?_
    refine am_e_i2l (w := ((500 - (nI f)).toInt64)) n33_22 rfl ?_
    refine am_e_lastore (q := 2) n33_23 rfl (by decide) (by decide) ?_
    refine am_e_aload n33_24 rfl ?_
    refine am_e_getf (v := .ref 17) n33_25 rfl ((F 11 7 rfl).trans (hG.2.2.2.2.1)) ?_
    refine am_e_iconst (w := 3) n33_26 rfl ?_
    refine am_e_iload_n n33_27 rfl ?_
    refine am_e_i2l (w := 0) n33_28 (by decide) ?_
    refine am_e_lastore (q := 3) n33_29 rfl (by decide) (by decide) ?_
    refine am_e_aload n33_30 rfl ?_
    refine am_e_getf (v := .ref 17) n33_31 rfl ((F 11 7 rfl).trans (hG.2.2.2.2.1)) ?_
    refine am_e_iconst (w := 4) n33_32 rfl ?_
    refine am_e_aload_n n33_33 rfl ?_
    refine am_e_getf (v := .ref 149) n33_34 rfl ((F 148 1 rfl).trans (hG.1)) ?_
    refine am_e_getf (v := .int (nI s)) n33_35 rfl e1 ?_
    refine am_e_i2l (w := ((nI s).toInt64)) n33_36 rfl ?_
    refine am_e_lastore (q := 4) n33_37 rfl (by decide) (by decide) ?_
    refine am_e_aload n33_38 rfl ?_
    refine am_e_getf (v := .ref 17) n33_39 rfl ((F 11 7 rfl).trans (hG.2.2.2.2.1)) ?_
    refine am_e_iconst (w := 0) n33_40 rfl ?_
    refine am_e_lconst (w := 0) n33_41 rfl ?_
    refine am_e_lastore (q := 0) n33_42 rfl (by decide) (by decide) ?_
    refine am_e_aload n33_43 rfl ?_
    refine am_e_getf (v := .ref 17) n33_44 rfl ((F 11 7 rfl).trans (hG.2.2.2.2.1)) ?_
    refine am_e_iconst (w := 5) n33_45 rfl ?_
    refine am_e_lconst (w := 0) n33_46 rfl ?_
    refine am_e_lastore (q := 5) n33_47 rfl (by decide) (by decide) ?_
    refine am_e_iload_n n33_48 rfl ?_
    refine am_e_iconst (w := 2) n33_49 rfl ?_
    refine am_e_cmpF n33_50 (am_c_eqF (by decide)) ?_
    refine am_e_aload n33_51 rfl ?_
    refine am_e_getf (v := .ref 16) n33_52 rfl ((F 11 6 rfl).trans (hG.2.2.2.2.2.2.1)) ?_
    refine am_e_iload_n n33_53 rfl ?_
    refine am_e_baload (v := 0) (q := 0) n33_54 rfl (by decide) (by decide) ((F 16 0 rfl).trans (hG.2.2.2.2.2.2.2.1)) ?_
    refine am_e_ifT n33_55 (am_c_eqT (by decide)) t33_55 ?_
    refine am_e_aload n33_70 rfl ?_
    refine am_e_getf (v := .ref 17) n33_71 rfl ((F 11 7 rfl).trans (hG.2.2.2.2.1)) ?_
    refine am_e_iconst (w := 5) n33_72 rfl ?_
    refine am_e_iload_n n33_73 rfl ?_
    refine am_e_i2l (w := 0) n33_74 (by decide) ?_
    refine am_e_lastore (q := 5) n33_75 rfl (by decide) (by decide) ?_
    refine am_e_aload n33_76 rfl ?_
    refine am_e_iload_n n33_77 rfl ?_
    refine am_e_callV (L := [(0, .ref 11), (1, .int 0)]) n33_78 rfl rfl rfl rfl rfl rfl rfl rfl ?_
    refine am_e_iconst (w := 0) n34_0 rfl ?_
    refine am_e_istore_n (ls' := [(2, .int 0), (0, .ref 11), (1, .int 0)]) n34_1 rfl rfl ?_
    refine am_e_aload_n n34_2 rfl ?_
    refine am_e_getf (v := .ref 14) n34_3 rfl ((F 11 4 rfl).trans (hG.2.2.2.2.2.2.2.2.1)) ?_
    refine am_e_iload_n n34_4 rfl ?_
    refine am_e_iaload (v := 0) (q := 0) n34_5 rfl (by decide) (by decide) ((F 14 0 rfl).trans (hG.2.2.2.2.2.2.2.2.2.1)) ?_
    refine am_e_istore_n (ls' := [(3, .int 0), (2, .int 0), (0, .ref 11), (1, .int 0)]) n34_6 rfl rfl ?_
    refine am_e_iload_n n34_7 rfl ?_
    refine am_e_aload_n n34_8 rfl ?_
    refine am_e_getf (v := .ref 15) n34_9 rfl ((F 11 5 rfl).trans (hG.2.2.2.2.2.2.2.2.2.2.1)) ?_
    refine am_e_iload_n n34_10 rfl ?_
    refine am_e_iaload (v := 0) (q := 0) n34_11 rfl (by decide) (by decide) ((F 15 0 rfl).trans (hG.2.2.2.2.2.2.2.2.2.2.2.1)) ?_
    refine am_e_cmpT n34_12 (am_c_geT (by decide)) t34_12 ?_
    refine am_e_iload_n n34_114 rfl ?_
    refine am_e_iconst (w := 1) n34_115 rfl ?_
    refine am_e_cmpT n34_116 (am_c_neT (by decide)) t34_116 ?_
    refine am_e_ldc2 (w := (-9223372036854775808)) n34_122 (by decide) ?_
    refine am_e_lret c34_123 rfl rfl ?_
    refine am_e_lret c33_79 rfl rfl ?_
    refine am_e_sipush (w := 999) n38_58 (by decide) ?_
    refine am_e_iload n38_59 rfl ?_
    refine am_e_callS (L := [(0, .long (-9223372036854775808)), (2, .int 999), (3, .int (((nI f) / 100) + 0))]) n38_60 rfl rfl rfl rfl rfl rfl rfl ?_
    refine am_e_lload_n n35_0 rfl ?_
    refine am_e_ldc2 (w := (-9223372036854775808)) n35_1 (by decide) ?_
    refine am_e_lcmp (w := 0) n35_2 (by decide) ?_
    refine am_e_ifF n35_3 (am_c_neF (by decide)) ?_
    refine am_e_iload_n n35_4 rfl ?_
    refine am_e_iret c35_5 rfl rfl rfl ?_
    refine am_e_iload n38_61 rfl ?_
    refine am_e_iadd (w := ((((nI f) / 100) + 0) + 0)) n38_62 rfl ?_
    refine am_e_istore (ls' := [(7, .int ((((nI f) / 100) + 0) + 0)), (6, .int (((nI f) / 100) + 0)), (0, .ref 148), (1, .int (nI n)), (2, .int 0), (4, .int 0), (5, .int (nI i))]) n38_63 rfl rfl ?_
    refine am_e_aload_n n38_64 rfl ?_
    refine am_e_getf (v := .ref 149) n38_65 rfl ((F 148 1 rfl).trans (hG.1)) ?_
    refine am_e_aload_n n38_66 rfl ?_
    refine am_e_getf (v := .ref 149) n38_67 rfl ((F 148 1 rfl).trans (hG.1)) ?_
    refine am_e_getf (v := .int (nI f)) n38_68 rfl e0 ?_
    refine am_e_iload n38_69 rfl ?_
    refine am_e_isub (w := ((nI f) - ((((nI f) / 100) + 0) + 0))) n38_70 rfl ?_
    refine am_e_iconst (w := 0) n38_71 rfl ?_
    refine am_e_max (w := (nI (am_nf f))) n38_72 rfl (am_nf_c hf) ?_
    refine am_e_putf n38_73 rfl rfl ?_
    refine am_e_aload_n n38_74 rfl ?_
    refine am_e_getf (v := .int 0) n38_75 rfl ((F 148 4 rfl).trans (hG.2.2.2.2.2.2.2.2.2.2.2.2.1)) ?_
    refine am_e_ifT n38_76 (am_c_eqT (by decide)) t38_76 ?_
    refine am_e_aload_n n38_91 rfl ?_
    refine am_e_getf (v := .ref 149) n38_92 rfl ((F 148 1 rfl).trans (hG.1)) ?_
    refine am_e_dup n38_93 rfl ?_
    refine am_e_getf (v := .int (nI s)) n38_94 rfl e1 ?_
    refine am_e_iconst (w := 1) n38_95 rfl ?_
    refine am_e_iadd (w := (nI (s + 1))) n38_96 (nI_1 _) ?_
    refine am_e_putf n38_97 rfl rfl ?_
    refine am_e_aload_n n38_98 rfl ?_
    refine am_e_aload_n n38_99 rfl ?_
    refine am_e_getf (v := .int lst) n38_100 rfl e2 ?_
    refine am_e_aload_n n38_101 rfl ?_
    refine am_e_getf (v := .ref 149) n38_102 rfl ((F 148 1 rfl).trans (hG.1)) ?_
    refine am_e_getf (v := .int (nI (am_nf f))) n38_103 rfl rfl ?_
    refine am_e_min (w := (if (nI (am_nf f)) < lst then (nI (am_nf f)) else lst)) n38_104 rfl rfl ?_
    refine am_e_putf n38_105 rfl rfl ?_
    refine am_e_iinc (w := (nI (i + 1))) (ls' := [(5, .int (nI (i + 1))), (7, .int ((((nI f) / 100) + 0) + 0)), (6, .int (((nI f) / 100) + 0)), (0, .ref 148), (1, .int (nI n)), (2, .int 0), (4, .int 0)]) n38_106 rfl rfl (am_inc _) rfl ?_
    refine am_e_goto c38_107 t38_107 ?_
    refine am_Ek_ls (ls' := [(0, .ref 148), (1, .int (nI n)), (2, .int 0), (4, .int 0), (5, .int (nI (i + 1)))]) ⟨rfl, rfl, rfl, rfl, rfl, trivial⟩ ?_
    exact ih (i + 1) (am_nf f) (s + 1) _ _ (by omega) (am_nf_le hf) (by omega) hfin (by repeat (first | exact F | exact am_Fr_refl | refine am_Fr_up rfl ?_)) rfl rfl rfl
theorem am_goBy0 {h : am_H} {Q : Option Value → List am_k → am_H → Prop} {n f s : Nat} {lst : Int32} (hn : n ≤ 100000) (hG : am_Ts h am_gbL0) (hf : f ≤ 500) (hs : s + n ≤ 200000) (e0 : h 149 0 = .int (nI f)) (e1 : h 149 1 = .int (nI s)) (e2 : h 148 6 = .int lst)
    (K : ∀ h', am_Fr am_gbM0 h h' → h' 149 0 = .int (nI (am_nfs n f)) → h' 149 1 = .int (nI (s + n)) → (∃ l, h' 148 6 = .int l) → Q (some (.int 1)) am_ks0 h') : am_Ek false am_G0 am_m38 0 [(0, .ref 148), (1, .int (nI n)), (2, .int 0)] [] am_ks0 h 0 0 Q := by
  refine am_e_aload_n n38_0 rfl ?_
  refine am_e_getf (v := .int (-1)) n38_1 rfl (hG.2.2.2.2.2.2.2.2.2.2.2.2.2.1) ?_
  refine am_e_ifT n38_2 (am_c_ltT (by decide)) t38_2 ?_
  refine am_e_iconst (w := 0) n38_11 rfl ?_
  refine am_e_istore_n (ls' := [(3, .int 0), (0, .ref 148), (1, .int (nI n)), (2, .int 0)]) n38_12 rfl rfl ?_
  refine am_e_iload_n n38_13 rfl ?_
  refine am_e_ifT n38_14 (am_c_eqT (by decide)) t38_14 ?_
  refine am_e_iconst (w := 0) n38_22 rfl ?_
  refine am_e_istore (ls' := [(4, .int 0), (3, .int 0), (0, .ref 148), (1, .int (nI n)), (2, .int 0)]) n38_23 rfl rfl ?_
  refine am_e_iconst (w := 0) n38_24 rfl ?_
  refine am_e_istore (ls' := [(5, .int 0), (4, .int 0), (3, .int 0), (0, .ref 148), (1, .int (nI n)), (2, .int 0)]) n38_25 rfl rfl ?_
  refine am_Ek_ls (ls' := [(0, .ref 148), (1, .int (nI n)), (2, .int 0), (4, .int 0), (5, .int (nI 0))]) ⟨rfl, rfl, rfl, rfl, rfl, trivial⟩ ?_
  exact am_goBy0_loop hn hG K n 0 f s _ _ (by omega) hf (by omega) rfl am_Fr_refl e0 e1 e2
def am_gbM1 : List (Nat × Nat) := [(17, 0), (17, 1), (17, 2), (17, 3), (17, 4), (17, 5), (148, 6), (149, 0), (149, 1)]
def am_gbL1 : List (Nat × Nat × Value) := [(148, 1, .ref 149), (148, 5, .int 2147483647), (148, 0, .ref 2), (2, 19, .ref 11), (11, 7, .ref 17), (2, 0, .int 500), (11, 6, .ref 16), (16, 0, .int 0), (11, 4, .ref 14), (14, 0, .int 0), (11, 5, .ref 15), (15, 0, .int 0), (148, 4, .int 0), (148, 2, .int (-1))]
theorem am_goBy1_loop {h00 : am_H} {Q : Option Value → List am_k → am_H → Prop} {n sfin : Nat} (hn : n ≤ 100000) (hG : am_Ts h00 am_gbL1)
    (K : ∀ h', am_Fr am_gbM1 h00 h' → h' 149 0 = .int 0 → h' 149 1 = .int (nI sfin) → (∃ l, h' 148 6 = .int l) → Q (some (.int 1)) am_ks0 h') :
    ∀ (d i s : Nat) (lst : Int32) (h : am_H), i + d = n → s + d = sfin ∧ sfin ≤ 200000 → am_Fr am_gbM1 h00 h → h 149 0 = .int 0 → h 149 1 = .int (nI s) → h 148 6 = .int lst →
      am_Ek false am_G0 am_m38 26 [(0, .ref 148), (1, .int (nI n)), (2, .int 1), (4, .int 0), (5, .int (nI i))] [] am_ks0 h 0 0 Q := by
  intro d
  induction d with
  | zero =>
    intro i s lst h hin hs F e0 e1 e2
    have hin : i = n := hin
    have hs1 : s = sfin := hs.1
    subst hs1
    refine am_e_iload n38_26 rfl ?_
    refine am_e_iload_n n38_27 rfl ?_
    refine am_e_cmpT n38_28 (am_c_geT (by rw [hin]; exact am_lt_irr _)) t38_28 ?_
    refine am_e_iconst (w := 1) n38_108 rfl ?_
    refine am_e_iret c38_109 rfl rfl rfl ?_
    exact K _ F e0 e1 ⟨_, e2⟩
  | succ d ih =>
    intro i s lst h hin hs F e0 e1 e2
    refine am_e_iload n38_26 rfl ?_
    refine am_e_iload_n n38_27 rfl ?_
    refine am_e_cmpF n38_28 (am_c_geF (nI_lt (by omega) (by omega))) ?_
    refine am_e_aload_n n38_29 rfl ?_
    refine am_e_getf (v := .ref 149) n38_30 rfl ((F 148 1 rfl).trans (hG.1)) ?_
    refine am_e_getf (v := .int (nI s)) n38_31 rfl e1 ?_
    refine am_e_aload_n n38_32 rfl ?_
    refine am_e_getf (v := .int 2147483647) n38_33 rfl ((F 148 5 rfl).trans (hG.2.1)) ?_
    refine am_e_cmpT n38_34 (am_c_ltT (am_lt_lim (by omega))) t38_34 ?_
    refine am_e_aload_n n38_37 rfl ?_
    refine am_e_getf (v := .ref 149) n38_38 rfl ((F 148 1 rfl).trans (hG.1)) ?_
    refine am_e_getf (v := .int 0) n38_39 rfl e0 ?_
    refine am_e_bipush (w := 100) n38_40 (by decide) ?_
    refine am_e_idiv (w := 0) n38_41 (by decide) (by decide) ?_
    refine am_e_iload_n n38_42 rfl ?_
    refine am_e_ifF n38_43 (am_c_eqF (by decide)) ?_
    refine am_e_bipush (w := 20) n38_44 (by decide) ?_
    refine am_e_goto c38_45 t38_45 ?_
    refine am_e_iadd (w := 20) n38_47 (by decide) ?_
    refine am_e_istore (ls' := [(6, .int 20), (0, .ref 148), (1, .int (nI n)), (2, .int 1), (4, .int 0), (5, .int (nI i))]) n38_48 rfl rfl ?_
    refine am_e_aload_n n38_49 rfl ?_
    refine am_e_iconst (w := 0) n38_50 rfl ?_
    refine am_e_iload_n n38_51 rfl ?_
    refine am_e_ifF n38_52 (am_c_eqF (by decide)) ?_
    refine am_e_iconst (w := 1) n38_53 rfl ?_
    refine am_e_goto c38_54 t38_54 ?_
    refine am_e_iconst (w := 0) n38_56 rfl ?_
    refine am_e_callV (L := [(0, .ref 148), (1, .int 0), (2, .int 1), (3, .int 0)]) n38_57 rfl rfl rfl rfl rfl rfl rfl rfl ?_
    refine am_e_aload_n n33_0 rfl ?_
    refine am_e_getf (v := .ref 2) n33_1 rfl ((F 148 0 rfl).trans (hG.2.2.1)) ?_
    refine am_e_getf (v := .ref 11) n33_2 rfl ((F 2 19 rfl).trans (hG.2.2.2.1)) ?_
    refine am_e_astore (ls' := [(4, .ref 11), (0, .ref 148), (1, .int 0), (2, .int 1), (3, .int 0)]) n33_3 rfl rfl ?_
    refine am_e_aload n33_4 rfl ?_
    refine am_e_getf (v := .ref 17) n33_5 rfl ((F 11 7 rfl).trans (hG.2.2.2.2.1)) ?_
    refine am_e_iconst (w := 1) n33_6 rfl ?_
    refine am_e_aload_n n33_7 rfl ?_
    refine am_e_getf (v := .ref 149) n33_8 rfl ((F 148 1 rfl).trans (hG.1)) ?_
    refine am_e_getf (v := .int 0) n33_9 rfl e0 ?_
    refine am_e_i2l (w := 0) n33_10 (by decide) ?_
    refine am_e_lastore (q := 1) n33_11 rfl (by decide) (by decide) ?_
    refine am_e_aload n33_12 rfl ?_
    refine am_e_getf (v := .ref 17) n33_13 rfl ((F 11 7 rfl).trans (hG.2.2.2.2.1)) ?_
    refine am_e_iconst (w := 2) n33_14 rfl ?_
    refine am_e_aload_n n33_15 rfl ?_
    refine am_e_getf (v := .ref 2) n33_16 rfl ((F 148 0 rfl).trans (hG.2.2.1)) ?_
    refine am_e_getf (v := .int 500) n33_17 rfl ((F 2 0 rfl).trans (hG.2.2.2.2.2.1)) ?_
    refine am_e_aload_n n33_18 rfl ?_
    refine am_e_getf (v := .ref 149) n33_19 rfl ((F 148 1 rfl).trans (hG.1)) ?_
    refine am_e_getf (v := .int 0) n33_20 rfl e0 ?_
    refine am_e_isub (w := 500) n33_21 (by decide) ?_
    refine am_e_i2l (w := 500) n33_22 (by decide) ?_
    refine am_e_lastore (q := 2) n33_23 rfl (by decide) (by decide) ?_
    refine am_e_aload n33_24 rfl ?_
    refine am_e_getf (v := .ref 17) n33_25 rfl ((F 11 7 rfl).trans (hG.2.2.2.2.1)) ?_
    refine am_e_iconst (w := 3) n33_26 rfl ?_
    refine am_e_iload_n n33_27 rfl ?_
    refine am_e_i2l (w := 1) n33_28 (by decide) ?_
    refine am_e_lastore (q := 3) n33_29 rfl (by decide) (by decide) ?_
    refine am_e_aload n33_30 rfl ?_
    refine am_e_getf (v := .ref 17) n33_31 rfl ((F 11 7 rfl).trans (hG.2.2.2.2.1)) ?_
    refine am_e_iconst (w := 4) n33_32 rfl ?_
    refine am_e_aload_n n33_33 rfl ?_
    refine am_e_getf (v := .ref 149) n33_34 rfl ((F 148 1 rfl).trans (hG.1)) ?_
    refine am_e_getf (v := .int (nI s)) n33_35 rfl e1 ?_
    refine am_e_i2l (w := ((nI s).toInt64)) n33_36 rfl ?_
    refine am_e_lastore (q := 4) n33_37 rfl (by decide) (by decide) ?_
    refine am_e_aload n33_38 rfl ?_
    refine am_e_getf (v := .ref 17) n33_39 rfl ((F 11 7 rfl).trans (hG.2.2.2.2.1)) ?_
    refine am_e_iconst (w := 0) n33_40 rfl ?_
    refine am_e_lconst (w := 0) n33_41 rfl ?_
    refine am_e_lastore (q := 0) n33_42 rfl (by decide) (by decide) ?_
    refine am_e_aload n33_43 rfl ?_
    refine am_e_getf (v := .ref 17) n33_44 rfl ((F 11 7 rfl).trans (hG.2.2.2.2.1)) ?_
    refine am_e_iconst (w := 5) n33_45 rfl ?_
    refine am_e_lconst (w := 0) n33_46 rfl ?_
    refine am_e_lastore (q := 5) n33_47 rfl (by decide) (by decide) ?_
    refine am_e_iload_n n33_48 rfl ?_
    refine am_e_iconst (w := 2) n33_49 rfl ?_
    refine am_e_cmpF n33_50 (am_c_eqF (by decide)) ?_
    refine am_e_aload n33_51 rfl ?_
    refine am_e_getf (v := .ref 16) n33_52 rfl ((F 11 6 rfl).trans (hG.2.2.2.2.2.2.1)) ?_
    refine am_e_iload_n n33_53 rfl ?_
    refine am_e_baload (v := 0) (q := 0) n33_54 rfl (by decide) (by decide) ((F 16 0 rfl).trans (hG.2.2.2.2.2.2.2.1)) ?_
    refine am_e_ifT n33_55 (am_c_eqT (by decide)) t33_55 ?_
    refine am_e_aload n33_70 rfl ?_
    refine am_e_getf (v := .ref 17) n33_71 rfl ((F 11 7 rfl).trans (hG.2.2.2.2.1)) ?_
    refine am_e_iconst (w := 5) n33_72 rfl ?_
    refine am_e_iload_n n33_73 rfl ?_
    refine am_e_i2l (w := 0) n33_74 (by decide) ?_
    refine am_e_lastore (q := 5) n33_75 rfl (by decide) (by decide) ?_
    refine am_e_aload n33_76 rfl ?_
    refine am_e_iload_n n33_77 rfl ?_
    refine am_e_callV (L := [(0, .ref 11), (1, .int 0)]) n33_78 rfl rfl rfl rfl rfl rfl rfl rfl ?_
    refine am_e_iconst (w := 0) n34_0 rfl ?_
    refine am_e_istore_n (ls' := [(2, .int 0), (0, .ref 11), (1, .int 0)]) n34_1 rfl rfl ?_
    refine am_e_aload_n n34_2 rfl ?_
    refine am_e_getf (v := .ref 14) n34_3 rfl ((F 11 4 rfl).trans (hG.2.2.2.2.2.2.2.2.1)) ?_
    refine am_e_iload_n n34_4 rfl ?_
    refine am_e_iaload (v := 0) (q := 0) n34_5 rfl (by decide) (by decide) ((F 14 0 rfl).trans (hG.2.2.2.2.2.2.2.2.2.1)) ?_
    refine am_e_istore_n (ls' := [(3, .int 0), (2, .int 0), (0, .ref 11), (1, .int 0)]) n34_6 rfl rfl ?_
    refine am_e_iload_n n34_7 rfl ?_
    refine am_e_aload_n n34_8 rfl ?_
    refine am_e_getf (v := .ref 15) n34_9 rfl ((F 11 5 rfl).trans (hG.2.2.2.2.2.2.2.2.2.2.1)) ?_
    refine am_e_iload_n n34_10 rfl ?_
    refine am_e_iaload (v := 0) (q := 0) n34_11 rfl (by decide) (by decide) ((F 15 0 rfl).trans (hG.2.2.2.2.2.2.2.2.2.2.2.1)) ?_
    refine am_e_cmpT n34_12 (am_c_geT (by decide)) t34_12 ?_
    refine am_e_iload_n n34_114 rfl ?_
    refine am_e_iconst (w := 1) n34_115 rfl ?_
    refine am_e_cmpT n34_116 (am_c_neT (by decide)) t34_116 ?_
    refine am_e_ldc2 (w := (-9223372036854775808)) n34_122 (by decide) ?_
    refine am_e_lret c34_123 rfl rfl ?_
    refine am_e_lret c33_79 rfl rfl ?_
    refine am_e_sipush (w := 999) n38_58 (by decide) ?_
    refine am_e_iload n38_59 rfl ?_
    refine am_e_callS (L := [(0, .long (-9223372036854775808)), (2, .int 999), (3, .int 20)]) n38_60 rfl rfl rfl rfl rfl rfl rfl ?_
    refine am_e_lload_n n35_0 rfl ?_
    refine am_e_ldc2 (w := (-9223372036854775808)) n35_1 (by decide) ?_
    refine am_e_lcmp (w := 0) n35_2 (by decide) ?_
    refine am_e_ifF n35_3 (am_c_neF (by decide)) ?_
    refine am_e_iload_n n35_4 rfl ?_
    refine am_e_iret c35_5 rfl rfl rfl ?_
    refine am_e_iload n38_61 rfl ?_
    refine am_e_iadd (w := 20) n38_62 (by decide) ?_
    refine am_e_istore (ls' := [(7, .int 20), (6, .int 20), (0, .ref 148), (1, .int (nI n)), (2, .int 1), (4, .int 0), (5, .int (nI i))]) n38_63 rfl rfl ?_
    refine am_e_aload_n n38_64 rfl ?_
    refine am_e_getf (v := .ref 149) n38_65 rfl ((F 148 1 rfl).trans (hG.1)) ?_
    refine am_e_aload_n n38_66 rfl ?_
    refine am_e_getf (v := .ref 149) n38_67 rfl ((F 148 1 rfl).trans (hG.1)) ?_
    refine am_e_getf (v := .int 0) n38_68 rfl e0 ?_
    refine am_e_iload n38_69 rfl ?_
    refine am_e_isub (w := (-20)) n38_70 (by decide) ?_
    refine am_e_iconst (w := 0) n38_71 rfl ?_
    refine am_e_max (w := 0) n38_72 rfl (by decide) ?_
    refine am_e_putf n38_73 rfl rfl ?_
    refine am_e_aload_n n38_74 rfl ?_
    refine am_e_getf (v := .int 0) n38_75 rfl ((F 148 4 rfl).trans (hG.2.2.2.2.2.2.2.2.2.2.2.2.1)) ?_
    refine am_e_ifT n38_76 (am_c_eqT (by decide)) t38_76 ?_
    refine am_e_aload_n n38_91 rfl ?_
    refine am_e_getf (v := .ref 149) n38_92 rfl ((F 148 1 rfl).trans (hG.1)) ?_
    refine am_e_dup n38_93 rfl ?_
    refine am_e_getf (v := .int (nI s)) n38_94 rfl e1 ?_
    refine am_e_iconst (w := 1) n38_95 rfl ?_
    refine am_e_iadd (w := (nI (s + 1))) n38_96 (nI_1 _) ?_
    refine am_e_putf n38_97 rfl rfl ?_
    refine am_e_aload_n n38_98 rfl ?_
    refine am_e_aload_n n38_99 rfl ?_
    refine am_e_getf (v := .int lst) n38_100 rfl e2 ?_
    refine am_e_aload_n n38_101 rfl ?_
    refine am_e_getf (v := .ref 149) n38_102 rfl ((F 148 1 rfl).trans (hG.1)) ?_
    refine am_e_getf (v := .int 0) n38_103 rfl rfl ?_
    refine am_e_min (w := (if 0 < lst then 0 else lst)) n38_104 rfl rfl ?_
    refine am_e_putf n38_105 rfl rfl ?_
    refine am_e_iinc (w := (nI (i + 1))) (ls' := [(5, .int (nI (i + 1))), (7, .int 20), (6, .int 20), (0, .ref 148), (1, .int (nI n)), (2, .int 1), (4, .int 0)]) n38_106 rfl rfl (am_inc _) rfl ?_
    refine am_e_goto c38_107 t38_107 ?_
    refine am_Ek_ls (ls' := [(0, .ref 148), (1, .int (nI n)), (2, .int 1), (4, .int 0), (5, .int (nI (i + 1)))]) ⟨rfl, rfl, rfl, rfl, rfl, trivial⟩ ?_
    exact ih (i + 1) (s + 1) _ _ (by omega) (by omega) (by repeat (first | exact F | exact am_Fr_refl | refine am_Fr_up rfl ?_)) rfl rfl rfl
theorem am_goBy1 {h : am_H} {Q : Option Value → List am_k → am_H → Prop} {n s : Nat} {lst : Int32} (hn : n ≤ 100000) (hG : am_Ts h am_gbL1) (hs : s + n ≤ 200000) (e0 : h 149 0 = .int 0) (e1 : h 149 1 = .int (nI s)) (e2 : h 148 6 = .int lst)
    (K : ∀ h', am_Fr am_gbM1 h h' → h' 149 0 = .int 0 → h' 149 1 = .int (nI (s + n)) → (∃ l, h' 148 6 = .int l) → Q (some (.int 1)) am_ks0 h') : am_Ek false am_G0 am_m38 0 [(0, .ref 148), (1, .int (nI n)), (2, .int 1)] [] am_ks0 h 0 0 Q := by
  refine am_e_aload_n n38_0 rfl ?_
  refine am_e_getf (v := .int (-1)) n38_1 rfl (hG.2.2.2.2.2.2.2.2.2.2.2.2.2.1) ?_
  refine am_e_ifT n38_2 (am_c_ltT (by decide)) t38_2 ?_
  refine am_e_iconst (w := 0) n38_11 rfl ?_
  refine am_e_istore_n (ls' := [(3, .int 0), (0, .ref 148), (1, .int (nI n)), (2, .int 1)]) n38_12 rfl rfl ?_
  refine am_e_iload_n n38_13 rfl ?_
  refine am_e_ifT n38_14 (am_c_eqT (by decide)) t38_14 ?_
  refine am_e_iconst (w := 0) n38_22 rfl ?_
  refine am_e_istore (ls' := [(4, .int 0), (3, .int 0), (0, .ref 148), (1, .int (nI n)), (2, .int 1)]) n38_23 rfl rfl ?_
  refine am_e_iconst (w := 0) n38_24 rfl ?_
  refine am_e_istore (ls' := [(5, .int 0), (4, .int 0), (3, .int 0), (0, .ref 148), (1, .int (nI n)), (2, .int 1)]) n38_25 rfl rfl ?_
  refine am_Ek_ls (ls' := [(0, .ref 148), (1, .int (nI n)), (2, .int 1), (4, .int 0), (5, .int (nI 0))]) ⟨rfl, rfl, rfl, rfl, rfl, trivial⟩ ?_
  exact am_goBy1_loop hn hG K n 0 s _ _ (by omega) (by omega) am_Fr_refl e0 e1 e2
def am_aS00M : List (Nat × Nat) := [(186, 0), (186, 1), (186, 2), (186, 3), (186, 4), (186, 5), (188, 0), (189, 0)]
def am_aS00L : List (Nat × Nat × Value) := [(164, 50, .ref 188), (164, 61, .int 0), (164, 47, .ref 186), (164, 23, .ref 168), (168, 0, .int 500), (164, 51, .ref 189), (164, 33, .ref 178), (178, 2, .int 0), (178, 0, .int 0), (164, 62, .int (-1)), (164, 58, .int (-1)), (164, 60, .int 0)]
theorem am_aS00 {h : am_H} {Q : Option Value → List am_k → am_H → Prop} {f s : Nat} (hG : am_Ts h am_aS00L) (hf : f ≤ 500) (e0 : h 188 0 = .int (nI f)) (e1 : h 189 0 = .int (nI s))
    (K : ∀ h', am_Fr am_aS00M h h' → h' 188 0 = .int (nI (am_nf f)) → h' 189 0 = .int (nI (s + 1)) → Q none am_ks0 h') : am_Ek false am_G0 am_m98 0 [(0, .ref 164), (1, .int 0), (2, .int 0), (3, .int 0)] [] am_ks0 h 0 0 Q := by
  refine am_e_aload_n n98_0 rfl ?_
  refine am_e_getf (v := .ref 188) n98_1 rfl (hG.1) ?_
  refine am_e_iload_n n98_2 rfl ?_
  refine am_e_aload_n n98_3 rfl ?_
  refine am_e_iload_n n98_4 rfl ?_
  refine am_e_iload_n n98_5 rfl ?_
  refine am_e_iload_n n98_6 rfl ?_
  refine am_e_callV (L := [(0, .ref 164), (1, .int 0), (2, .int 0), (3, .int 0)]) n98_7 rfl rfl rfl rfl rfl rfl rfl rfl ?_
  refine am_e_iload_n n99_0 rfl ?_
  refine am_e_ifT n99_1 (am_c_eqT (by decide)) t99_1 ?_
  refine am_e_iconst (w := 0) n99_4 rfl ?_
  refine am_e_istore (ls' := [(4, .int 0), (0, .ref 164), (1, .int 0), (2, .int 0), (3, .int 0)]) n99_5 rfl rfl ?_
  refine am_e_aload_n n99_6 rfl ?_
  refine am_e_iload_n n99_7 rfl ?_
  refine am_e_iload n99_8 rfl ?_
  refine am_e_callV (L := [(0, .ref 164), (1, .int 0), (2, .int 0)]) n99_9 rfl rfl rfl rfl rfl rfl rfl rfl ?_
  refine am_e_aload_n n93_0 rfl ?_
  refine am_e_getf (v := .int 0) n93_1 rfl (hG.2.1) ?_
  refine am_e_ifT n93_2 (am_c_eqT (by decide)) t93_2 ?_
  refine am_e_aload_n n93_5 rfl ?_
  refine am_e_iload_n n93_6 rfl ?_
  refine am_e_iload_n n93_7 rfl ?_
  refine am_e_iconst (w := 0) n93_8 rfl ?_
  refine am_e_iconst (w := 0) n93_9 rfl ?_
  refine am_e_callV (L := [(0, .ref 164), (1, .int 0), (2, .int 0), (3, .int 0), (4, .int 0)]) n93_10 rfl rfl rfl rfl rfl rfl rfl rfl ?_
  refine am_e_aload_n n94_0 rfl ?_
  refine am_e_getf (v := .ref 186) n94_1 rfl (hG.2.2.1) ?_
  refine am_e_iconst (w := 0) n94_2 rfl ?_
  refine am_e_aload_n n94_3 rfl ?_
  refine am_e_getf (v := .ref 188) n94_4 rfl (hG.1) ?_
  refine am_e_iload_n n94_5 rfl ?_
  refine am_e_iaload (v := (nI f)) (q := 0) n94_6 rfl (by decide) (by decide) e0 ?_
  refine am_e_i2l (w := ((nI f).toInt64)) n94_7 rfl ?_
  refine am_e_lastore (q := 0) n94_8 rfl (by decide) (by decide) ?_
  refine am_e_aload_n n94_9 rfl ?_
  refine am_e_getf (v := .ref 186) n94_10 rfl (hG.2.2.1) ?_
  refine am_e_iconst (w := 1) n94_11 rfl ?_
  refine am_e_aload_n n94_12 rfl ?_
  refine am_e_getf (v := .ref 168) n94_13 rfl (hG.2.2.2.1) ?_
  refine am_e_iconst (w := 0) n94_14 rfl ?_
  refine am_e_iaload (v := 500) (q := 0) n94_15 rfl (by decide) (by decide) (hG.2.2.2.2.1) ?_
  refine am_e_aload_n n94_16 rfl ?_
  refine am_e_getf (v := .ref 188) n94_17 rfl (hG.1) ?_
  refine am_e_iload_n n94_18 rfl ?_
  refine am_e_iaload (v := (nI f)) (q := 0) n94_19 rfl (by decide) (by decide) e0 ?_
  refine am_e_isub (w := (500 - (nI f))) n94_20 rfl ?_
  refine am_e_i2l (w := ((500 - (nI f)).toInt64)) n94_21 rfl ?_
  refine am_e_lastore (q := 1) n94_22 rfl (by decide) (by decide) ?_
  refine am_e_aload_n n94_23 rfl ?_
  refine am_e_getf (v := .ref 186) n94_24 rfl (hG.2.2.1) ?_
  refine am_e_iconst (w := 2) n94_25 rfl ?_
  refine am_e_iload_n n94_26 rfl ?_
  refine am_e_i2l (w := 0) n94_27 (by decide) ?_
  refine am_e_lastore (q := 2) n94_28 rfl (by decide) (by decide) ?_
  refine am_e_aload_n n94_29 rfl ?_
  refine am_e_getf (v := .ref 186) n94_30 rfl (hG.2.2.1) ?_
  refine am_e_iconst (w := 3) n94_31 rfl ?_
  refine am_e_iload_n n94_32 rfl ?_
  refine am_e_i2l (w := 0) n94_33 (by decide) ?_
  refine am_e_lastore (q := 3) n94_34 rfl (by decide) (by decide) ?_
  refine am_e_aload_n n94_35 rfl ?_
  refine am_e_getf (v := .ref 186) n94_36 rfl (hG.2.2.1) ?_
  refine am_e_iconst (w := 4) n94_37 rfl ?_
  refine am_e_aload_n n94_38 rfl ?_
  refine am_e_getf (v := .ref 189) n94_39 rfl (hG.2.2.2.2.2.1) ?_
  refine am_e_iload_n n94_40 rfl ?_
  refine am_e_iaload (v := (nI s)) (q := 0) n94_41 rfl (by decide) (by decide) e1 ?_
  refine am_e_i2l (w := ((nI s).toInt64)) n94_42 rfl ?_
  refine am_e_lastore (q := 4) n94_43 rfl (by decide) (by decide) ?_
  refine am_e_aload_n n94_44 rfl ?_
  refine am_e_getf (v := .ref 186) n94_45 rfl (hG.2.2.1) ?_
  refine am_e_iconst (w := 5) n94_46 rfl ?_
  refine am_e_iload n94_47 rfl ?_
  refine am_e_i2l (w := 0) n94_48 (by decide) ?_
  refine am_e_lastore (q := 5) n94_49 rfl (by decide) (by decide) ?_
  refine am_e_vret c94_50 rfl rfl ?_
  refine am_e_aload_n n93_11 rfl ?_
  refine am_e_iconst (w := 2) n93_12 rfl ?_
  refine am_e_iconst (w := 0) n93_13 rfl ?_
  refine am_e_bipush (w := 99) n93_14 (by decide) ?_
  refine am_e_callV (L := [(0, .ref 164), (1, .int 2), (2, .int 0), (3, .int 99)]) n93_15 rfl rfl rfl rfl rfl rfl rfl rfl ?_
  refine am_e_aload_n n95_0 rfl ?_
  refine am_e_getf (v := .ref 178) n95_1 rfl (hG.2.2.2.2.2.2.1) ?_
  refine am_e_iload_n n95_2 rfl ?_
  refine am_e_baload (v := 0) (q := 2) n95_3 rfl (by decide) (by decide) (hG.2.2.2.2.2.2.2.1) ?_
  refine am_e_ifF n95_4 (am_c_neF (by decide)) ?_
  refine am_e_iload_n n95_5 rfl ?_
  refine am_e_iret c95_6 rfl rfl rfl ?_
  refine am_e_iret c93_16 rfl rfl rfl ?_
  refine am_e_istore (ls' := [(5, .int 0), (4, .int 0), (0, .ref 164), (1, .int 0), (2, .int 0), (3, .int 0)]) n99_10 rfl rfl ?_
  refine am_e_aload_n n99_11 rfl ?_
  refine am_e_iload_n n99_12 rfl ?_
  refine am_e_iload n99_13 rfl ?_
  refine am_e_iload n99_14 rfl ?_
  refine am_e_iconst (w := 0) n99_15 rfl ?_
  refine am_e_callV (L := [(0, .ref 164), (1, .int 0), (2, .int 0), (3, .int 0), (4, .int 0)]) n99_16 rfl rfl rfl rfl rfl rfl rfl rfl ?_
  refine am_e_aload_n n94_0 rfl ?_
  refine am_e_getf (v := .ref 186) n94_1 rfl (hG.2.2.1) ?_
  refine am_e_iconst (w := 0) n94_2 rfl ?_
  refine am_e_aload_n n94_3 rfl ?_
  refine am_e_getf (v := .ref 188) n94_4 rfl (hG.1) ?_
  refine am_e_iload_n n94_5 rfl ?_
  refine am_e_iaload (v := (nI f)) (q := 0) n94_6 rfl (by decide) (by decide) e0 ?_
  refine am_e_i2l (w := ((nI f).toInt64)) n94_7 rfl ?_
  refine am_e_lastore (q := 0) n94_8 rfl (by decide) (by decide) ?_
  refine am_e_aload_n n94_9 rfl ?_
  refine am_e_getf (v := .ref 186) n94_10 rfl (hG.2.2.1) ?_
  refine am_e_iconst (w := 1) n94_11 rfl ?_
  refine am_e_aload_n n94_12 rfl ?_
  refine am_e_getf (v := .ref 168) n94_13 rfl (hG.2.2.2.1) ?_
  refine am_e_iconst (w := 0) n94_14 rfl ?_
  refine am_e_iaload (v := 500) (q := 0) n94_15 rfl (by decide) (by decide) (hG.2.2.2.2.1) ?_
  refine am_e_aload_n n94_16 rfl ?_
  refine am_e_getf (v := .ref 188) n94_17 rfl (hG.1) ?_
  refine am_e_iload_n n94_18 rfl ?_
  refine am_e_iaload (v := (nI f)) (q := 0) n94_19 rfl (by decide) (by decide) e0 ?_
  refine am_e_isub (w := (500 - (nI f))) n94_20 rfl ?_
  refine am_e_i2l (w := ((500 - (nI f)).toInt64)) n94_21 rfl ?_
  refine am_e_lastore (q := 1) n94_22 rfl (by decide) (by decide) ?_
  refine am_e_aload_n n94_23 rfl ?_
  refine am_e_getf (v := .ref 186) n94_24 rfl (hG.2.2.1) ?_
  refine am_e_iconst (w := 2) n94_25 rfl ?_
  refine am_e_iload_n n94_26 rfl ?_
  refine am_e_i2l (w := 0) n94_27 (by decide) ?_
  refine am_e_lastore (q := 2) n94_28 rfl (by decide) (by decide) ?_
  refine am_e_aload_n n94_29 rfl ?_
  refine am_e_getf (v := .ref 186) n94_30 rfl (hG.2.2.1) ?_
  refine am_e_iconst (w := 3) n94_31 rfl ?_
  refine am_e_iload_n n94_32 rfl ?_
  refine am_e_i2l (w := 0) n94_33 (by decide) ?_
  refine am_e_lastore (q := 3) n94_34 rfl (by decide) (by decide) ?_
  refine am_e_aload_n n94_35 rfl ?_
  refine am_e_getf (v := .ref 186) n94_36 rfl (hG.2.2.1) ?_
  refine am_e_iconst (w := 4) n94_37 rfl ?_
  refine am_e_aload_n n94_38 rfl ?_
  refine am_e_getf (v := .ref 189) n94_39 rfl (hG.2.2.2.2.2.1) ?_
  refine am_e_iload_n n94_40 rfl ?_
  refine am_e_iaload (v := (nI s)) (q := 0) n94_41 rfl (by decide) (by decide) e1 ?_
  refine am_e_i2l (w := ((nI s).toInt64)) n94_42 rfl ?_
  refine am_e_lastore (q := 4) n94_43 rfl (by decide) (by decide) ?_
  refine am_e_aload_n n94_44 rfl ?_
  refine am_e_getf (v := .ref 186) n94_45 rfl (hG.2.2.1) ?_
  refine am_e_iconst (w := 5) n94_46 rfl ?_
  refine am_e_iload n94_47 rfl ?_
  refine am_e_i2l (w := 0) n94_48 (by decide) ?_
  refine am_e_lastore (q := 5) n94_49 rfl (by decide) (by decide) ?_
  refine am_e_vret c94_50 rfl rfl ?_
  refine am_e_aload_n n99_17 rfl ?_
  refine am_e_getf (v := .ref 188) n99_18 rfl (hG.1) ?_
  refine am_e_iload_n n99_19 rfl ?_
  refine am_e_iaload (v := (nI f)) (q := 0) n99_20 rfl (by decide) (by decide) e0 ?_
  refine am_e_aload_n n99_21 rfl ?_
  refine am_e_iconst (w := 0) n99_22 rfl ?_
  refine am_e_aload_n n99_23 rfl ?_
  refine am_e_getf (v := .ref 188) n99_24 rfl (hG.1) ?_
  refine am_e_iload_n n99_25 rfl ?_
  refine am_e_iaload (v := (nI f)) (q := 0) n99_26 rfl (by decide) (by decide) e0 ?_
  refine am_e_bipush (w := 100) n99_27 (by decide) ?_
  refine am_e_idiv (w := ((nI f) / 100)) n99_28 (by decide) rfl ?_
  refine am_e_bipush (w := 20) n99_29 (by decide) ?_
  refine am_e_iload n99_30 rfl ?_
  refine am_e_imul (w := 0) n99_31 (by decide) ?_
  refine am_e_iadd (w := (((nI f) / 100) + 0)) n99_32 rfl ?_
  refine am_e_sipush (w := 999) n99_33 (by decide) ?_
  refine am_e_callV (L := [(0, .ref 164), (1, .int 0), (2, .int (((nI f) / 100) + 0)), (3, .int 999)]) n99_34 rfl rfl rfl rfl rfl rfl rfl rfl ?_
  refine am_e_aload_n n95_0 rfl ?_
  refine am_e_getf (v := .ref 178) n95_1 rfl (hG.2.2.2.2.2.2.1) ?_
  refine am_e_iload_n n95_2 rfl ?_
  refine am_e_baload (v := 0) (q := 0) n95_3 rfl (by decide) (by decide) (hG.2.2.2.2.2.2.2.2.1) ?_
  refine am_e_ifF n95_4 (am_c_neF (by decide)) ?_
  refine am_e_iload_n n95_5 rfl ?_
  refine am_e_iret c95_6 rfl rfl rfl ?_
  refine am_e_isub (w := ((nI f) - (((nI f) / 100) + 0))) n99_35 rfl ?_
  refine am_e_aload_n n99_36 rfl ?_
  refine am_e_callV (L := [(0, .ref 164)]) n99_37 rfl rfl rfl rfl rfl rfl rfl rfl ?_
  refine am_e_aload_n n100_0 rfl ?_
  refine am_e_getf (v := .int (-1)) n100_1 rfl (hG.2.2.2.2.2.2.2.2.2.1) ?_
  refine am_e_ifT n100_2 (am_c_ltT (by decide)) t100_2 ?_
  refine am_e_aload_n n100_6 rfl ?_
  refine am_e_getf (v := .int (-1)) n100_7 rfl (hG.2.2.2.2.2.2.2.2.2.2.1) ?_
  refine am_e_istore_n (ls' := [(1, .int (-1)), (0, .ref 164)]) n100_8 rfl rfl ?_
  refine am_e_aload_n n100_9 rfl ?_
  refine am_e_getf (v := .int 0) n100_10 rfl (hG.2.2.2.2.2.2.2.2.2.2.2.1) ?_
  refine am_e_ifF n100_11 (am_c_neF (by decide)) ?_
  refine am_e_iload_n n100_12 rfl ?_
  refine am_e_ifT n100_13 (am_c_ltT (by decide)) t100_13 ?_
  refine am_e_iconst (w := 0) n100_23 rfl ?_
  refine am_e_goto c100_24 t100_24 ?_
  refine am_e_iret c100_29 rfl rfl rfl ?_
  refine am_e_isub (w := (nI (am_nf f))) n99_38 (am_nf_m hf) ?_
  refine am_e_istore (ls' := [(6, .int (nI (am_nf f))), (5, .int 0), (4, .int 0), (0, .ref 164), (1, .int 0), (2, .int 0), (3, .int 0)]) n99_39 rfl rfl ?_
  refine am_e_iload n99_40 rfl ?_
  refine am_e_ifT n99_41 (am_c_geT (nI_pos (am_nf_lt hf))) t99_41 ?_
  refine am_e_iload n99_44 rfl ?_
  refine am_e_istore (ls' := [(6, .int (nI (am_nf f))), (5, .int 0), (4, .int 0), (0, .ref 164), (1, .int 0), (2, .int 0), (3, .int 0)]) n99_45 rfl rfl ?_
  refine am_e_iload_n n99_46 rfl ?_
  refine am_e_ifF n99_47 (am_c_neF (by decide)) ?_
  refine am_e_iload n99_48 rfl ?_
  refine am_e_iret c99_49 rfl rfl rfl ?_
  refine am_e_iastore (q := 0) n98_8 rfl (by decide) (by decide) ?_
  refine am_e_aload_n n98_9 rfl ?_
  refine am_e_getf (v := .ref 189) n98_10 rfl (hG.2.2.2.2.2.1) ?_
  refine am_e_iload_n n98_11 rfl ?_
  refine am_e_dup2 n98_12 rfl ?_
  refine am_e_iaload (v := (nI s)) (q := 0) n98_13 rfl (by decide) (by decide) e1 ?_
  refine am_e_iconst (w := 1) n98_14 rfl ?_
  refine am_e_iadd (w := (nI (s + 1))) n98_15 (nI_1 _) ?_
  refine am_e_iastore (q := 0) n98_16 rfl (by decide) (by decide) ?_
  refine am_e_vret c98_17 rfl rfl ?_
  exact K _ (by repeat (first | exact am_Fr_refl | refine am_Fr_up rfl ?_)) rfl rfl
def am_aS01M : List (Nat × Nat) := [(186, 0), (186, 1), (186, 2), (186, 3), (186, 4), (186, 5), (188, 0), (189, 0)]
def am_aS01L : List (Nat × Nat × Value) := [(164, 50, .ref 188), (164, 61, .int 0), (164, 47, .ref 186), (164, 23, .ref 168), (168, 0, .int 500), (164, 51, .ref 189), (164, 33, .ref 178), (178, 2, .int 0), (178, 0, .int 0), (164, 62, .int (-1)), (164, 58, .int (-1)), (164, 60, .int 0)]
theorem am_aS01 {h : am_H} {Q : Option Value → List am_k → am_H → Prop} {s : Nat} (hG : am_Ts h am_aS01L) (e0 : h 188 0 = .int 0) (e1 : h 189 0 = .int (nI s))
    (K : ∀ h', am_Fr am_aS01M h h' → h' 188 0 = .int 0 → h' 189 0 = .int (nI (s + 1)) → Q none am_ks0 h') : am_Ek false am_G0 am_m98 0 [(0, .ref 164), (1, .int 0), (2, .int 1), (3, .int 0)] [] am_ks0 h 0 0 Q := by
  refine am_e_aload_n n98_0 rfl ?_
  refine am_e_getf (v := .ref 188) n98_1 rfl (hG.1) ?_
  refine am_e_iload_n n98_2 rfl ?_
  refine am_e_aload_n n98_3 rfl ?_
  refine am_e_iload_n n98_4 rfl ?_
  refine am_e_iload_n n98_5 rfl ?_
  refine am_e_iload_n n98_6 rfl ?_
  refine am_e_callV (L := [(0, .ref 164), (1, .int 0), (2, .int 1), (3, .int 0)]) n98_7 rfl rfl rfl rfl rfl rfl rfl rfl ?_
  refine am_e_iload_n n99_0 rfl ?_
  refine am_e_ifF n99_1 (am_c_eqF (by decide)) ?_
  refine am_e_iconst (w := 1) n99_2 rfl ?_
  refine am_e_goto c99_3 t99_3 ?_
  refine am_e_istore (ls' := [(4, .int 1), (0, .ref 164), (1, .int 0), (2, .int 1), (3, .int 0)]) n99_5 rfl rfl ?_
  refine am_e_aload_n n99_6 rfl ?_
  refine am_e_iload_n n99_7 rfl ?_
  refine am_e_iload n99_8 rfl ?_
  refine am_e_callV (L := [(0, .ref 164), (1, .int 0), (2, .int 1)]) n99_9 rfl rfl rfl rfl rfl rfl rfl rfl ?_
  refine am_e_aload_n n93_0 rfl ?_
  refine am_e_getf (v := .int 0) n93_1 rfl (hG.2.1) ?_
  refine am_e_ifT n93_2 (am_c_eqT (by decide)) t93_2 ?_
  refine am_e_aload_n n93_5 rfl ?_
  refine am_e_iload_n n93_6 rfl ?_
  refine am_e_iload_n n93_7 rfl ?_
  refine am_e_iconst (w := 0) n93_8 rfl ?_
  refine am_e_iconst (w := 0) n93_9 rfl ?_
  refine am_e_callV (L := [(0, .ref 164), (1, .int 0), (2, .int 1), (3, .int 0), (4, .int 0)]) n93_10 rfl rfl rfl rfl rfl rfl rfl rfl ?_
  refine am_e_aload_n n94_0 rfl ?_
  refine am_e_getf (v := .ref 186) n94_1 rfl (hG.2.2.1) ?_
  refine am_e_iconst (w := 0) n94_2 rfl ?_
  refine am_e_aload_n n94_3 rfl ?_
  refine am_e_getf (v := .ref 188) n94_4 rfl (hG.1) ?_
  refine am_e_iload_n n94_5 rfl ?_
  refine am_e_iaload (v := 0) (q := 0) n94_6 rfl (by decide) (by decide) e0 ?_
  refine am_e_i2l (w := 0) n94_7 (by decide) ?_
  refine am_e_lastore (q := 0) n94_8 rfl (by decide) (by decide) ?_
  refine am_e_aload_n n94_9 rfl ?_
  refine am_e_getf (v := .ref 186) n94_10 rfl (hG.2.2.1) ?_
  refine am_e_iconst (w := 1) n94_11 rfl ?_
  refine am_e_aload_n n94_12 rfl ?_
  refine am_e_getf (v := .ref 168) n94_13 rfl (hG.2.2.2.1) ?_
  refine am_e_iconst (w := 0) n94_14 rfl ?_
  refine am_e_iaload (v := 500) (q := 0) n94_15 rfl (by decide) (by decide) (hG.2.2.2.2.1) ?_
  refine am_e_aload_n n94_16 rfl ?_
  refine am_e_getf (v := .ref 188) n94_17 rfl (hG.1) ?_
  refine am_e_iload_n n94_18 rfl ?_
  refine am_e_iaload (v := 0) (q := 0) n94_19 rfl (by decide) (by decide) e0 ?_
  refine am_e_isub (w := 500) n94_20 (by decide) ?_
  refine am_e_i2l (w := 500) n94_21 (by decide) ?_
  refine am_e_lastore (q := 1) n94_22 rfl (by decide) (by decide) ?_
  refine am_e_aload_n n94_23 rfl ?_
  refine am_e_getf (v := .ref 186) n94_24 rfl (hG.2.2.1) ?_
  refine am_e_iconst (w := 2) n94_25 rfl ?_
  refine am_e_iload_n n94_26 rfl ?_
  refine am_e_i2l (w := 1) n94_27 (by decide) ?_
  refine am_e_lastore (q := 2) n94_28 rfl (by decide) (by decide) ?_
  refine am_e_aload_n n94_29 rfl ?_
  refine am_e_getf (v := .ref 186) n94_30 rfl (hG.2.2.1) ?_
  refine am_e_iconst (w := 3) n94_31 rfl ?_
  refine am_e_iload_n n94_32 rfl ?_
  refine am_e_i2l (w := 0) n94_33 (by decide) ?_
  refine am_e_lastore (q := 3) n94_34 rfl (by decide) (by decide) ?_
  refine am_e_aload_n n94_35 rfl ?_
  refine am_e_getf (v := .ref 186) n94_36 rfl (hG.2.2.1) ?_
  refine am_e_iconst (w := 4) n94_37 rfl ?_
  refine am_e_aload_n n94_38 rfl ?_
  refine am_e_getf (v := .ref 189) n94_39 rfl (hG.2.2.2.2.2.1) ?_
  refine am_e_iload_n n94_40 rfl ?_
  refine am_e_iaload (v := (nI s)) (q := 0) n94_41 rfl (by decide) (by decide) e1 ?_
  refine am_e_i2l (w := ((nI s).toInt64)) n94_42 rfl ?_
  refine am_e_lastore (q := 4) n94_43 rfl (by decide) (by decide) ?_
  refine am_e_aload_n n94_44 rfl ?_
  refine am_e_getf (v := .ref 186) n94_45 rfl (hG.2.2.1) ?_
  refine am_e_iconst (w := 5) n94_46 rfl ?_
  refine am_e_iload n94_47 rfl ?_
  refine am_e_i2l (w := 0) n94_48 (by decide) ?_
  refine am_e_lastore (q := 5) n94_49 rfl (by decide) (by decide) ?_
  refine am_e_vret c94_50 rfl rfl ?_
  refine am_e_aload_n n93_11 rfl ?_
  refine am_e_iconst (w := 2) n93_12 rfl ?_
  refine am_e_iconst (w := 0) n93_13 rfl ?_
  refine am_e_bipush (w := 99) n93_14 (by decide) ?_
  refine am_e_callV (L := [(0, .ref 164), (1, .int 2), (2, .int 0), (3, .int 99)]) n93_15 rfl rfl rfl rfl rfl rfl rfl rfl ?_
  refine am_e_aload_n n95_0 rfl ?_
  refine am_e_getf (v := .ref 178) n95_1 rfl (hG.2.2.2.2.2.2.1) ?_
  refine am_e_iload_n n95_2 rfl ?_
  refine am_e_baload (v := 0) (q := 2) n95_3 rfl (by decide) (by decide) (hG.2.2.2.2.2.2.2.1) ?_
  refine am_e_ifF n95_4 (am_c_neF (by decide)) ?_
  refine am_e_iload_n n95_5 rfl ?_
  refine am_e_iret c95_6 rfl rfl rfl ?_
  refine am_e_iret c93_16 rfl rfl rfl ?_
  refine am_e_istore (ls' := [(5, .int 0), (4, .int 1), (0, .ref 164), (1, .int 0), (2, .int 1), (3, .int 0)]) n99_10 rfl rfl ?_
  refine am_e_aload_n n99_11 rfl ?_
  refine am_e_iload_n n99_12 rfl ?_
  refine am_e_iload n99_13 rfl ?_
  refine am_e_iload n99_14 rfl ?_
  refine am_e_iconst (w := 0) n99_15 rfl ?_
  refine am_e_callV (L := [(0, .ref 164), (1, .int 0), (2, .int 1), (3, .int 0), (4, .int 0)]) n99_16 rfl rfl rfl rfl rfl rfl rfl rfl ?_
  refine am_e_aload_n n94_0 rfl ?_
  refine am_e_getf (v := .ref 186) n94_1 rfl (hG.2.2.1) ?_
  refine am_e_iconst (w := 0) n94_2 rfl ?_
  refine am_e_aload_n n94_3 rfl ?_
  refine am_e_getf (v := .ref 188) n94_4 rfl (hG.1) ?_
  refine am_e_iload_n n94_5 rfl ?_
  refine am_e_iaload (v := 0) (q := 0) n94_6 rfl (by decide) (by decide) e0 ?_
  refine am_e_i2l (w := 0) n94_7 (by decide) ?_
  refine am_e_lastore (q := 0) n94_8 rfl (by decide) (by decide) ?_
  refine am_e_aload_n n94_9 rfl ?_
  refine am_e_getf (v := .ref 186) n94_10 rfl (hG.2.2.1) ?_
  refine am_e_iconst (w := 1) n94_11 rfl ?_
  refine am_e_aload_n n94_12 rfl ?_
  refine am_e_getf (v := .ref 168) n94_13 rfl (hG.2.2.2.1) ?_
  refine am_e_iconst (w := 0) n94_14 rfl ?_
  refine am_e_iaload (v := 500) (q := 0) n94_15 rfl (by decide) (by decide) (hG.2.2.2.2.1) ?_
  refine am_e_aload_n n94_16 rfl ?_
  refine am_e_getf (v := .ref 188) n94_17 rfl (hG.1) ?_
  refine am_e_iload_n n94_18 rfl ?_
  refine am_e_iaload (v := 0) (q := 0) n94_19 rfl (by decide) (by decide) e0 ?_
  refine am_e_isub (w := 500) n94_20 (by decide) ?_
  refine am_e_i2l (w := 500) n94_21 (by decide) ?_
  refine am_e_lastore (q := 1) n94_22 rfl (by decide) (by decide) ?_
  refine am_e_aload_n n94_23 rfl ?_
  refine am_e_getf (v := .ref 186) n94_24 rfl (hG.2.2.1) ?_
  refine am_e_iconst (w := 2) n94_25 rfl ?_
  refine am_e_iload_n n94_26 rfl ?_
  refine am_e_i2l (w := 1) n94_27 (by decide) ?_
  refine am_e_lastore (q := 2) n94_28 rfl (by decide) (by decide) ?_
  refine am_e_aload_n n94_29 rfl ?_
  refine am_e_getf (v := .ref 186) n94_30 rfl (hG.2.2.1) ?_
  refine am_e_iconst (w := 3) n94_31 rfl ?_
  refine am_e_iload_n n94_32 rfl ?_
  refine am_e_i2l (w := 0) n94_33 (by decide) ?_
  refine am_e_lastore (q := 3) n94_34 rfl (by decide) (by decide) ?_
  refine am_e_aload_n n94_35 rfl ?_
  refine am_e_getf (v := .ref 186) n94_36 rfl (hG.2.2.1) ?_
  refine am_e_iconst (w := 4) n94_37 rfl ?_
  refine am_e_aload_n n94_38 rfl ?_
  refine am_e_getf (v := .ref 189) n94_39 rfl (hG.2.2.2.2.2.1) ?_
  refine am_e_iload_n n94_40 rfl ?_
  refine am_e_iaload (v := (nI s)) (q := 0) n94_41 rfl (by decide) (by decide) e1 ?_
  refine am_e_i2l (w := ((nI s).toInt64)) n94_42 rfl ?_
  refine am_e_lastore (q := 4) n94_43 rfl (by decide) (by decide) ?_
  refine am_e_aload_n n94_44 rfl ?_
  refine am_e_getf (v := .ref 186) n94_45 rfl (hG.2.2.1) ?_
  refine am_e_iconst (w := 5) n94_46 rfl ?_
  refine am_e_iload n94_47 rfl ?_
  refine am_e_i2l (w := 0) n94_48 (by decide) ?_
  refine am_e_lastore (q := 5) n94_49 rfl (by decide) (by decide) ?_
  refine am_e_vret c94_50 rfl rfl ?_
  refine am_e_aload_n n99_17 rfl ?_
  refine am_e_getf (v := .ref 188) n99_18 rfl (hG.1) ?_
  refine am_e_iload_n n99_19 rfl ?_
  refine am_e_iaload (v := 0) (q := 0) n99_20 rfl (by decide) (by decide) e0 ?_
  refine am_e_aload_n n99_21 rfl ?_
  refine am_e_iconst (w := 0) n99_22 rfl ?_
  refine am_e_aload_n n99_23 rfl ?_
  refine am_e_getf (v := .ref 188) n99_24 rfl (hG.1) ?_
  refine am_e_iload_n n99_25 rfl ?_
  refine am_e_iaload (v := 0) (q := 0) n99_26 rfl (by decide) (by decide) e0 ?_
  refine am_e_bipush (w := 100) n99_27 (by decide) ?_
  refine am_e_idiv (w := 0) n99_28 (by decide) (by decide) ?_
  refine am_e_bipush (w := 20) n99_29 (by decide) ?_
  refine am_e_iload n99_30 rfl ?_
  refine am_e_imul (w := 20) n99_31 (by decide) ?_
  refine am_e_iadd (w := 20) n99_32 (by decide) ?_
  refine am_e_sipush (w := 999) n99_33 (by decide) ?_
  refine am_e_callV (L := [(0, .ref 164), (1, .int 0), (2, .int 20), (3, .int 999)]) n99_34 rfl rfl rfl rfl rfl rfl rfl rfl ?_
  refine am_e_aload_n n95_0 rfl ?_
  refine am_e_getf (v := .ref 178) n95_1 rfl (hG.2.2.2.2.2.2.1) ?_
  refine am_e_iload_n n95_2 rfl ?_
  refine am_e_baload (v := 0) (q := 0) n95_3 rfl (by decide) (by decide) (hG.2.2.2.2.2.2.2.2.1) ?_
  refine am_e_ifF n95_4 (am_c_neF (by decide)) ?_
  refine am_e_iload_n n95_5 rfl ?_
  refine am_e_iret c95_6 rfl rfl rfl ?_
  refine am_e_isub (w := (-20)) n99_35 (by decide) ?_
  refine am_e_aload_n n99_36 rfl ?_
  refine am_e_callV (L := [(0, .ref 164)]) n99_37 rfl rfl rfl rfl rfl rfl rfl rfl ?_
  refine am_e_aload_n n100_0 rfl ?_
  refine am_e_getf (v := .int (-1)) n100_1 rfl (hG.2.2.2.2.2.2.2.2.2.1) ?_
  refine am_e_ifT n100_2 (am_c_ltT (by decide)) t100_2 ?_
  refine am_e_aload_n n100_6 rfl ?_
  refine am_e_getf (v := .int (-1)) n100_7 rfl (hG.2.2.2.2.2.2.2.2.2.2.1) ?_
  refine am_e_istore_n (ls' := [(1, .int (-1)), (0, .ref 164)]) n100_8 rfl rfl ?_
  refine am_e_aload_n n100_9 rfl ?_
  refine am_e_getf (v := .int 0) n100_10 rfl (hG.2.2.2.2.2.2.2.2.2.2.2.1) ?_
  refine am_e_ifF n100_11 (am_c_neF (by decide)) ?_
  refine am_e_iload_n n100_12 rfl ?_
  refine am_e_ifT n100_13 (am_c_ltT (by decide)) t100_13 ?_
  refine am_e_iconst (w := 0) n100_23 rfl ?_
  refine am_e_goto c100_24 t100_24 ?_
  refine am_e_iret c100_29 rfl rfl rfl ?_
  refine am_e_isub (w := (-20)) n99_38 (by decide) ?_
  refine am_e_istore (ls' := [(6, .int (-20)), (5, .int 0), (4, .int 1), (0, .ref 164), (1, .int 0), (2, .int 1), (3, .int 0)]) n99_39 rfl rfl ?_
  refine am_e_iload n99_40 rfl ?_
  refine am_e_ifF n99_41 (am_c_geF (by decide)) ?_
  refine am_e_iconst (w := 0) n99_42 rfl ?_
  refine am_e_goto c99_43 t99_43 ?_
  refine am_e_istore (ls' := [(6, .int 0), (5, .int 0), (4, .int 1), (0, .ref 164), (1, .int 0), (2, .int 1), (3, .int 0)]) n99_45 rfl rfl ?_
  refine am_e_iload_n n99_46 rfl ?_
  refine am_e_ifF n99_47 (am_c_neF (by decide)) ?_
  refine am_e_iload n99_48 rfl ?_
  refine am_e_iret c99_49 rfl rfl rfl ?_
  refine am_e_iastore (q := 0) n98_8 rfl (by decide) (by decide) ?_
  refine am_e_aload_n n98_9 rfl ?_
  refine am_e_getf (v := .ref 189) n98_10 rfl (hG.2.2.2.2.2.1) ?_
  refine am_e_iload_n n98_11 rfl ?_
  refine am_e_dup2 n98_12 rfl ?_
  refine am_e_iaload (v := (nI s)) (q := 0) n98_13 rfl (by decide) (by decide) e1 ?_
  refine am_e_iconst (w := 1) n98_14 rfl ?_
  refine am_e_iadd (w := (nI (s + 1))) n98_15 (nI_1 _) ?_
  refine am_e_iastore (q := 0) n98_16 rfl (by decide) (by decide) ?_
  refine am_e_vret c98_17 rfl rfl ?_
  exact K _ (by repeat (first | exact am_Fr_refl | refine am_Fr_up rfl ?_)) rfl rfl
def am_aS10M : List (Nat × Nat) := [(186, 0), (186, 1), (186, 2), (186, 3), (186, 4), (186, 5), (188, 1), (189, 1)]
def am_aS10L : List (Nat × Nat × Value) := [(164, 50, .ref 188), (164, 61, .int 0), (164, 47, .ref 186), (164, 23, .ref 168), (168, 0, .int 500), (164, 51, .ref 189), (164, 33, .ref 178), (178, 2, .int 0), (178, 0, .int 0), (164, 62, .int (-1)), (164, 58, .int (-1)), (164, 60, .int 0)]
theorem am_aS10 {h : am_H} {Q : Option Value → List am_k → am_H → Prop} {f s : Nat} (hG : am_Ts h am_aS10L) (hf : f ≤ 500) (e0 : h 188 1 = .int (nI f)) (e1 : h 189 1 = .int (nI s))
    (K : ∀ h', am_Fr am_aS10M h h' → h' 188 1 = .int (nI (am_nf f)) → h' 189 1 = .int (nI (s + 1)) → Q none am_ks0 h') : am_Ek false am_G0 am_m98 0 [(0, .ref 164), (1, .int 1), (2, .int 0), (3, .int 0)] [] am_ks0 h 0 0 Q := by
  refine am_e_aload_n n98_0 rfl ?_
  refine am_e_getf (v := .ref 188) n98_1 rfl (hG.1) ?_
  refine am_e_iload_n n98_2 rfl ?_
  refine am_e_aload_n n98_3 rfl ?_
  refine am_e_iload_n n98_4 rfl ?_
  refine am_e_iload_n n98_5 rfl ?_
  refine am_e_iload_n n98_6 rfl ?_
  refine am_e_callV (L := [(0, .ref 164), (1, .int 1), (2, .int 0), (3, .int 0)]) n98_7 rfl rfl rfl rfl rfl rfl rfl rfl ?_
  refine am_e_iload_n n99_0 rfl ?_
  refine am_e_ifT n99_1 (am_c_eqT (by decide)) t99_1 ?_
  refine am_e_iconst (w := 0) n99_4 rfl ?_
  refine am_e_istore (ls' := [(4, .int 0), (0, .ref 164), (1, .int 1), (2, .int 0), (3, .int 0)]) n99_5 rfl rfl ?_
  refine am_e_aload_n n99_6 rfl ?_
  refine am_e_iload_n n99_7 rfl ?_
  refine am_e_iload n99_8 rfl ?_
  refine am_e_callV (L := [(0, .ref 164), (1, .int 1), (2, .int 0)]) n99_9 rfl rfl rfl rfl rfl rfl rfl rfl ?_
  refine am_e_aload_n n93_0 rfl ?_
  refine am_e_getf (v := .int 0) n93_1 rfl (hG.2.1) ?_
  refine am_e_ifT n93_2 (am_c_eqT (by decide)) t93_2 ?_
  refine am_e_aload_n n93_5 rfl ?_
  refine am_e_iload_n n93_6 rfl ?_
  refine am_e_iload_n n93_7 rfl ?_
  refine am_e_iconst (w := 0) n93_8 rfl ?_
  refine am_e_iconst (w := 0) n93_9 rfl ?_
  refine am_e_callV (L := [(0, .ref 164), (1, .int 1), (2, .int 0), (3, .int 0), (4, .int 0)]) n93_10 rfl rfl rfl rfl rfl rfl rfl rfl ?_
  refine am_e_aload_n n94_0 rfl ?_
  refine am_e_getf (v := .ref 186) n94_1 rfl (hG.2.2.1) ?_
  refine am_e_iconst (w := 0) n94_2 rfl ?_
  refine am_e_aload_n n94_3 rfl ?_
  refine am_e_getf (v := .ref 188) n94_4 rfl (hG.1) ?_
  refine am_e_iload_n n94_5 rfl ?_
  refine am_e_iaload (v := (nI f)) (q := 1) n94_6 rfl (by decide) (by decide) e0 ?_
  refine am_e_i2l (w := ((nI f).toInt64)) n94_7 rfl ?_
  refine am_e_lastore (q := 0) n94_8 rfl (by decide) (by decide) ?_
  refine am_e_aload_n n94_9 rfl ?_
  refine am_e_getf (v := .ref 186) n94_10 rfl (hG.2.2.1) ?_
  refine am_e_iconst (w := 1) n94_11 rfl ?_
  refine am_e_aload_n n94_12 rfl ?_
  refine am_e_getf (v := .ref 168) n94_13 rfl (hG.2.2.2.1) ?_
  refine am_e_iconst (w := 0) n94_14 rfl ?_
  refine am_e_iaload (v := 500) (q := 0) n94_15 rfl (by decide) (by decide) (hG.2.2.2.2.1) ?_
  refine am_e_aload_n n94_16 rfl ?_
  refine am_e_getf (v := .ref 188) n94_17 rfl (hG.1) ?_
  refine am_e_iload_n n94_18 rfl ?_
  refine am_e_iaload (v := (nI f)) (q := 1) n94_19 rfl (by decide) (by decide) e0 ?_
  refine am_e_isub (w := (500 - (nI f))) n94_20 rfl ?_
  refine am_e_i2l (w := ((500 - (nI f)).toInt64)) n94_21 rfl ?_
  refine am_e_lastore (q := 1) n94_22 rfl (by decide) (by decide) ?_
  refine am_e_aload_n n94_23 rfl ?_
  refine am_e_getf (v := .ref 186) n94_24 rfl (hG.2.2.1) ?_
  refine am_e_iconst (w := 2) n94_25 rfl ?_
  refine am_e_iload_n n94_26 rfl ?_
  refine am_e_i2l (w := 0) n94_27 (by decide) ?_
  refine am_e_lastore (q := 2) n94_28 rfl (by decide) (by decide) ?_
  refine am_e_aload_n n94_29 rfl ?_
  refine am_e_getf (v := .ref 186) n94_30 rfl (hG.2.2.1) ?_
  refine am_e_iconst (w := 3) n94_31 rfl ?_
  refine am_e_iload_n n94_32 rfl ?_
  refine am_e_i2l (w := 0) n94_33 (by decide) ?_
  refine am_e_lastore (q := 3) n94_34 rfl (by decide) (by decide) ?_
  refine am_e_aload_n n94_35 rfl ?_
  refine am_e_getf (v := .ref 186) n94_36 rfl (hG.2.2.1) ?_
  refine am_e_iconst (w := 4) n94_37 rfl ?_
  refine am_e_aload_n n94_38 rfl ?_
  refine am_e_getf (v := .ref 189) n94_39 rfl (hG.2.2.2.2.2.1) ?_
  refine am_e_iload_n n94_40 rfl ?_
  refine am_e_iaload (v := (nI s)) (q := 1) n94_41 rfl (by decide) (by decide) e1 ?_
  refine am_e_i2l (w := ((nI s).toInt64)) n94_42 rfl ?_
  refine am_e_lastore (q := 4) n94_43 rfl (by decide) (by decide) ?_
  refine am_e_aload_n n94_44 rfl ?_
  refine am_e_getf (v := .ref 186) n94_45 rfl (hG.2.2.1) ?_
  refine am_e_iconst (w := 5) n94_46 rfl ?_
  refine am_e_iload n94_47 rfl ?_
  refine am_e_i2l (w := 0) n94_48 (by decide) ?_
  refine am_e_lastore (q := 5) n94_49 rfl (by decide) (by decide) ?_
  refine am_e_vret c94_50 rfl rfl ?_
  refine am_e_aload_n n93_11 rfl ?_
  refine am_e_iconst (w := 2) n93_12 rfl ?_
  refine am_e_iconst (w := 0) n93_13 rfl ?_
  refine am_e_bipush (w := 99) n93_14 (by decide) ?_
  refine am_e_callV (L := [(0, .ref 164), (1, .int 2), (2, .int 0), (3, .int 99)]) n93_15 rfl rfl rfl rfl rfl rfl rfl rfl ?_
  refine am_e_aload_n n95_0 rfl ?_
  refine am_e_getf (v := .ref 178) n95_1 rfl (hG.2.2.2.2.2.2.1) ?_
  refine am_e_iload_n n95_2 rfl ?_
  refine am_e_baload (v := 0) (q := 2) n95_3 rfl (by decide) (by decide) (hG.2.2.2.2.2.2.2.1) ?_
  refine am_e_ifF n95_4 (am_c_neF (by decide)) ?_
  refine am_e_iload_n n95_5 rfl ?_
  refine am_e_iret c95_6 rfl rfl rfl ?_
  refine am_e_iret c93_16 rfl rfl rfl ?_
  refine am_e_istore (ls' := [(5, .int 0), (4, .int 0), (0, .ref 164), (1, .int 1), (2, .int 0), (3, .int 0)]) n99_10 rfl rfl ?_
  refine am_e_aload_n n99_11 rfl ?_
  refine am_e_iload_n n99_12 rfl ?_
  refine am_e_iload n99_13 rfl ?_
  refine am_e_iload n99_14 rfl ?_
  refine am_e_iconst (w := 0) n99_15 rfl ?_
  refine am_e_callV (L := [(0, .ref 164), (1, .int 1), (2, .int 0), (3, .int 0), (4, .int 0)]) n99_16 rfl rfl rfl rfl rfl rfl rfl rfl ?_
  refine am_e_aload_n n94_0 rfl ?_
  refine am_e_getf (v := .ref 186) n94_1 rfl (hG.2.2.1) ?_
  refine am_e_iconst (w := 0) n94_2 rfl ?_
  refine am_e_aload_n n94_3 rfl ?_
  refine am_e_getf (v := .ref 188) n94_4 rfl (hG.1) ?_
  refine am_e_iload_n n94_5 rfl ?_
  refine am_e_iaload (v := (nI f)) (q := 1) n94_6 rfl (by decide) (by decide) e0 ?_
  refine am_e_i2l (w := ((nI f).toInt64)) n94_7 rfl ?_
  refine am_e_lastore (q := 0) n94_8 rfl (by decide) (by decide) ?_
  refine am_e_aload_n n94_9 rfl ?_
  refine am_e_getf (v := .ref 186) n94_10 rfl (hG.2.2.1) ?_
  refine am_e_iconst (w := 1) n94_11 rfl ?_
  refine am_e_aload_n n94_12 rfl ?_
  refine am_e_getf (v := .ref 168) n94_13 rfl (hG.2.2.2.1) ?_
  refine am_e_iconst (w := 0) n94_14 rfl ?_
  refine am_e_iaload (v := 500) (q := 0) n94_15 rfl (by decide) (by decide) (hG.2.2.2.2.1) ?_
  refine am_e_aload_n n94_16 rfl ?_
  refine am_e_getf (v := .ref 188) n94_17 rfl (hG.1) ?_
  refine am_e_iload_n n94_18 rfl ?_
  refine am_e_iaload (v := (nI f)) (q := 1) n94_19 rfl (by decide) (by decide) e0 ?_
  refine am_e_isub (w := (500 - (nI f))) n94_20 rfl ?_
  refine am_e_i2l (w := ((500 - (nI f)).toInt64)) n94_21 rfl ?_
  refine am_e_lastore (q := 1) n94_22 rfl (by decide) (by decide) ?_
  refine am_e_aload_n n94_23 rfl ?_
  refine am_e_getf (v := .ref 186) n94_24 rfl (hG.2.2.1) ?_
  refine am_e_iconst (w := 2) n94_25 rfl ?_
  refine am_e_iload_n n94_26 rfl ?_
  refine am_e_i2l (w := 0) n94_27 (by decide) ?_
  refine am_e_lastore (q := 2) n94_28 rfl (by decide) (by decide) ?_
  refine am_e_aload_n n94_29 rfl ?_
  refine am_e_getf (v := .ref 186) n94_30 rfl (hG.2.2.1) ?_
  refine am_e_iconst (w := 3) n94_31 rfl ?_
  refine am_e_iload_n n94_32 rfl ?_
  refine am_e_i2l (w := 0) n94_33 (by decide) ?_
  refine am_e_lastore (q := 3) n94_34 rfl (by decide) (by decide) ?_
  refine am_e_aload_n n94_35 rfl ?_
  refine am_e_getf (v := .ref 186) n94_36 rfl (hG.2.2.1) ?_
  refine am_e_iconst (w := 4) n94_37 rfl ?_
  refine am_e_aload_n n94_38 rfl ?_
  refine am_e_getf (v := .ref 189) n94_39 rfl (hG.2.2.2.2.2.1) ?_
  refine am_e_iload_n n94_40 rfl ?_
  refine am_e_iaload (v := (nI s)) (q := 1) n94_41 rfl (by decide) (by decide) e1 ?_
  refine am_e_i2l (w := ((nI s).toInt64)) n94_42 rfl ?_
  refine am_e_lastore (q := 4) n94_43 rfl (by decide) (by decide) ?_
  refine am_e_aload_n n94_44 rfl ?_
  refine am_e_getf (v := .ref 186) n94_45 rfl (hG.2.2.1) ?_
  refine am_e_iconst (w := 5) n94_46 rfl ?_
  refine am_e_iload n94_47 rfl ?_
  refine am_e_i2l (w := 0) n94_48 (by decide) ?_
  refine am_e_lastore (q := 5) n94_49 rfl (by decide) (by decide) ?_
  refine am_e_vret c94_50 rfl rfl ?_
  refine am_e_aload_n n99_17 rfl ?_
  refine am_e_getf (v := .ref 188) n99_18 rfl (hG.1) ?_
  refine am_e_iload_n n99_19 rfl ?_
  refine am_e_iaload (v := (nI f)) (q := 1) n99_20 rfl (by decide) (by decide) e0 ?_
  refine am_e_aload_n n99_21 rfl ?_
  refine am_e_iconst (w := 0) n99_22 rfl ?_
  refine am_e_aload_n n99_23 rfl ?_
  refine am_e_getf (v := .ref 188) n99_24 rfl (hG.1) ?_
  refine am_e_iload_n n99_25 rfl ?_
  refine am_e_iaload (v := (nI f)) (q := 1) n99_26 rfl (by decide) (by decide) e0 ?_
  refine am_e_bipush (w := 100) n99_27 (by decide) ?_
  refine am_e_idiv (w := ((nI f) / 100)) n99_28 (by decide) rfl ?_
  refine am_e_bipush (w := 20) n99_29 (by decide) ?_
  refine am_e_iload n99_30 rfl ?_
  refine am_e_imul (w := 0) n99_31 (by decide) ?_
  refine am_e_iadd (w := (((nI f) / 100) + 0)) n99_32 rfl ?_
  refine am_e_sipush (w := 999) n99_33 (by decide) ?_
  refine am_e_callV (L := [(0, .ref 164), (1, .int 0), (2, .int (((nI f) / 100) + 0)), (3, .int 999)]) n99_34 rfl rfl rfl rfl rfl rfl rfl rfl ?_
  refine am_e_aload_n n95_0 rfl ?_
  refine am_e_getf (v := .ref 178) n95_1 rfl (hG.2.2.2.2.2.2.1) ?_
  refine am_e_iload_n n95_2 rfl ?_
  refine am_e_baload (v := 0) (q := 0) n95_3 rfl (by decide) (by decide) (hG.2.2.2.2.2.2.2.2.1) ?_
  refine am_e_ifF n95_4 (am_c_neF (by decide)) ?_
  refine am_e_iload_n n95_5 rfl ?_
  refine am_e_iret c95_6 rfl rfl rfl ?_
  refine am_e_isub (w := ((nI f) - (((nI f) / 100) + 0))) n99_35 rfl ?_
  refine am_e_aload_n n99_36 rfl ?_
  refine am_e_callV (L := [(0, .ref 164)]) n99_37 rfl rfl rfl rfl rfl rfl rfl rfl ?_
  refine am_e_aload_n n100_0 rfl ?_
  refine am_e_getf (v := .int (-1)) n100_1 rfl (hG.2.2.2.2.2.2.2.2.2.1) ?_
  refine am_e_ifT n100_2 (am_c_ltT (by decide)) t100_2 ?_
  refine am_e_aload_n n100_6 rfl ?_
  refine am_e_getf (v := .int (-1)) n100_7 rfl (hG.2.2.2.2.2.2.2.2.2.2.1) ?_
  refine am_e_istore_n (ls' := [(1, .int (-1)), (0, .ref 164)]) n100_8 rfl rfl ?_
  refine am_e_aload_n n100_9 rfl ?_
  refine am_e_getf (v := .int 0) n100_10 rfl (hG.2.2.2.2.2.2.2.2.2.2.2.1) ?_
  refine am_e_ifF n100_11 (am_c_neF (by decide)) ?_
  refine am_e_iload_n n100_12 rfl ?_
  refine am_e_ifT n100_13 (am_c_ltT (by decide)) t100_13 ?_
  refine am_e_iconst (w := 0) n100_23 rfl ?_
  refine am_e_goto c100_24 t100_24 ?_
  refine am_e_iret c100_29 rfl rfl rfl ?_
  refine am_e_isub (w := (nI (am_nf f))) n99_38 (am_nf_m hf) ?_
  refine am_e_istore (ls' := [(6, .int (nI (am_nf f))), (5, .int 0), (4, .int 0), (0, .ref 164), (1, .int 1), (2, .int 0), (3, .int 0)]) n99_39 rfl rfl ?_
  refine am_e_iload n99_40 rfl ?_
  refine am_e_ifT n99_41 (am_c_geT (nI_pos (am_nf_lt hf))) t99_41 ?_
  refine am_e_iload n99_44 rfl ?_
  refine am_e_istore (ls' := [(6, .int (nI (am_nf f))), (5, .int 0), (4, .int 0), (0, .ref 164), (1, .int 1), (2, .int 0), (3, .int 0)]) n99_45 rfl rfl ?_
  refine am_e_iload_n n99_46 rfl ?_
  refine am_e_ifF n99_47 (am_c_neF (by decide)) ?_
  refine am_e_iload n99_48 rfl ?_
  refine am_e_iret c99_49 rfl rfl rfl ?_
  refine am_e_iastore (q := 1) n98_8 rfl (by decide) (by decide) ?_
  refine am_e_aload_n n98_9 rfl ?_
  refine am_e_getf (v := .ref 189) n98_10 rfl (hG.2.2.2.2.2.1) ?_
  refine am_e_iload_n n98_11 rfl ?_
  refine am_e_dup2 n98_12 rfl ?_
  refine am_e_iaload (v := (nI s)) (q := 1) n98_13 rfl (by decide) (by decide) e1 ?_
  refine am_e_iconst (w := 1) n98_14 rfl ?_
  refine am_e_iadd (w := (nI (s + 1))) n98_15 (nI_1 _) ?_
  refine am_e_iastore (q := 1) n98_16 rfl (by decide) (by decide) ?_
  refine am_e_vret c98_17 rfl rfl ?_
  exact K _ (by repeat (first | exact am_Fr_refl | refine am_Fr_up rfl ?_)) rfl rfl
def am_aS11M : List (Nat × Nat) := [(186, 0), (186, 1), (186, 2), (186, 3), (186, 4), (186, 5), (188, 1), (189, 1)]
def am_aS11L : List (Nat × Nat × Value) := [(164, 50, .ref 188), (164, 61, .int 0), (164, 47, .ref 186), (164, 23, .ref 168), (168, 0, .int 500), (164, 51, .ref 189), (164, 33, .ref 178), (178, 2, .int 0), (178, 0, .int 0), (164, 62, .int (-1)), (164, 58, .int (-1)), (164, 60, .int 0)]
theorem am_aS11 {h : am_H} {Q : Option Value → List am_k → am_H → Prop} {s : Nat} (hG : am_Ts h am_aS11L) (e0 : h 188 1 = .int 0) (e1 : h 189 1 = .int (nI s))
    (K : ∀ h', am_Fr am_aS11M h h' → h' 188 1 = .int 0 → h' 189 1 = .int (nI (s + 1)) → Q none am_ks0 h') : am_Ek false am_G0 am_m98 0 [(0, .ref 164), (1, .int 1), (2, .int 1), (3, .int 0)] [] am_ks0 h 0 0 Q := by
  refine am_e_aload_n n98_0 rfl ?_
  refine am_e_getf (v := .ref 188) n98_1 rfl (hG.1) ?_
  refine am_e_iload_n n98_2 rfl ?_
  refine am_e_aload_n n98_3 rfl ?_
  refine am_e_iload_n n98_4 rfl ?_
  refine am_e_iload_n n98_5 rfl ?_
  refine am_e_iload_n n98_6 rfl ?_
  refine am_e_callV (L := [(0, .ref 164), (1, .int 1), (2, .int 1), (3, .int 0)]) n98_7 rfl rfl rfl rfl rfl rfl rfl rfl ?_
  refine am_e_iload_n n99_0 rfl ?_
  refine am_e_ifF n99_1 (am_c_eqF (by decide)) ?_
  refine am_e_iconst (w := 1) n99_2 rfl ?_
  refine am_e_goto c99_3 t99_3 ?_
  refine am_e_istore (ls' := [(4, .int 1), (0, .ref 164), (1, .int 1), (2, .int 1), (3, .int 0)]) n99_5 rfl rfl ?_
  refine am_e_aload_n n99_6 rfl ?_
  refine am_e_iload_n n99_7 rfl ?_
  refine am_e_iload n99_8 rfl ?_
  refine am_e_callV (L := [(0, .ref 164), (1, .int 1), (2, .int 1)]) n99_9 rfl rfl rfl rfl rfl rfl rfl rfl ?_
  refine am_e_aload_n n93_0 rfl ?_
  refine am_e_getf (v := .int 0) n93_1 rfl (hG.2.1) ?_
  refine am_e_ifT n93_2 (am_c_eqT (by decide)) t93_2 ?_
  refine am_e_aload_n n93_5 rfl ?_
  refine am_e_iload_n n93_6 rfl ?_
  refine am_e_iload_n n93_7 rfl ?_
  refine am_e_iconst (w := 0) n93_8 rfl ?_
  refine am_e_iconst (w := 0) n93_9 rfl ?_
  refine am_e_callV (L := [(0, .ref 164), (1, .int 1), (2, .int 1), (3, .int 0), (4, .int 0)]) n93_10 rfl rfl rfl rfl rfl rfl rfl rfl ?_
  refine am_e_aload_n n94_0 rfl ?_
  refine am_e_getf (v := .ref 186) n94_1 rfl (hG.2.2.1) ?_
  refine am_e_iconst (w := 0) n94_2 rfl ?_
  refine am_e_aload_n n94_3 rfl ?_
  refine am_e_getf (v := .ref 188) n94_4 rfl (hG.1) ?_
  refine am_e_iload_n n94_5 rfl ?_
  refine am_e_iaload (v := 0) (q := 1) n94_6 rfl (by decide) (by decide) e0 ?_
  refine am_e_i2l (w := 0) n94_7 (by decide) ?_
  refine am_e_lastore (q := 0) n94_8 rfl (by decide) (by decide) ?_
  refine am_e_aload_n n94_9 rfl ?_
  refine am_e_getf (v := .ref 186) n94_10 rfl (hG.2.2.1) ?_
  refine am_e_iconst (w := 1) n94_11 rfl ?_
  refine am_e_aload_n n94_12 rfl ?_
  refine am_e_getf (v := .ref 168) n94_13 rfl (hG.2.2.2.1) ?_
  refine am_e_iconst (w := 0) n94_14 rfl ?_
  refine am_e_iaload (v := 500) (q := 0) n94_15 rfl (by decide) (by decide) (hG.2.2.2.2.1) ?_
  refine am_e_aload_n n94_16 rfl ?_
  refine am_e_getf (v := .ref 188) n94_17 rfl (hG.1) ?_
  refine am_e_iload_n n94_18 rfl ?_
  refine am_e_iaload (v := 0) (q := 1) n94_19 rfl (by decide) (by decide) e0 ?_
  refine am_e_isub (w := 500) n94_20 (by decide) ?_
  refine am_e_i2l (w := 500) n94_21 (by decide) ?_
  refine am_e_lastore (q := 1) n94_22 rfl (by decide) (by decide) ?_
  refine am_e_aload_n n94_23 rfl ?_
  refine am_e_getf (v := .ref 186) n94_24 rfl (hG.2.2.1) ?_
  refine am_e_iconst (w := 2) n94_25 rfl ?_
  refine am_e_iload_n n94_26 rfl ?_
  refine am_e_i2l (w := 1) n94_27 (by decide) ?_
  refine am_e_lastore (q := 2) n94_28 rfl (by decide) (by decide) ?_
  refine am_e_aload_n n94_29 rfl ?_
  refine am_e_getf (v := .ref 186) n94_30 rfl (hG.2.2.1) ?_
  refine am_e_iconst (w := 3) n94_31 rfl ?_
  refine am_e_iload_n n94_32 rfl ?_
  refine am_e_i2l (w := 0) n94_33 (by decide) ?_
  refine am_e_lastore (q := 3) n94_34 rfl (by decide) (by decide) ?_
  refine am_e_aload_n n94_35 rfl ?_
  refine am_e_getf (v := .ref 186) n94_36 rfl (hG.2.2.1) ?_
  refine am_e_iconst (w := 4) n94_37 rfl ?_
  refine am_e_aload_n n94_38 rfl ?_
  refine am_e_getf (v := .ref 189) n94_39 rfl (hG.2.2.2.2.2.1) ?_
  refine am_e_iload_n n94_40 rfl ?_
  refine am_e_iaload (v := (nI s)) (q := 1) n94_41 rfl (by decide) (by decide) e1 ?_
  refine am_e_i2l (w := ((nI s).toInt64)) n94_42 rfl ?_
  refine am_e_lastore (q := 4) n94_43 rfl (by decide) (by decide) ?_
  refine am_e_aload_n n94_44 rfl ?_
  refine am_e_getf (v := .ref 186) n94_45 rfl (hG.2.2.1) ?_
  refine am_e_iconst (w := 5) n94_46 rfl ?_
  refine am_e_iload n94_47 rfl ?_
  refine am_e_i2l (w := 0) n94_48 (by decide) ?_
  refine am_e_lastore (q := 5) n94_49 rfl (by decide) (by decide) ?_
  refine am_e_vret c94_50 rfl rfl ?_
  refine am_e_aload_n n93_11 rfl ?_
  refine am_e_iconst (w := 2) n93_12 rfl ?_
  refine am_e_iconst (w := 0) n93_13 rfl ?_
  refine am_e_bipush (w := 99) n93_14 (by decide) ?_
  refine am_e_callV (L := [(0, .ref 164), (1, .int 2), (2, .int 0), (3, .int 99)]) n93_15 rfl rfl rfl rfl rfl rfl rfl rfl ?_
  refine am_e_aload_n n95_0 rfl ?_
  refine am_e_getf (v := .ref 178) n95_1 rfl (hG.2.2.2.2.2.2.1) ?_
  refine am_e_iload_n n95_2 rfl ?_
  refine am_e_baload (v := 0) (q := 2) n95_3 rfl (by decide) (by decide) (hG.2.2.2.2.2.2.2.1) ?_
  refine am_e_ifF n95_4 (am_c_neF (by decide)) ?_
  refine am_e_iload_n n95_5 rfl ?_
  refine am_e_iret c95_6 rfl rfl rfl ?_
  refine am_e_iret c93_16 rfl rfl rfl ?_
  refine am_e_istore (ls' := [(5, .int 0), (4, .int 1), (0, .ref 164), (1, .int 1), (2, .int 1), (3, .int 0)]) n99_10 rfl rfl ?_
  refine am_e_aload_n n99_11 rfl ?_
  refine am_e_iload_n n99_12 rfl ?_
  refine am_e_iload n99_13 rfl ?_
  refine am_e_iload n99_14 rfl ?_
  refine am_e_iconst (w := 0) n99_15 rfl ?_
  refine am_e_callV (L := [(0, .ref 164), (1, .int 1), (2, .int 1), (3, .int 0), (4, .int 0)]) n99_16 rfl rfl rfl rfl rfl rfl rfl rfl ?_
  refine am_e_aload_n n94_0 rfl ?_
  refine am_e_getf (v := .ref 186) n94_1 rfl (hG.2.2.1) ?_
  refine am_e_iconst (w := 0) n94_2 rfl ?_
  refine am_e_aload_n n94_3 rfl ?_
  refine am_e_getf (v := .ref 188) n94_4 rfl (hG.1) ?_
  refine am_e_iload_n n94_5 rfl ?_
  refine am_e_iaload (v := 0) (q := 1) n94_6 rfl (by decide) (by decide) e0 ?_
  refine am_e_i2l (w := 0) n94_7 (by decide) ?_
  refine am_e_lastore (q := 0) n94_8 rfl (by decide) (by decide) ?_
  refine am_e_aload_n n94_9 rfl ?_
  refine am_e_getf (v := .ref 186) n94_10 rfl (hG.2.2.1) ?_
  refine am_e_iconst (w := 1) n94_11 rfl ?_
  refine am_e_aload_n n94_12 rfl ?_
  refine am_e_getf (v := .ref 168) n94_13 rfl (hG.2.2.2.1) ?_
  refine am_e_iconst (w := 0) n94_14 rfl ?_
  refine am_e_iaload (v := 500) (q := 0) n94_15 rfl (by decide) (by decide) (hG.2.2.2.2.1) ?_
  refine am_e_aload_n n94_16 rfl ?_
  refine am_e_getf (v := .ref 188) n94_17 rfl (hG.1) ?_
  refine am_e_iload_n n94_18 rfl ?_
  refine am_e_iaload (v := 0) (q := 1) n94_19 rfl (by decide) (by decide) e0 ?_
  refine am_e_isub (w := 500) n94_20 (by decide) ?_
  refine am_e_i2l (w := 500) n94_21 (by decide) ?_
  refine am_e_lastore (q := 1) n94_22 rfl (by decide) (by decide) ?_
  refine am_e_aload_n n94_23 rfl ?_
  refine am_e_getf (v := .ref 186) n94_24 rfl (hG.2.2.1) ?_
  refine am_e_iconst (w := 2) n94_25 rfl ?_
  refine am_e_iload_n n94_26 rfl ?_
  refine am_e_i2l (w := 1) n94_27 (by decide) ?_
  refine am_e_lastore (q := 2) n94_28 rfl (by decide) (by decide) ?_
  refine am_e_aload_n n94_29 rfl ?_
  refine am_e_getf (v := .ref 186) n94_30 rfl (hG.2.2.1) ?_
  refine am_e_iconst (w := 3) n94_31 rfl ?_
  refine am_e_iload_n n94_32 rfl ?_
  refine am_e_i2l (w := 0) n94_33 (by decide) ?_
  refine am_e_lastore (q := 3) n94_34 rfl (by decide) (by decide) ?_
  refine am_e_aload_n n94_35 rfl ?_
  refine am_e_getf (v := .ref 186) n94_36 rfl (hG.2.2.1) ?_
  refine am_e_iconst (w := 4) n94_37 rfl ?_
  refine am_e_aload_n n94_38 rfl ?_
  refine am_e_getf (v := .ref 189) n94_39 rfl (hG.2.2.2.2.2.1) ?_
  refine am_e_iload_n n94_40 rfl ?_
  refine am_e_iaload (v := (nI s)) (q := 1) n94_41 rfl (by decide) (by decide) e1 ?_
  refine am_e_i2l (w := ((nI s).toInt64)) n94_42 rfl ?_
  refine am_e_lastore (q := 4) n94_43 rfl (by decide) (by decide) ?_
  refine am_e_aload_n n94_44 rfl ?_
  refine am_e_getf (v := .ref 186) n94_45 rfl (hG.2.2.1) ?_
  refine am_e_iconst (w := 5) n94_46 rfl ?_
  refine am_e_iload n94_47 rfl ?_
  refine am_e_i2l (w := 0) n94_48 (by decide) ?_
  refine am_e_lastore (q := 5) n94_49 rfl (by decide) (by decide) ?_
  refine am_e_vret c94_50 rfl rfl ?_
  refine am_e_aload_n n99_17 rfl ?_
  refine am_e_getf (v := .ref 188) n99_18 rfl (hG.1) ?_
  refine am_e_iload_n n99_19 rfl ?_
  refine am_e_iaload (v := 0) (q := 1) n99_20 rfl (by decide) (by decide) e0 ?_
  refine am_e_aload_n n99_21 rfl ?_
  refine am_e_iconst (w := 0) n99_22 rfl ?_
  refine am_e_aload_n n99_23 rfl ?_
  refine am_e_getf (v := .ref 188) n99_24 rfl (hG.1) ?_
  refine am_e_iload_n n99_25 rfl ?_
  refine am_e_iaload (v := 0) (q := 1) n99_26 rfl (by decide) (by decide) e0 ?_
  refine am_e_bipush (w := 100) n99_27 (by decide) ?_
  refine am_e_idiv (w := 0) n99_28 (by decide) (by decide) ?_
  refine am_e_bipush (w := 20) n99_29 (by decide) ?_
  refine am_e_iload n99_30 rfl ?_
  refine am_e_imul (w := 20) n99_31 (by decide) ?_
  refine am_e_iadd (w := 20) n99_32 (by decide) ?_
  refine am_e_sipush (w := 999) n99_33 (by decide) ?_
  refine am_e_callV (L := [(0, .ref 164), (1, .int 0), (2, .int 20), (3, .int 999)]) n99_34 rfl rfl rfl rfl rfl rfl rfl rfl ?_
  refine am_e_aload_n n95_0 rfl ?_
  refine am_e_getf (v := .ref 178) n95_1 rfl (hG.2.2.2.2.2.2.1) ?_
  refine am_e_iload_n n95_2 rfl ?_
  refine am_e_baload (v := 0) (q := 0) n95_3 rfl (by decide) (by decide) (hG.2.2.2.2.2.2.2.2.1) ?_
  refine am_e_ifF n95_4 (am_c_neF (by decide)) ?_
  refine am_e_iload_n n95_5 rfl ?_
  refine am_e_iret c95_6 rfl rfl rfl ?_
  refine am_e_isub (w := (-20)) n99_35 (by decide) ?_
  refine am_e_aload_n n99_36 rfl ?_
  refine am_e_callV (L := [(0, .ref 164)]) n99_37 rfl rfl rfl rfl rfl rfl rfl rfl ?_
  refine am_e_aload_n n100_0 rfl ?_
  refine am_e_getf (v := .int (-1)) n100_1 rfl (hG.2.2.2.2.2.2.2.2.2.1) ?_
  refine am_e_ifT n100_2 (am_c_ltT (by decide)) t100_2 ?_
  refine am_e_aload_n n100_6 rfl ?_
  refine am_e_getf (v := .int (-1)) n100_7 rfl (hG.2.2.2.2.2.2.2.2.2.2.1) ?_
  refine am_e_istore_n (ls' := [(1, .int (-1)), (0, .ref 164)]) n100_8 rfl rfl ?_
  refine am_e_aload_n n100_9 rfl ?_
  refine am_e_getf (v := .int 0) n100_10 rfl (hG.2.2.2.2.2.2.2.2.2.2.2.1) ?_
  refine am_e_ifF n100_11 (am_c_neF (by decide)) ?_
  refine am_e_iload_n n100_12 rfl ?_
  refine am_e_ifT n100_13 (am_c_ltT (by decide)) t100_13 ?_
  refine am_e_iconst (w := 0) n100_23 rfl ?_
  refine am_e_goto c100_24 t100_24 ?_
  refine am_e_iret c100_29 rfl rfl rfl ?_
  refine am_e_isub (w := (-20)) n99_38 (by decide) ?_
  refine am_e_istore (ls' := [(6, .int (-20)), (5, .int 0), (4, .int 1), (0, .ref 164), (1, .int 1), (2, .int 1), (3, .int 0)]) n99_39 rfl rfl ?_
  refine am_e_iload n99_40 rfl ?_
  refine am_e_ifF n99_41 (am_c_geF (by decide)) ?_
  refine am_e_iconst (w := 0) n99_42 rfl ?_
  refine am_e_goto c99_43 t99_43 ?_
  refine am_e_istore (ls' := [(6, .int 0), (5, .int 0), (4, .int 1), (0, .ref 164), (1, .int 1), (2, .int 1), (3, .int 0)]) n99_45 rfl rfl ?_
  refine am_e_iload_n n99_46 rfl ?_
  refine am_e_ifF n99_47 (am_c_neF (by decide)) ?_
  refine am_e_iload n99_48 rfl ?_
  refine am_e_iret c99_49 rfl rfl rfl ?_
  refine am_e_iastore (q := 1) n98_8 rfl (by decide) (by decide) ?_
  refine am_e_aload_n n98_9 rfl ?_
  refine am_e_getf (v := .ref 189) n98_10 rfl (hG.2.2.2.2.2.1) ?_
  refine am_e_iload_n n98_11 rfl ?_
  refine am_e_dup2 n98_12 rfl ?_
  refine am_e_iaload (v := (nI s)) (q := 1) n98_13 rfl (by decide) (by decide) e1 ?_
  refine am_e_iconst (w := 1) n98_14 rfl ?_
  refine am_e_iadd (w := (nI (s + 1))) n98_15 (nI_1 _) ?_
  refine am_e_iastore (q := 1) n98_16 rfl (by decide) (by decide) ?_
  refine am_e_vret c98_17 rfl rfl ?_
  exact K _ (by repeat (first | exact am_Fr_refl | refine am_Fr_up rfl ?_)) rfl rfl
def am_aS10kM : List (Nat × Nat) := [(186, 0), (186, 1), (186, 2), (186, 3), (186, 4), (186, 5), (188, 1), (189, 1)]
def am_aS10kL : List (Nat × Nat × Value) := [(164, 50, .ref 188), (164, 61, .int 0), (164, 47, .ref 186), (164, 23, .ref 168), (168, 0, .int 500), (164, 51, .ref 189), (164, 33, .ref 178), (178, 2, .int 0), (178, 0, .int 0), (164, 62, .int (-1)), (164, 58, .int (-1)), (164, 60, .int 1)]
theorem am_aS10k {h : am_H} {Q : Option Value → List am_k → am_H → Prop} {f s : Nat} (hG : am_Ts h am_aS10kL) (hf : f ≤ 500) (e0 : h 188 1 = .int (nI f)) (e1 : h 189 1 = .int (nI s))
    (K : ∀ h', am_Fr am_aS10kM h h' → h' 188 1 = .int (nI (am_nf f)) → h' 189 1 = .int (nI (s + 1)) → Q none am_ks0 h') : am_Ek false am_G0 am_m98 0 [(0, .ref 164), (1, .int 1), (2, .int 0), (3, .int 0)] [] am_ks0 h 0 0 Q := by
  refine am_e_aload_n n98_0 rfl ?_
  refine am_e_getf (v := .ref 188) n98_1 rfl (hG.1) ?_
  refine am_e_iload_n n98_2 rfl ?_
  refine am_e_aload_n n98_3 rfl ?_
  refine am_e_iload_n n98_4 rfl ?_
  refine am_e_iload_n n98_5 rfl ?_
  refine am_e_iload_n n98_6 rfl ?_
  refine am_e_callV (L := [(0, .ref 164), (1, .int 1), (2, .int 0), (3, .int 0)]) n98_7 rfl rfl rfl rfl rfl rfl rfl rfl ?_
  refine am_e_iload_n n99_0 rfl ?_
  refine am_e_ifT n99_1 (am_c_eqT (by decide)) t99_1 ?_
  refine am_e_iconst (w := 0) n99_4 rfl ?_
  refine am_e_istore (ls' := [(4, .int 0), (0, .ref 164), (1, .int 1), (2, .int 0), (3, .int 0)]) n99_5 rfl rfl ?_
  refine am_e_aload_n n99_6 rfl ?_
  refine am_e_iload_n n99_7 rfl ?_
  refine am_e_iload n99_8 rfl ?_
  refine am_e_callV (L := [(0, .ref 164), (1, .int 1), (2, .int 0)]) n99_9 rfl rfl rfl rfl rfl rfl rfl rfl ?_
  refine am_e_aload_n n93_0 rfl ?_
  refine am_e_getf (v := .int 0) n93_1 rfl (hG.2.1) ?_
  refine am_e_ifT n93_2 (am_c_eqT (by decide)) t93_2 ?_
  refine am_e_aload_n n93_5 rfl ?_
  refine am_e_iload_n n93_6 rfl ?_
  refine am_e_iload_n n93_7 rfl ?_
  refine am_e_iconst (w := 0) n93_8 rfl ?_
  refine am_e_iconst (w := 0) n93_9 rfl ?_
  refine am_e_callV (L := [(0, .ref 164), (1, .int 1), (2, .int 0), (3, .int 0), (4, .int 0)]) n93_10 rfl rfl rfl rfl rfl rfl rfl rfl ?_
  refine am_e_aload_n n94_0 rfl ?_
  refine am_e_getf (v := .ref 186) n94_1 rfl (hG.2.2.1) ?_
  refine am_e_iconst (w := 0) n94_2 rfl ?_
  refine am_e_aload_n n94_3 rfl ?_
  refine am_e_getf (v := .ref 188) n94_4 rfl (hG.1) ?_
  refine am_e_iload_n n94_5 rfl ?_
  refine am_e_iaload (v := (nI f)) (q := 1) n94_6 rfl (by decide) (by decide) e0 ?_
  refine am_e_i2l (w := ((nI f).toInt64)) n94_7 rfl ?_
  refine am_e_lastore (q := 0) n94_8 rfl (by decide) (by decide) ?_
  refine am_e_aload_n n94_9 rfl ?_
  refine am_e_getf (v := .ref 186) n94_10 rfl (hG.2.2.1) ?_
  refine am_e_iconst (w := 1) n94_11 rfl ?_
  refine am_e_aload_n n94_12 rfl ?_
  refine am_e_getf (v := .ref 168) n94_13 rfl (hG.2.2.2.1) ?_
  refine am_e_iconst (w := 0) n94_14 rfl ?_
  refine am_e_iaload (v := 500) (q := 0) n94_15 rfl (by decide) (by decide) (hG.2.2.2.2.1) ?_
  refine am_e_aload_n n94_16 rfl ?_
  refine am_e_getf (v := .ref 188) n94_17 rfl (hG.1) ?_
  refine am_e_iload_n n94_18 rfl ?_
  refine am_e_iaload (v := (nI f)) (q := 1) n94_19 rfl (by decide) (by decide) e0 ?_
  refine am_e_isub (w := (500 - (nI f))) n94_20 rfl ?_
  refine am_e_i2l (w := ((500 - (nI f)).toInt64)) n94_21 rfl ?_
  refine am_e_lastore (q := 1) n94_22 rfl (by decide) (by decide) ?_
  refine am_e_aload_n n94_23 rfl ?_
  refine am_e_getf (v := .ref 186) n94_24 rfl (hG.2.2.1) ?_
  refine am_e_iconst (w := 2) n94_25 rfl ?_
  refine am_e_iload_n n94_26 rfl ?_
  refine am_e_i2l (w := 0) n94_27 (by decide) ?_
  refine am_e_lastore (q := 2) n94_28 rfl (by decide) (by decide) ?_
  refine am_e_aload_n n94_29 rfl ?_
  refine am_e_getf (v := .ref 186) n94_30 rfl (hG.2.2.1) ?_
  refine am_e_iconst (w := 3) n94_31 rfl ?_
  refine am_e_iload_n n94_32 rfl ?_
  refine am_e_i2l (w := 0) n94_33 (by decide) ?_
  refine am_e_lastore (q := 3) n94_34 rfl (by decide) (by decide) ?_
  refine am_e_aload_n n94_35 rfl ?_
  refine am_e_getf (v := .ref 186) n94_36 rfl (hG.2.2.1) ?_
  refine am_e_iconst (w := 4) n94_37 rfl ?_
  refine am_e_aload_n n94_38 rfl ?_
  refine am_e_getf (v := .ref 189) n94_39 rfl (hG.2.2.2.2.2.1) ?_
  refine am_e_iload_n n94_40 rfl ?_
  refine am_e_iaload (v := (nI s)) (q := 1) n94_41 rfl (by decide) (by decide) e1 ?_
  refine am_e_i2l (w := ((nI s).toInt64)) n94_42 rfl ?_
  refine am_e_lastore (q := 4) n94_43 rfl (by decide) (by decide) ?_
  refine am_e_aload_n n94_44 rfl ?_
  refine am_e_getf (v := .ref 186) n94_45 rfl (hG.2.2.1) ?_
  refine am_e_iconst (w := 5) n94_46 rfl ?_
  refine am_e_iload n94_47 rfl ?_
  refine am_e_i2l (w := 0) n94_48 (by decide) ?_
  refine am_e_lastore (q := 5) n94_49 rfl (by decide) (by decide) ?_
  refine am_e_vret c94_50 rfl rfl ?_
  refine am_e_aload_n n93_11 rfl ?_
  refine am_e_iconst (w := 2) n93_12 rfl ?_
  refine am_e_iconst (w := 0) n93_13 rfl ?_
  refine am_e_bipush (w := 99) n93_14 (by decide) ?_
  refine am_e_callV (L := [(0, .ref 164), (1, .int 2), (2, .int 0), (3, .int 99)]) n93_15 rfl rfl rfl rfl rfl rfl rfl rfl ?_
  refine am_e_aload_n n95_0 rfl ?_
  refine am_e_getf (v := .ref 178) n95_1 rfl (hG.2.2.2.2.2.2.1) ?_
  refine am_e_iload_n n95_2 rfl ?_
  refine am_e_baload (v := 0) (q := 2) n95_3 rfl (by decide) (by decide) (hG.2.2.2.2.2.2.2.1) ?_
  refine am_e_ifF n95_4 (am_c_neF (by decide)) ?_
  refine am_e_iload_n n95_5 rfl ?_
  refine am_e_iret c95_6 rfl rfl rfl ?_
  refine am_e_iret c93_16 rfl rfl rfl ?_
  refine am_e_istore (ls' := [(5, .int 0), (4, .int 0), (0, .ref 164), (1, .int 1), (2, .int 0), (3, .int 0)]) n99_10 rfl rfl ?_
  refine am_e_aload_n n99_11 rfl ?_
  refine am_e_iload_n n99_12 rfl ?_
  refine am_e_iload n99_13 rfl ?_
  refine am_e_iload n99_14 rfl ?_
  refine am_e_iconst (w := 0) n99_15 rfl ?_
  refine am_e_callV (L := [(0, .ref 164), (1, .int 1), (2, .int 0), (3, .int 0), (4, .int 0)]) n99_16 rfl rfl rfl rfl rfl rfl rfl rfl ?_
  refine am_e_aload_n n94_0 rfl ?_
  refine am_e_getf (v := .ref 186) n94_1 rfl (hG.2.2.1) ?_
  refine am_e_iconst (w := 0) n94_2 rfl ?_
  refine am_e_aload_n n94_3 rfl ?_
  refine am_e_getf (v := .ref 188) n94_4 rfl (hG.1) ?_
  refine am_e_iload_n n94_5 rfl ?_
  refine am_e_iaload (v := (nI f)) (q := 1) n94_6 rfl (by decide) (by decide) e0 ?_
  refine am_e_i2l (w := ((nI f).toInt64)) n94_7 rfl ?_
  refine am_e_lastore (q := 0) n94_8 rfl (by decide) (by decide) ?_
  refine am_e_aload_n n94_9 rfl ?_
  refine am_e_getf (v := .ref 186) n94_10 rfl (hG.2.2.1) ?_
  refine am_e_iconst (w := 1) n94_11 rfl ?_
  refine am_e_aload_n n94_12 rfl ?_
  refine am_e_getf (v := .ref 168) n94_13 rfl (hG.2.2.2.1) ?_
  refine am_e_iconst (w := 0) n94_14 rfl ?_
  refine am_e_iaload (v := 500) (q := 0) n94_15 rfl (by decide) (by decide) (hG.2.2.2.2.1) ?_
  refine am_e_aload_n n94_16 rfl ?_
  refine am_e_getf (v := .ref 188) n94_17 rfl (hG.1) ?_
  refine am_e_iload_n n94_18 rfl ?_
  refine am_e_iaload (v := (nI f)) (q := 1) n94_19 rfl (by decide) (by decide) e0 ?_
  refine am_e_isub (w := (500 - (nI f))) n94_20 rfl ?_
  refine am_e_i2l (w := ((500 - (nI f)).toInt64)) n94_21 rfl ?_
  refine am_e_lastore (q := 1) n94_22 rfl (by decide) (by decide) ?_
  refine am_e_aload_n n94_23 rfl ?_
  refine am_e_getf (v := .ref 186) n94_24 rfl (hG.2.2.1) ?_
  refine am_e_iconst (w := 2) n94_25 rfl ?_
  refine am_e_iload_n n94_26 rfl ?_
  refine am_e_i2l (w := 0) n94_27 (by decide) ?_
  refine am_e_lastore (q := 2) n94_28 rfl (by decide) (by decide) ?_
  refine am_e_aload_n n94_29 rfl ?_
  refine am_e_getf (v := .ref 186) n94_30 rfl (hG.2.2.1) ?_
  refine am_e_iconst (w := 3) n94_31 rfl ?_
  refine am_e_iload_n n94_32 rfl ?_
  refine am_e_i2l (w := 0) n94_33 (by decide) ?_
  refine am_e_lastore (q := 3) n94_34 rfl (by decide) (by decide) ?_
  refine am_e_aload_n n94_35 rfl ?_
  refine am_e_getf (v := .ref 186) n94_36 rfl (hG.2.2.1) ?_
  refine am_e_iconst (w := 4) n94_37 rfl ?_
  refine am_e_aload_n n94_38 rfl ?_
  refine am_e_getf (v := .ref 189) n94_39 rfl (hG.2.2.2.2.2.1) ?_
  refine am_e_iload_n n94_40 rfl ?_
  refine am_e_iaload (v := (nI s)) (q := 1) n94_41 rfl (by decide) (by decide) e1 ?_
  refine am_e_i2l (w := ((nI s).toInt64)) n94_42 rfl ?_
  refine am_e_lastore (q := 4) n94_43 rfl (by decide) (by decide) ?_
  refine am_e_aload_n n94_44 rfl ?_
  refine am_e_getf (v := .ref 186) n94_45 rfl (hG.2.2.1) ?_
  refine am_e_iconst (w := 5) n94_46 rfl ?_
  refine am_e_iload n94_47 rfl ?_
  refine am_e_i2l (w := 0) n94_48 (by decide) ?_
  refine am_e_lastore (q := 5) n94_49 rfl (by decide) (by decide) ?_
  refine am_e_vret c94_50 rfl rfl ?_
  refine am_e_aload_n n99_17 rfl ?_
  refine am_e_getf (v := .ref 188) n99_18 rfl (hG.1) ?_
  refine am_e_iload_n n99_19 rfl ?_
  refine am_e_iaload (v := (nI f)) (q := 1) n99_20 rfl (by decide) (by decide) e0 ?_
  refine am_e_aload_n n99_21 rfl ?_
  refine am_e_iconst (w := 0) n99_22 rfl ?_
  refine am_e_aload_n n99_23 rfl ?_
  refine am_e_getf (v := .ref 188) n99_24 rfl (hG.1) ?_
  refine am_e_iload_n n99_25 rfl ?_
  refine am_e_iaload (v := (nI f)) (q := 1) n99_26 rfl (by decide) (by decide) e0 ?_
  refine am_e_bipush (w := 100) n99_27 (by decide) ?_
  refine am_e_idiv (w := ((nI f) / 100)) n99_28 (by decide) rfl ?_
  refine am_e_bipush (w := 20) n99_29 (by decide) ?_
  refine am_e_iload n99_30 rfl ?_
  refine am_e_imul (w := 0) n99_31 (by decide) ?_
  refine am_e_iadd (w := (((nI f) / 100) + 0)) n99_32 rfl ?_
  refine am_e_sipush (w := 999) n99_33 (by decide) ?_
  refine am_e_callV (L := [(0, .ref 164), (1, .int 0), (2, .int (((nI f) / 100) + 0)), (3, .int 999)]) n99_34 rfl rfl rfl rfl rfl rfl rfl rfl ?_
  refine am_e_aload_n n95_0 rfl ?_
  refine am_e_getf (v := .ref 178) n95_1 rfl (hG.2.2.2.2.2.2.1) ?_
  refine am_e_iload_n n95_2 rfl ?_
  refine am_e_baload (v := 0) (q := 0) n95_3 rfl (by decide) (by decide) (hG.2.2.2.2.2.2.2.2.1) ?_
  refine am_e_ifF n95_4 (am_c_neF (by decide)) ?_
  refine am_e_iload_n n95_5 rfl ?_
  refine am_e_iret c95_6 rfl rfl rfl ?_
  refine am_e_isub (w := ((nI f) - (((nI f) / 100) + 0))) n99_35 rfl ?_
  refine am_e_aload_n n99_36 rfl ?_
  refine am_e_callV (L := [(0, .ref 164)]) n99_37 rfl rfl rfl rfl rfl rfl rfl rfl ?_
  refine am_e_aload_n n100_0 rfl ?_
  refine am_e_getf (v := .int (-1)) n100_1 rfl (hG.2.2.2.2.2.2.2.2.2.1) ?_
  refine am_e_ifT n100_2 (am_c_ltT (by decide)) t100_2 ?_
  refine am_e_aload_n n100_6 rfl ?_
  refine am_e_getf (v := .int (-1)) n100_7 rfl (hG.2.2.2.2.2.2.2.2.2.2.1) ?_
  refine am_e_istore_n (ls' := [(1, .int (-1)), (0, .ref 164)]) n100_8 rfl rfl ?_
  refine am_e_aload_n n100_9 rfl ?_
  refine am_e_getf (v := .int 1) n100_10 rfl (hG.2.2.2.2.2.2.2.2.2.2.2.1) ?_
  refine am_e_ifT n100_11 (am_c_neT (by decide)) t100_11 ?_
  refine am_e_iconst (w := 0) n100_23 rfl ?_
  refine am_e_goto c100_24 t100_24 ?_
  refine am_e_iret c100_29 rfl rfl rfl ?_
  refine am_e_isub (w := (nI (am_nf f))) n99_38 (am_nf_m hf) ?_
  refine am_e_istore (ls' := [(6, .int (nI (am_nf f))), (5, .int 0), (4, .int 0), (0, .ref 164), (1, .int 1), (2, .int 0), (3, .int 0)]) n99_39 rfl rfl ?_
  refine am_e_iload n99_40 rfl ?_
  refine am_e_ifT n99_41 (am_c_geT (nI_pos (am_nf_lt hf))) t99_41 ?_
  refine am_e_iload n99_44 rfl ?_
  refine am_e_istore (ls' := [(6, .int (nI (am_nf f))), (5, .int 0), (4, .int 0), (0, .ref 164), (1, .int 1), (2, .int 0), (3, .int 0)]) n99_45 rfl rfl ?_
  refine am_e_iload_n n99_46 rfl ?_
  refine am_e_ifF n99_47 (am_c_neF (by decide)) ?_
  refine am_e_iload n99_48 rfl ?_
  refine am_e_iret c99_49 rfl rfl rfl ?_
  refine am_e_iastore (q := 1) n98_8 rfl (by decide) (by decide) ?_
  refine am_e_aload_n n98_9 rfl ?_
  refine am_e_getf (v := .ref 189) n98_10 rfl (hG.2.2.2.2.2.1) ?_
  refine am_e_iload_n n98_11 rfl ?_
  refine am_e_dup2 n98_12 rfl ?_
  refine am_e_iaload (v := (nI s)) (q := 1) n98_13 rfl (by decide) (by decide) e1 ?_
  refine am_e_iconst (w := 1) n98_14 rfl ?_
  refine am_e_iadd (w := (nI (s + 1))) n98_15 (nI_1 _) ?_
  refine am_e_iastore (q := 1) n98_16 rfl (by decide) (by decide) ?_
  refine am_e_vret c98_17 rfl rfl ?_
  exact K _ (by repeat (first | exact am_Fr_refl | refine am_Fr_up rfl ?_)) rfl rfl
def am_aS10lM : List (Nat × Nat) := [(186, 0), (186, 1), (186, 2), (186, 3), (186, 4), (186, 5), (188, 1), (189, 1)]
def am_aS10lL : List (Nat × Nat × Value) := [(164, 50, .ref 188), (164, 61, .int 1), (164, 47, .ref 186), (164, 23, .ref 168), (168, 0, .int 500), (164, 51, .ref 189), (164, 33, .ref 178), (178, 0, .int 0), (164, 62, .int (-1)), (164, 58, .int (-1)), (164, 60, .int 0)]
theorem am_aS10l {h : am_H} {Q : Option Value → List am_k → am_H → Prop} {f s : Nat} (hG : am_Ts h am_aS10lL) (hf : f ≤ 500) (e0 : h 188 1 = .int (nI f)) (e1 : h 189 1 = .int (nI s))
    (K : ∀ h', am_Fr am_aS10lM h h' → h' 188 1 = .int (nI (am_nf f)) → h' 189 1 = .int (nI (s + 1)) → Q none am_ks0 h') : am_Ek false am_G0 am_m98 0 [(0, .ref 164), (1, .int 1), (2, .int 0), (3, .int 0)] [] am_ks0 h 0 0 Q := by
  refine am_e_aload_n n98_0 rfl ?_
  refine am_e_getf (v := .ref 188) n98_1 rfl (hG.1) ?_
  refine am_e_iload_n n98_2 rfl ?_
  refine am_e_aload_n n98_3 rfl ?_
  refine am_e_iload_n n98_4 rfl ?_
  refine am_e_iload_n n98_5 rfl ?_
  refine am_e_iload_n n98_6 rfl ?_
  refine am_e_callV (L := [(0, .ref 164), (1, .int 1), (2, .int 0), (3, .int 0)]) n98_7 rfl rfl rfl rfl rfl rfl rfl rfl ?_
  refine am_e_iload_n n99_0 rfl ?_
  refine am_e_ifT n99_1 (am_c_eqT (by decide)) t99_1 ?_
  refine am_e_iconst (w := 0) n99_4 rfl ?_
  refine am_e_istore (ls' := [(4, .int 0), (0, .ref 164), (1, .int 1), (2, .int 0), (3, .int 0)]) n99_5 rfl rfl ?_
  refine am_e_aload_n n99_6 rfl ?_
  refine am_e_iload_n n99_7 rfl ?_
  refine am_e_iload n99_8 rfl ?_
  refine am_e_callV (L := [(0, .ref 164), (1, .int 1), (2, .int 0)]) n99_9 rfl rfl rfl rfl rfl rfl rfl rfl ?_
  refine am_e_aload_n n93_0 rfl ?_
  refine am_e_getf (v := .int 1) n93_1 rfl (hG.2.1) ?_
  refine am_e_ifF n93_2 (am_c_eqF (by decide)) ?_
  refine am_e_iconst (w := 0) n93_3 rfl ?_
  refine am_e_iret c93_4 rfl rfl rfl ?_
  refine am_e_istore (ls' := [(5, .int 0), (4, .int 0), (0, .ref 164), (1, .int 1), (2, .int 0), (3, .int 0)]) n99_10 rfl rfl ?_
  refine am_e_aload_n n99_11 rfl ?_
  refine am_e_iload_n n99_12 rfl ?_
  refine am_e_iload n99_13 rfl ?_
  refine am_e_iload n99_14 rfl ?_
  refine am_e_iconst (w := 0) n99_15 rfl ?_
  refine am_e_callV (L := [(0, .ref 164), (1, .int 1), (2, .int 0), (3, .int 0), (4, .int 0)]) n99_16 rfl rfl rfl rfl rfl rfl rfl rfl ?_
  refine am_e_aload_n n94_0 rfl ?_
  refine am_e_getf (v := .ref 186) n94_1 rfl (hG.2.2.1) ?_
  refine am_e_iconst (w := 0) n94_2 rfl ?_
  refine am_e_aload_n n94_3 rfl ?_
  refine am_e_getf (v := .ref 188) n94_4 rfl (hG.1) ?_
  refine am_e_iload_n n94_5 rfl ?_
  refine am_e_iaload (v := (nI f)) (q := 1) n94_6 rfl (by decide) (by decide) e0 ?_
  refine am_e_i2l (w := ((nI f).toInt64)) n94_7 rfl ?_
  refine am_e_lastore (q := 0) n94_8 rfl (by decide) (by decide) ?_
  refine am_e_aload_n n94_9 rfl ?_
  refine am_e_getf (v := .ref 186) n94_10 rfl (hG.2.2.1) ?_
  refine am_e_iconst (w := 1) n94_11 rfl ?_
  refine am_e_aload_n n94_12 rfl ?_
  refine am_e_getf (v := .ref 168) n94_13 rfl (hG.2.2.2.1) ?_
  refine am_e_iconst (w := 0) n94_14 rfl ?_
  refine am_e_iaload (v := 500) (q := 0) n94_15 rfl (by decide) (by decide) (hG.2.2.2.2.1) ?_
  refine am_e_aload_n n94_16 rfl ?_
  refine am_e_getf (v := .ref 188) n94_17 rfl (hG.1) ?_
  refine am_e_iload_n n94_18 rfl ?_
  refine am_e_iaload (v := (nI f)) (q := 1) n94_19 rfl (by decide) (by decide) e0 ?_
  refine am_e_isub (w := (500 - (nI f))) n94_20 rfl ?_
  refine am_e_i2l (w := ((500 - (nI f)).toInt64)) n94_21 rfl ?_
  refine am_e_lastore (q := 1) n94_22 rfl (by decide) (by decide) ?_
  refine am_e_aload_n n94_23 rfl ?_
  refine am_e_getf (v := .ref 186) n94_24 rfl (hG.2.2.1) ?_
  refine am_e_iconst (w := 2) n94_25 rfl ?_
  refine am_e_iload_n n94_26 rfl ?_
  refine am_e_i2l (w := 0) n94_27 (by decide) ?_
  refine am_e_lastore (q := 2) n94_28 rfl (by decide) (by decide) ?_
  refine am_e_aload_n n94_29 rfl ?_
  refine am_e_getf (v := .ref 186) n94_30 rfl (hG.2.2.1) ?_
  refine am_e_iconst (w := 3) n94_31 rfl ?_
  refine am_e_iload_n n94_32 rfl ?_
  refine am_e_i2l (w := 0) n94_33 (by decide) ?_
  refine am_e_lastore (q := 3) n94_34 rfl (by decide) (by decide) ?_
  refine am_e_aload_n n94_35 rfl ?_
  refine am_e_getf (v := .ref 186) n94_36 rfl (hG.2.2.1) ?_
  refine am_e_iconst (w := 4) n94_37 rfl ?_
  refine am_e_aload_n n94_38 rfl ?_
  refine am_e_getf (v := .ref 189) n94_39 rfl (hG.2.2.2.2.2.1) ?_
  refine am_e_iload_n n94_40 rfl ?_
  refine am_e_iaload (v := (nI s)) (q := 1) n94_41 rfl (by decide) (by decide) e1 ?_
  refine am_e_i2l (w := ((nI s).toInt64)) n94_42 rfl ?_
  refine am_e_lastore (q := 4) n94_43 rfl (by decide) (by decide) ?_
  refine am_e_aload_n n94_44 rfl ?_
  refine am_e_getf (v := .ref 186) n94_45 rfl (hG.2.2.1) ?_
  refine am_e_iconst (w := 5) n94_46 rfl ?_
  refine am_e_iload n94_47 rfl ?_
  refine am_e_i2l (w := 0) n94_48 (by decide) ?_
  refine am_e_lastore (q := 5) n94_49 rfl (by decide) (by decide) ?_
  refine am_e_vret c94_50 rfl rfl ?_
  refine am_e_aload_n n99_17 rfl ?_
  refine am_e_getf (v := .ref 188) n99_18 rfl (hG.1) ?_
  refine am_e_iload_n n99_19 rfl ?_
  refine am_e_iaload (v := (nI f)) (q := 1) n99_20 rfl (by decide) (by decide) e0 ?_
  refine am_e_aload_n n99_21 rfl ?_
  refine am_e_iconst (w := 0) n99_22 rfl ?_
  refine am_e_aload_n n99_23 rfl ?_
  refine am_e_getf (v := .ref 188) n99_24 rfl (hG.1) ?_
  refine am_e_iload_n n99_25 rfl ?_
  refine am_e_iaload (v := (nI f)) (q := 1) n99_26 rfl (by decide) (by decide) e0 ?_
  refine am_e_bipush (w := 100) n99_27 (by decide) ?_
  refine am_e_idiv (w := ((nI f) / 100)) n99_28 (by decide) rfl ?_
  refine am_e_bipush (w := 20) n99_29 (by decide) ?_
  refine am_e_iload n99_30 rfl ?_
  refine am_e_imul (w := 0) n99_31 (by decide) ?_
  refine am_e_iadd (w := (((nI f) / 100) + 0)) n99_32 rfl ?_
  refine am_e_sipush (w := 999) n99_33 (by decide) ?_
  refine am_e_callV (L := [(0, .ref 164), (1, .int 0), (2, .int (((nI f) / 100) + 0)), (3, .int 999)]) n99_34 rfl rfl rfl rfl rfl rfl rfl rfl ?_
  refine am_e_aload_n n95_0 rfl ?_
  refine am_e_getf (v := .ref 178) n95_1 rfl (hG.2.2.2.2.2.2.1) ?_
  refine am_e_iload_n n95_2 rfl ?_
  refine am_e_baload (v := 0) (q := 0) n95_3 rfl (by decide) (by decide) (hG.2.2.2.2.2.2.2.1) ?_
  refine am_e_ifF n95_4 (am_c_neF (by decide)) ?_
  refine am_e_iload_n n95_5 rfl ?_
  refine am_e_iret c95_6 rfl rfl rfl ?_
  refine am_e_isub (w := ((nI f) - (((nI f) / 100) + 0))) n99_35 rfl ?_
  refine am_e_aload_n n99_36 rfl ?_
  refine am_e_callV (L := [(0, .ref 164)]) n99_37 rfl rfl rfl rfl rfl rfl rfl rfl ?_
  refine am_e_aload_n n100_0 rfl ?_
  refine am_e_getf (v := .int (-1)) n100_1 rfl (hG.2.2.2.2.2.2.2.2.1) ?_
  refine am_e_ifT n100_2 (am_c_ltT (by decide)) t100_2 ?_
  refine am_e_aload_n n100_6 rfl ?_
  refine am_e_getf (v := .int (-1)) n100_7 rfl (hG.2.2.2.2.2.2.2.2.2.1) ?_
  refine am_e_istore_n (ls' := [(1, .int (-1)), (0, .ref 164)]) n100_8 rfl rfl ?_
  refine am_e_aload_n n100_9 rfl ?_
  refine am_e_getf (v := .int 0) n100_10 rfl (hG.2.2.2.2.2.2.2.2.2.2.1) ?_
  refine am_e_ifF n100_11 (am_c_neF (by decide)) ?_
  refine am_e_iload_n n100_12 rfl ?_
  refine am_e_ifT n100_13 (am_c_ltT (by decide)) t100_13 ?_
  refine am_e_iconst (w := 0) n100_23 rfl ?_
  refine am_e_goto c100_24 t100_24 ?_
  refine am_e_iret c100_29 rfl rfl rfl ?_
  refine am_e_isub (w := (nI (am_nf f))) n99_38 (am_nf_m hf) ?_
  refine am_e_istore (ls' := [(6, .int (nI (am_nf f))), (5, .int 0), (4, .int 0), (0, .ref 164), (1, .int 1), (2, .int 0), (3, .int 0)]) n99_39 rfl rfl ?_
  refine am_e_iload n99_40 rfl ?_
  refine am_e_ifT n99_41 (am_c_geT (nI_pos (am_nf_lt hf))) t99_41 ?_
  refine am_e_iload n99_44 rfl ?_
  refine am_e_istore (ls' := [(6, .int (nI (am_nf f))), (5, .int 0), (4, .int 0), (0, .ref 164), (1, .int 1), (2, .int 0), (3, .int 0)]) n99_45 rfl rfl ?_
  refine am_e_iload_n n99_46 rfl ?_
  refine am_e_ifF n99_47 (am_c_neF (by decide)) ?_
  refine am_e_iload n99_48 rfl ?_
  refine am_e_iret c99_49 rfl rfl rfl ?_
  refine am_e_iastore (q := 1) n98_8 rfl (by decide) (by decide) ?_
  refine am_e_aload_n n98_9 rfl ?_
  refine am_e_getf (v := .ref 189) n98_10 rfl (hG.2.2.2.2.2.1) ?_
  refine am_e_iload_n n98_11 rfl ?_
  refine am_e_dup2 n98_12 rfl ?_
  refine am_e_iaload (v := (nI s)) (q := 1) n98_13 rfl (by decide) (by decide) e1 ?_
  refine am_e_iconst (w := 1) n98_14 rfl ?_
  refine am_e_iadd (w := (nI (s + 1))) n98_15 (nI_1 _) ?_
  refine am_e_iastore (q := 1) n98_16 rfl (by decide) (by decide) ?_
  refine am_e_vret c98_17 rfl rfl ?_
  exact K _ (by repeat (first | exact am_Fr_refl | refine am_Fr_up rfl ?_)) rfl rfl
def am_mW0M : List (Nat × Nat) := [(186, 0), (186, 1), (186, 2), (186, 3), (186, 4), (186, 5), (188, 0), (189, 0)]
def am_mW0L : List (Nat × Nat × Value) := [(164, 50, .ref 188), (164, 61, .int 0), (164, 47, .ref 186), (164, 23, .ref 168), (168, 0, .int 500), (164, 51, .ref 189), (164, 33, .ref 178), (178, 2, .int 0), (178, 0, .int 0), (164, 62, .int (-1)), (164, 58, .int (-1)), (164, 60, .int 0)]
theorem am_mW0 {h00 : am_H} {Q : Option Value → List am_k → am_H → Prop} {n fin sfin : Nat} (hn : n ≤ 100000) (hG : am_Ts h00 am_mW0L)
    (K : ∀ h', am_Fr am_mW0M h00 h' → h' 188 0 = .int (nI fin) → h' 189 0 = .int (nI sfin) → am_Ek false am_G0 am_m103 32 [(0, .ref 164), (1, .int (nI n)), (2, .int 0), (3, .int (nI n))] [] am_ks0 h' 0 0 Q) :
    ∀ (d i f s : Nat) (h : am_H), i + d = n → f ≤ 500 → s + d = sfin ∧ sfin ≤ 200000 → am_nfs d f = fin → am_Fr am_mW0M h00 h → h 188 0 = .int (nI f) → h 189 0 = .int (nI s) →
      am_Ek false am_G0 am_m103 22 [(0, .ref 164), (1, .int (nI n)), (2, .int 0), (3, .int (nI i))] [] am_ks0 h 0 0 Q := by
  intro d
  induction d with
  | zero =>
    intro i f s h hin hf hs hfin F e0 e1
    have hin : i = n := hin
    subst hin
    have hs1 : s = sfin := hs.1
    subst hs1
    have hfin : f = fin := hfin
    refine am_e_iload_n n103_22 rfl ?_
    refine am_e_iload_n n103_23 rfl ?_
    refine am_e_cmpT n103_24 (am_c_geT (am_lt_irr _)) t103_24 ?_
    exact K _ F (hfin ▸ e0) e1
  | succ d ih =>
    intro i f s h hin hf hs hfin F e0 e1
    refine am_e_iload_n n103_22 rfl ?_
    refine am_e_iload_n n103_23 rfl ?_
    refine am_e_cmpF n103_24 (am_c_geF (nI_lt (by omega) (by omega))) ?_
    refine am_e_aload_n n103_25 rfl ?_
    refine am_e_iconst (w := 0) n103_26 rfl ?_
    refine am_e_iload_n n103_27 rfl ?_
    refine am_e_iconst (w := 0) n103_28 rfl ?_
    refine am_e_callV (L := [(0, .ref 164), (1, .int 0), (2, .int 0), (3, .int 0)]) n103_29 rfl rfl rfl rfl rfl rfl rfl rfl ?_
    refine am_aS00 (f := f) (s := s) ⟨((F 164 50 rfl).trans (hG.1)), ((F 164 61 rfl).trans (hG.2.1)), ((F 164 47 rfl).trans (hG.2.2.1)), ((F 164 23 rfl).trans (hG.2.2.2.1)), ((F 168 0 rfl).trans (hG.2.2.2.2.1)), ((F 164 51 rfl).trans (hG.2.2.2.2.2.1)), ((F 164 33 rfl).trans (hG.2.2.2.2.2.2.1)), ((F 178 2 rfl).trans (hG.2.2.2.2.2.2.2.1)), ((F 178 0 rfl).trans (hG.2.2.2.2.2.2.2.2.1)), ((F 164 62 rfl).trans (hG.2.2.2.2.2.2.2.2.2.1)), ((F 164 58 rfl).trans (hG.2.2.2.2.2.2.2.2.2.2.1)), ((F 164 60 rfl).trans (hG.2.2.2.2.2.2.2.2.2.2.2.1)), trivial⟩ hf e0 e1 ?_
    intro h1 F1 qa1 qb1
    refine am_e_iinc (w := (nI (i + 1))) (ls' := [(3, .int (nI (i + 1))), (0, .ref 164), (1, .int (nI n)), (2, .int 0)]) n103_30 rfl rfl (am_inc _) rfl ?_
    refine am_e_goto c103_31 t103_31 ?_
    refine am_Ek_ls (ls' := [(0, .ref 164), (1, .int (nI n)), (2, .int 0), (3, .int (nI (i + 1)))]) ⟨rfl, rfl, rfl, rfl, trivial⟩ ?_
    exact ih (i + 1) (am_nf f) (s + 1) _ (by omega) (am_nf_le hf) (by omega) hfin (am_Fr_trans F (am_Fr_sub rfl F1)) qa1 qb1
theorem am_mW0_e {h : am_H} {Q : Option Value → List am_k → am_H → Prop} {n f s : Nat} (hn : n ≤ 100000) (hG : am_Ts h am_mW0L) (hf : f ≤ 500) (hs : s + n ≤ 200000) (e0 : h 188 0 = .int (nI f)) (e1 : h 189 0 = .int (nI s))
    (K : ∀ h', am_Fr am_mW0M h h' → h' 188 0 = .int (nI (am_nfs n f)) → h' 189 0 = .int (nI (s + n)) → am_Ek false am_G0 am_m103 32 [(0, .ref 164), (1, .int (nI n)), (2, .int 0), (3, .int (nI n))] [] am_ks0 h' 0 0 Q) : am_Ek false am_G0 am_m103 22 [(0, .ref 164), (1, .int (nI n)), (2, .int 0), (3, .int (nI 0))] [] am_ks0 h 0 0 Q :=
  am_mW0 hn hG K n 0 f s h (Nat.zero_add n) hf ⟨rfl, hs⟩ rfl am_Fr_refl e0 e1
def am_mW1M : List (Nat × Nat) := [(186, 0), (186, 1), (186, 2), (186, 3), (186, 4), (186, 5), (188, 0), (189, 0)]
def am_mW1L : List (Nat × Nat × Value) := [(164, 50, .ref 188), (164, 61, .int 0), (164, 47, .ref 186), (164, 23, .ref 168), (168, 0, .int 500), (164, 51, .ref 189), (164, 33, .ref 178), (178, 2, .int 0), (178, 0, .int 0), (164, 62, .int (-1)), (164, 58, .int (-1)), (164, 60, .int 0)]
theorem am_mW1 {h00 : am_H} {Q : Option Value → List am_k → am_H → Prop} {n sfin : Nat} (hn : n ≤ 100000) (hG : am_Ts h00 am_mW1L)
    (K : ∀ h', am_Fr am_mW1M h00 h' → h' 188 0 = .int 0 → h' 189 0 = .int (nI sfin) → am_Ek false am_G0 am_m103 32 [(0, .ref 164), (1, .int (nI n)), (2, .int 1), (3, .int (nI n))] [] am_ks0 h' 0 0 Q) :
    ∀ (d i s : Nat) (h : am_H), i + d = n → s + d = sfin ∧ sfin ≤ 200000 → am_Fr am_mW1M h00 h → h 188 0 = .int 0 → h 189 0 = .int (nI s) →
      am_Ek false am_G0 am_m103 22 [(0, .ref 164), (1, .int (nI n)), (2, .int 1), (3, .int (nI i))] [] am_ks0 h 0 0 Q := by
  intro d
  induction d with
  | zero =>
    intro i s h hin hs F e0 e1
    have hin : i = n := hin
    subst hin
    have hs1 : s = sfin := hs.1
    subst hs1
    refine am_e_iload_n n103_22 rfl ?_
    refine am_e_iload_n n103_23 rfl ?_
    refine am_e_cmpT n103_24 (am_c_geT (am_lt_irr _)) t103_24 ?_
    exact K _ F e0 e1
  | succ d ih =>
    intro i s h hin hs F e0 e1
    refine am_e_iload_n n103_22 rfl ?_
    refine am_e_iload_n n103_23 rfl ?_
    refine am_e_cmpF n103_24 (am_c_geF (nI_lt (by omega) (by omega))) ?_
    refine am_e_aload_n n103_25 rfl ?_
    refine am_e_iconst (w := 0) n103_26 rfl ?_
    refine am_e_iload_n n103_27 rfl ?_
    refine am_e_iconst (w := 0) n103_28 rfl ?_
    refine am_e_callV (L := [(0, .ref 164), (1, .int 0), (2, .int 1), (3, .int 0)]) n103_29 rfl rfl rfl rfl rfl rfl rfl rfl ?_
    refine am_aS01 (s := s) ⟨((F 164 50 rfl).trans (hG.1)), ((F 164 61 rfl).trans (hG.2.1)), ((F 164 47 rfl).trans (hG.2.2.1)), ((F 164 23 rfl).trans (hG.2.2.2.1)), ((F 168 0 rfl).trans (hG.2.2.2.2.1)), ((F 164 51 rfl).trans (hG.2.2.2.2.2.1)), ((F 164 33 rfl).trans (hG.2.2.2.2.2.2.1)), ((F 178 2 rfl).trans (hG.2.2.2.2.2.2.2.1)), ((F 178 0 rfl).trans (hG.2.2.2.2.2.2.2.2.1)), ((F 164 62 rfl).trans (hG.2.2.2.2.2.2.2.2.2.1)), ((F 164 58 rfl).trans (hG.2.2.2.2.2.2.2.2.2.2.1)), ((F 164 60 rfl).trans (hG.2.2.2.2.2.2.2.2.2.2.2.1)), trivial⟩ e0 e1 ?_
    intro h2 F2 qa2 qb2
    refine am_e_iinc (w := (nI (i + 1))) (ls' := [(3, .int (nI (i + 1))), (0, .ref 164), (1, .int (nI n)), (2, .int 1)]) n103_30 rfl rfl (am_inc _) rfl ?_
    refine am_e_goto c103_31 t103_31 ?_
    refine am_Ek_ls (ls' := [(0, .ref 164), (1, .int (nI n)), (2, .int 1), (3, .int (nI (i + 1)))]) ⟨rfl, rfl, rfl, rfl, trivial⟩ ?_
    exact ih (i + 1) (s + 1) _ (by omega) (by omega) (am_Fr_trans F (am_Fr_sub rfl F2)) qa2 qb2
theorem am_mW1_e {h : am_H} {Q : Option Value → List am_k → am_H → Prop} {n s : Nat} (hn : n ≤ 100000) (hG : am_Ts h am_mW1L) (hs : s + n ≤ 200000) (e0 : h 188 0 = .int 0) (e1 : h 189 0 = .int (nI s))
    (K : ∀ h', am_Fr am_mW1M h h' → h' 188 0 = .int 0 → h' 189 0 = .int (nI (s + n)) → am_Ek false am_G0 am_m103 32 [(0, .ref 164), (1, .int (nI n)), (2, .int 1), (3, .int (nI n))] [] am_ks0 h' 0 0 Q) : am_Ek false am_G0 am_m103 22 [(0, .ref 164), (1, .int (nI n)), (2, .int 1), (3, .int (nI 0))] [] am_ks0 h 0 0 Q :=
  am_mW1 hn hG K n 0 s h (Nat.zero_add n) ⟨rfl, hs⟩ am_Fr_refl e0 e1
def am_mT0M : List (Nat × Nat) := [(186, 0), (186, 1), (186, 2), (186, 3), (186, 4), (186, 5), (188, 1), (189, 1)]
def am_mT0L : List (Nat × Nat × Value) := [(164, 50, .ref 188), (164, 61, .int 0), (164, 47, .ref 186), (164, 23, .ref 168), (168, 0, .int 500), (164, 51, .ref 189), (164, 33, .ref 178), (178, 2, .int 0), (178, 0, .int 0), (164, 62, .int (-1)), (164, 58, .int (-1)), (164, 60, .int 1)]
theorem am_mT0 {h00 : am_H} {Q : Option Value → List am_k → am_H → Prop} {n fin sfin : Nat} (hn : n ≤ 100000) (hG : am_Ts h00 am_mT0L)
    (K : ∀ h', am_Fr am_mT0M h00 h' → h' 188 1 = .int (nI fin) → h' 189 1 = .int (nI sfin) → am_Ek false am_G0 am_m128 84 [(0, .ref 164), (1, .int 0), (3, .int (nI n)), (4, .int (nI n))] [] am_ks0 h' 0 0 Q) :
    ∀ (d i f s : Nat) (h : am_H), i + d = n → f ≤ 500 → s + d = sfin ∧ sfin ≤ 200000 → am_nfs d f = fin → am_Fr am_mT0M h00 h → h 188 1 = .int (nI f) → h 189 1 = .int (nI s) →
      am_Ek false am_G0 am_m128 64 [(0, .ref 164), (1, .int 0), (3, .int (nI n)), (4, .int (nI i))] [] am_ks0 h 0 0 Q := by
  intro d
  induction d with
  | zero =>
    intro i f s h hin hf hs hfin F e0 e1
    have hin : i = n := hin
    subst hin
    have hs1 : s = sfin := hs.1
    subst hs1
    have hfin : f = fin := hfin
    refine am_e_iload n128_64 rfl ?_
    refine am_e_iload_n n128_65 rfl ?_
    refine am_e_cmpT n128_66 (am_c_geT (am_lt_irr _)) t128_66 ?_
    exact K _ F (hfin ▸ e0) e1
  | succ d ih =>
    intro i f s h hin hf hs hfin F e0 e1
    refine am_e_iload n128_64 rfl ?_
    refine am_e_iload_n n128_65 rfl ?_
    refine am_e_cmpF n128_66 (am_c_geF (nI_lt (by omega) (by omega))) ?_
    refine am_e_aload_n n128_67 rfl ?_
    refine am_e_iconst (w := 1) n128_68 rfl ?_
    refine am_e_iload_n n128_69 rfl ?_
    refine am_e_iconst (w := 1) n128_70 rfl ?_
    refine am_e_cmpT n128_71 (am_c_neT (by decide)) t128_71 ?_
    refine am_e_iconst (w := 0) n128_74 rfl ?_
    refine am_e_iload_n n128_75 rfl ?_
    refine am_e_iconst (w := 3) n128_76 rfl ?_
    refine am_e_cmpT n128_77 (am_c_neT (by decide)) t128_77 ?_
    refine am_e_iconst (w := 0) n128_80 rfl ?_
    refine am_e_callV (L := [(0, .ref 164), (1, .int 1), (2, .int 0), (3, .int 0)]) n128_81 rfl rfl rfl rfl rfl rfl rfl rfl ?_
    refine am_aS10k (f := f) (s := s) ⟨((F 164 50 rfl).trans (hG.1)), ((F 164 61 rfl).trans (hG.2.1)), ((F 164 47 rfl).trans (hG.2.2.1)), ((F 164 23 rfl).trans (hG.2.2.2.1)), ((F 168 0 rfl).trans (hG.2.2.2.2.1)), ((F 164 51 rfl).trans (hG.2.2.2.2.2.1)), ((F 164 33 rfl).trans (hG.2.2.2.2.2.2.1)), ((F 178 2 rfl).trans (hG.2.2.2.2.2.2.2.1)), ((F 178 0 rfl).trans (hG.2.2.2.2.2.2.2.2.1)), ((F 164 62 rfl).trans (hG.2.2.2.2.2.2.2.2.2.1)), ((F 164 58 rfl).trans (hG.2.2.2.2.2.2.2.2.2.2.1)), ((F 164 60 rfl).trans (hG.2.2.2.2.2.2.2.2.2.2.2.1)), trivial⟩ hf e0 e1 ?_
    intro h3 F3 qa3 qb3
    refine am_e_iinc (w := (nI (i + 1))) (ls' := [(4, .int (nI (i + 1))), (0, .ref 164), (1, .int 0), (3, .int (nI n))]) n128_82 rfl rfl (am_inc _) rfl ?_
    refine am_e_goto c128_83 t128_83 ?_
    refine am_Ek_ls (ls' := [(0, .ref 164), (1, .int 0), (3, .int (nI n)), (4, .int (nI (i + 1)))]) ⟨rfl, rfl, rfl, rfl, trivial⟩ ?_
    exact ih (i + 1) (am_nf f) (s + 1) _ (by omega) (am_nf_le hf) (by omega) hfin (am_Fr_trans F (am_Fr_sub rfl F3)) qa3 qb3
theorem am_mT0_e {h : am_H} {Q : Option Value → List am_k → am_H → Prop} {n f s : Nat} (hn : n ≤ 100000) (hG : am_Ts h am_mT0L) (hf : f ≤ 500) (hs : s + n ≤ 200000) (e0 : h 188 1 = .int (nI f)) (e1 : h 189 1 = .int (nI s))
    (K : ∀ h', am_Fr am_mT0M h h' → h' 188 1 = .int (nI (am_nfs n f)) → h' 189 1 = .int (nI (s + n)) → am_Ek false am_G0 am_m128 84 [(0, .ref 164), (1, .int 0), (3, .int (nI n)), (4, .int (nI n))] [] am_ks0 h' 0 0 Q) : am_Ek false am_G0 am_m128 64 [(0, .ref 164), (1, .int 0), (3, .int (nI n)), (4, .int (nI 0))] [] am_ks0 h 0 0 Q :=
  am_mT0 hn hG K n 0 f s h (Nat.zero_add n) hf ⟨rfl, hs⟩ rfl am_Fr_refl e0 e1
def am_mT1M : List (Nat × Nat) := [(186, 0), (186, 1), (186, 2), (186, 3), (186, 4), (186, 5), (188, 1), (189, 1)]
def am_mT1L : List (Nat × Nat × Value) := [(164, 50, .ref 188), (164, 61, .int 0), (164, 47, .ref 186), (164, 23, .ref 168), (168, 0, .int 500), (164, 51, .ref 189), (164, 33, .ref 178), (178, 2, .int 0), (178, 0, .int 0), (164, 62, .int (-1)), (164, 58, .int (-1)), (164, 60, .int 0)]
theorem am_mT1 {h00 : am_H} {Q : Option Value → List am_k → am_H → Prop} {n sfin : Nat} (hn : n ≤ 100000) (hG : am_Ts h00 am_mT1L)
    (K : ∀ h', am_Fr am_mT1M h00 h' → h' 188 1 = .int 0 → h' 189 1 = .int (nI sfin) → am_Ek false am_G0 am_m128 84 [(0, .ref 164), (1, .int 1), (3, .int (nI n)), (4, .int (nI n))] [] am_ks0 h' 0 0 Q) :
    ∀ (d i s : Nat) (h : am_H), i + d = n → s + d = sfin ∧ sfin ≤ 200000 → am_Fr am_mT1M h00 h → h 188 1 = .int 0 → h 189 1 = .int (nI s) →
      am_Ek false am_G0 am_m128 64 [(0, .ref 164), (1, .int 1), (3, .int (nI n)), (4, .int (nI i))] [] am_ks0 h 0 0 Q := by
  intro d
  induction d with
  | zero =>
    intro i s h hin hs F e0 e1
    have hin : i = n := hin
    subst hin
    have hs1 : s = sfin := hs.1
    subst hs1
    refine am_e_iload n128_64 rfl ?_
    refine am_e_iload_n n128_65 rfl ?_
    refine am_e_cmpT n128_66 (am_c_geT (am_lt_irr _)) t128_66 ?_
    exact K _ F e0 e1
  | succ d ih =>
    intro i s h hin hs F e0 e1
    refine am_e_iload n128_64 rfl ?_
    refine am_e_iload_n n128_65 rfl ?_
    refine am_e_cmpF n128_66 (am_c_geF (nI_lt (by omega) (by omega))) ?_
    refine am_e_aload_n n128_67 rfl ?_
    refine am_e_iconst (w := 1) n128_68 rfl ?_
    refine am_e_iload_n n128_69 rfl ?_
    refine am_e_iconst (w := 1) n128_70 rfl ?_
    refine am_e_cmpF n128_71 (am_c_neF (by decide)) ?_
    refine am_e_iconst (w := 1) n128_72 rfl ?_
    refine am_e_goto c128_73 t128_73 ?_
    refine am_e_iload_n n128_75 rfl ?_
    refine am_e_iconst (w := 3) n128_76 rfl ?_
    refine am_e_cmpT n128_77 (am_c_neT (by decide)) t128_77 ?_
    refine am_e_iconst (w := 0) n128_80 rfl ?_
    refine am_e_callV (L := [(0, .ref 164), (1, .int 1), (2, .int 1), (3, .int 0)]) n128_81 rfl rfl rfl rfl rfl rfl rfl rfl ?_
    refine am_aS11 (s := s) ⟨((F 164 50 rfl).trans (hG.1)), ((F 164 61 rfl).trans (hG.2.1)), ((F 164 47 rfl).trans (hG.2.2.1)), ((F 164 23 rfl).trans (hG.2.2.2.1)), ((F 168 0 rfl).trans (hG.2.2.2.2.1)), ((F 164 51 rfl).trans (hG.2.2.2.2.2.1)), ((F 164 33 rfl).trans (hG.2.2.2.2.2.2.1)), ((F 178 2 rfl).trans (hG.2.2.2.2.2.2.2.1)), ((F 178 0 rfl).trans (hG.2.2.2.2.2.2.2.2.1)), ((F 164 62 rfl).trans (hG.2.2.2.2.2.2.2.2.2.1)), ((F 164 58 rfl).trans (hG.2.2.2.2.2.2.2.2.2.2.1)), ((F 164 60 rfl).trans (hG.2.2.2.2.2.2.2.2.2.2.2.1)), trivial⟩ e0 e1 ?_
    intro h4 F4 qa4 qb4
    refine am_e_iinc (w := (nI (i + 1))) (ls' := [(4, .int (nI (i + 1))), (0, .ref 164), (1, .int 1), (3, .int (nI n))]) n128_82 rfl rfl (am_inc _) rfl ?_
    refine am_e_goto c128_83 t128_83 ?_
    refine am_Ek_ls (ls' := [(0, .ref 164), (1, .int 1), (3, .int (nI n)), (4, .int (nI (i + 1)))]) ⟨rfl, rfl, rfl, rfl, trivial⟩ ?_
    exact ih (i + 1) (s + 1) _ (by omega) (by omega) (am_Fr_trans F (am_Fr_sub rfl F4)) qa4 qb4
theorem am_mT1_e {h : am_H} {Q : Option Value → List am_k → am_H → Prop} {n s : Nat} (hn : n ≤ 100000) (hG : am_Ts h am_mT1L) (hs : s + n ≤ 200000) (e0 : h 188 1 = .int 0) (e1 : h 189 1 = .int (nI s))
    (K : ∀ h', am_Fr am_mT1M h h' → h' 188 1 = .int 0 → h' 189 1 = .int (nI (s + n)) → am_Ek false am_G0 am_m128 84 [(0, .ref 164), (1, .int 1), (3, .int (nI n)), (4, .int (nI n))] [] am_ks0 h' 0 0 Q) : am_Ek false am_G0 am_m128 64 [(0, .ref 164), (1, .int 1), (3, .int (nI n)), (4, .int (nI 0))] [] am_ks0 h 0 0 Q :=
  am_mT1 hn hG K n 0 s h (Nat.zero_add n) ⟨rfl, hs⟩ am_Fr_refl e0 e1
def am_mT2M : List (Nat × Nat) := [(186, 0), (186, 1), (186, 2), (186, 3), (186, 4), (186, 5), (188, 1), (189, 1)]
def am_mT2L : List (Nat × Nat × Value) := [(164, 50, .ref 188), (164, 61, .int 1), (164, 47, .ref 186), (164, 23, .ref 168), (168, 0, .int 500), (164, 51, .ref 189), (164, 33, .ref 178), (178, 0, .int 0), (164, 62, .int (-1)), (164, 58, .int (-1)), (164, 60, .int 0)]
theorem am_mT2 {h00 : am_H} {Q : Option Value → List am_k → am_H → Prop} {n fin sfin : Nat} (hn : n ≤ 100000) (hG : am_Ts h00 am_mT2L)
    (K : ∀ h', am_Fr am_mT2M h00 h' → h' 188 1 = .int (nI fin) → h' 189 1 = .int (nI sfin) → am_Ek false am_G0 am_m128 84 [(0, .ref 164), (1, .int 2), (3, .int (nI n)), (4, .int (nI n))] [] am_ks0 h' 0 0 Q) :
    ∀ (d i f s : Nat) (h : am_H), i + d = n → f ≤ 500 → s + d = sfin ∧ sfin ≤ 200000 → am_nfs d f = fin → am_Fr am_mT2M h00 h → h 188 1 = .int (nI f) → h 189 1 = .int (nI s) →
      am_Ek false am_G0 am_m128 64 [(0, .ref 164), (1, .int 2), (3, .int (nI n)), (4, .int (nI i))] [] am_ks0 h 0 0 Q := by
  intro d
  induction d with
  | zero =>
    intro i f s h hin hf hs hfin F e0 e1
    have hin : i = n := hin
    subst hin
    have hs1 : s = sfin := hs.1
    subst hs1
    have hfin : f = fin := hfin
    refine am_e_iload n128_64 rfl ?_
    refine am_e_iload_n n128_65 rfl ?_
    refine am_e_cmpT n128_66 (am_c_geT (am_lt_irr _)) t128_66 ?_
    exact K _ F (hfin ▸ e0) e1
  | succ d ih =>
    intro i f s h hin hf hs hfin F e0 e1
    refine am_e_iload n128_64 rfl ?_
    refine am_e_iload_n n128_65 rfl ?_
    refine am_e_cmpF n128_66 (am_c_geF (nI_lt (by omega) (by omega))) ?_
    refine am_e_aload_n n128_67 rfl ?_
    refine am_e_iconst (w := 1) n128_68 rfl ?_
    refine am_e_iload_n n128_69 rfl ?_
    refine am_e_iconst (w := 1) n128_70 rfl ?_
    refine am_e_cmpT n128_71 (am_c_neT (by decide)) t128_71 ?_
    refine am_e_iconst (w := 0) n128_74 rfl ?_
    refine am_e_iload_n n128_75 rfl ?_
    refine am_e_iconst (w := 3) n128_76 rfl ?_
    refine am_e_cmpT n128_77 (am_c_neT (by decide)) t128_77 ?_
    refine am_e_iconst (w := 0) n128_80 rfl ?_
    refine am_e_callV (L := [(0, .ref 164), (1, .int 1), (2, .int 0), (3, .int 0)]) n128_81 rfl rfl rfl rfl rfl rfl rfl rfl ?_
    refine am_aS10l (f := f) (s := s) ⟨((F 164 50 rfl).trans (hG.1)), ((F 164 61 rfl).trans (hG.2.1)), ((F 164 47 rfl).trans (hG.2.2.1)), ((F 164 23 rfl).trans (hG.2.2.2.1)), ((F 168 0 rfl).trans (hG.2.2.2.2.1)), ((F 164 51 rfl).trans (hG.2.2.2.2.2.1)), ((F 164 33 rfl).trans (hG.2.2.2.2.2.2.1)), ((F 178 0 rfl).trans (hG.2.2.2.2.2.2.2.1)), ((F 164 62 rfl).trans (hG.2.2.2.2.2.2.2.2.1)), ((F 164 58 rfl).trans (hG.2.2.2.2.2.2.2.2.2.1)), ((F 164 60 rfl).trans (hG.2.2.2.2.2.2.2.2.2.2.1)), trivial⟩ hf e0 e1 ?_
    intro h5 F5 qa5 qb5
    refine am_e_iinc (w := (nI (i + 1))) (ls' := [(4, .int (nI (i + 1))), (0, .ref 164), (1, .int 2), (3, .int (nI n))]) n128_82 rfl rfl (am_inc _) rfl ?_
    refine am_e_goto c128_83 t128_83 ?_
    refine am_Ek_ls (ls' := [(0, .ref 164), (1, .int 2), (3, .int (nI n)), (4, .int (nI (i + 1)))]) ⟨rfl, rfl, rfl, rfl, trivial⟩ ?_
    exact ih (i + 1) (am_nf f) (s + 1) _ (by omega) (am_nf_le hf) (by omega) hfin (am_Fr_trans F (am_Fr_sub rfl F5)) qa5 qb5
theorem am_mT2_e {h : am_H} {Q : Option Value → List am_k → am_H → Prop} {n f s : Nat} (hn : n ≤ 100000) (hG : am_Ts h am_mT2L) (hf : f ≤ 500) (hs : s + n ≤ 200000) (e0 : h 188 1 = .int (nI f)) (e1 : h 189 1 = .int (nI s))
    (K : ∀ h', am_Fr am_mT2M h h' → h' 188 1 = .int (nI (am_nfs n f)) → h' 189 1 = .int (nI (s + n)) → am_Ek false am_G0 am_m128 84 [(0, .ref 164), (1, .int 2), (3, .int (nI n)), (4, .int (nI n))] [] am_ks0 h' 0 0 Q) : am_Ek false am_G0 am_m128 64 [(0, .ref 164), (1, .int 2), (3, .int (nI n)), (4, .int (nI 0))] [] am_ks0 h 0 0 Q :=
  am_mT2 hn hG K n 0 f s h (Nat.zero_add n) hf ⟨rfl, hs⟩ rfl am_Fr_refl e0 e1
