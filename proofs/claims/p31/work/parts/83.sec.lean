/-! ===== THE MODEL'S SECONDS, counted: aSecond, ticks (wip/s/tpl/83.tpl) ===== -/
section ABSEC
variable {J : am_H → Prop} {sfn : ab_Sm}
/-- a second of bed 1 goes by -/
theorem ab_aSec (hfn : ab_Con ab_tab J sfn) (e1 : sfn.1 = 200) (e2 : sfn.2.1 = [(4, 0, 0, [164]), ab_i 0 3, ab_i 0 1, ab_i 0 1]) (e3 : ab_no 189 sfn.2.2.2.1 = true) (e4 : sfn.2.2.2.2.all (fun c => match c.1 with | some V => Nat.beq V.1 0 | none => false) = true)
    (hJs : ∀ h h', ab_Fr [(188, 0), (189, 0)] h h' → J h → J h') {h : am_H} {o p s : Int32} (hI : ab_Inv (ab_hi ab_tab) h) (hJ : J h) (hp : ab_gPl h sfn.2.2.1) (o0 : 0 ≤ o.toInt) (o1 : o.toInt ≤ 1) (p0 : 0 ≤ p.toInt) (p1 : p.toInt ≤ 1) (hs : h 189 1 = .int s) :
    am_Ek false am_G0 am_m199 0 (lv_args 0 [.ref 164, .int 1, .int o, .int p]) [] am_ks0 h 0 0 (fun r ks h' => ks = am_ks0 ∧ r = none ∧ ab_Inv (ab_hi ab_tab) h' ∧ J h' ∧ ab_Fr (sfn.2.2.2.1 ++ [(188, 0), (189, 2)]) h h' ∧ h' 189 1 = .int (s + 1)) := by
  have q1 : am_ks0[164]? = some (.inl 12) := by decide +kernel
  have k8 : am_ks0[188]? = some (.inr (.int, 4)) := by decide +kernel
  have k9 : am_ks0[189]? = some (.inr (.int, 4)) := by decide +kernel
  have z : ab_sz (.inl 12) = 81 := rfl
  have f50 : h 164 50 = .ref 188 := ab_ref1 hI q1 (by rw [z]; decide) (by decide +kernel)
  have t8 : ∀ q, ab_hi ab_tab 188 q = ab_top := fun q => (ab_hi_arr (by decide +kernel) q).trans (by decide +kernel)
  have t9 : ∀ q, ab_hi ab_tab 189 q = ab_top := fun q => (ab_hi_arr (by decide +kernel) q).trans (by decide +kernel)
  obtain ⟨M', hM', hz, hcon⟩ := hfn
  rw [e1] at hM'
  have hM2 : am_prog[200]? = some am_m200 := rfl
  rw [hM2] at hM'
  cases hM'
  refine am_e_aload_n (am_nxt_of (i := (0, 1, .aload_n 0, (0, 0, 0), 0)) (by decide +kernel)) (v := 164) rfl ?_
  refine am_e_getf (am_nxt_of (i := (1, 3, .getfield 85, (12, 50, 1434), 0)) (by decide +kernel)) q1 f50 ?_
  refine am_e_iload_n (am_nxt_of (i := (4, 1, .iload_n 1, (0, 0, 0), 0)) (by decide +kernel)) (v := 1) rfl ?_
  refine am_e_aload_n (am_nxt_of (i := (5, 1, .aload_n 0, (0, 0, 0), 0)) (by decide +kernel)) (v := 164) rfl ?_
  refine am_e_iload_n (am_nxt_of (i := (6, 1, .iload_n 1, (0, 0, 0), 0)) (by decide +kernel)) (v := 1) rfl ?_
  refine am_e_iload_n (am_nxt_of (i := (7, 1, .iload_n 2, (0, 0, 0), 0)) (by decide +kernel)) (v := o) rfl ?_
  refine am_e_iload_n (am_nxt_of (i := (8, 1, .iload_n 3, (0, 0, 0), 0)) (by decide +kernel)) (v := p) rfl ?_
  refine am_e_callV (M' := am_m200) (o := 164) (ar := [.int p, .int o, .int 1]) (rest := [.int 1, .ref 188]) (L := lv_args 0 [.ref 164, .int 1, .int o, .int p]) (am_nxt_of (i := (9, 3, .invokevirtual 409, (200, 1832, 3), 0)) (by decide +kernel)) rfl rfl rfl rfl q1 rfl rfl rfl ?_
  refine am_Ev_mono (hcon [.ref 164, .int 1, .int o, .int p] h (by rw [e2]; exact ⟨⟨164, rfl, List.mem_singleton.mpr rfl⟩, ab_i_ok (by decide) (by decide), ab_i_ok o0 o1, ab_i_ok p0 p1, trivial⟩) hI hJ hp) (fun r ks h1 hq => ?_)
  obtain ⟨rfl, hI1, hJ1, hF1, c, hc, hgc⟩ := hq
  have hr := hgc.1
  have hc0 := List.all_eq_true.mp e4 c hc
  unfold ab_gR at hr
  split at hr
  · rename_i e5
    rw [e5] at hc0
    cases hc0
  · rename_i V v e5
    rw [e5] at hc0
    obtain ⟨x, rfl, -⟩ := ab_gI hc0 hr
    show am_Ek false am_G0 am_m199 8 (lv_args 0 [.ref 164, .int 1, .int o, .int p]) [.int x, .int 1, .ref 188] am_ks0 h1 0 0 _
    refine am_e_iastore (q := 1) (am_nxt_of (i := (12, 1, .iastore, (0, 0, 0), 0)) (by decide +kernel)) k8 (by decide) rfl ?_
    have hI2 : ab_Inv (ab_hi ab_tab) (am_up h1 188 1 (.int x)) := ab_Inv_up hI1 (by rw [t8]; exact ab_top_ok _)
    have f51 : am_up h1 188 1 (.int x) 164 51 = .ref 189 := ab_ref1 hI2 q1 (by rw [z]; decide) (by decide +kernel)
    have es : am_up h1 188 1 (.int x) 189 1 = .int s := by
      rw [am_up_other _ _ _ _ _ (by decide), ab_no_ok e3 hF1]
      exact hs
    refine am_e_aload_n (am_nxt_of (i := (13, 1, .aload_n 0, (0, 0, 0), 0)) (by decide +kernel)) (v := 164) rfl ?_
    refine am_e_getf (am_nxt_of (i := (14, 3, .getfield 88, (12, 51, 1435), 0)) (by decide +kernel)) q1 f51 ?_
    refine am_e_iload_n (am_nxt_of (i := (17, 1, .iload_n 1, (0, 0, 0), 0)) (by decide +kernel)) (v := 1) rfl ?_
    refine am_e_dup2 (am_nxt_of (i := (18, 1, .dup2, (0, 0, 0), 0)) (by decide +kernel)) rfl ?_
    refine am_e_iaload (q := 1) (am_nxt_of (i := (19, 1, .iaload, (0, 0, 0), 0)) (by decide +kernel)) k9 (by decide) rfl es ?_
    refine am_e_iconst (w := 1) (am_nxt_of (i := (20, 1, .iconst 1, (0, 0, 0), 0)) (by decide +kernel)) rfl ?_
    refine am_e_iadd (am_nxt_of (i := (21, 1, .iadd, (0, 0, 0), 0)) (by decide +kernel)) rfl ?_
    refine am_e_iastore (q := 1) (am_nxt_of (i := (22, 1, .iastore, (0, 0, 0), 0)) (by decide +kernel)) k9 (by decide) rfl ?_
    refine am_e_vret (am_cur_of (i := (23, 1, .return_, (0, 0, 0), 0)) (by decide +kernel)) rfl rfl ⟨rfl, rfl, ab_Inv_up hI2 (by rw [t9]; exact ab_top_ok _), ?_, ?_, am_up_self _ _ _ _⟩
    · exact hJs h1 _ (ab_Fr_up rfl (ab_Fr_up rfl ab_Fr_refl)) hJ1
    · have hFa : ab_Fr (sfn.2.2.2.1 ++ [(188, 0), (189, 2)]) h h1 := by
        intro a b hab
        refine hF1 a b ?_
        unfold ab_in at hab ⊢
        rw [List.any_append, Bool.or_eq_false_iff] at hab
        exact hab.1
      refine ab_Fr_up ?_ (ab_Fr_up ?_ hFa)
      · unfold ab_in
        rw [List.any_append, show ([(188, 0), (189, 2)] : List (Nat × Nat)).any (fun q => Nat.beq q.1 189 && (Nat.beq q.2 0 || Nat.beq q.2 (1 + 1))) = true by decide, Bool.or_true]
      · unfold ab_in
        rw [List.any_append, show ([(188, 0), (189, 2)] : List (Nat × Nat)).any (fun q => Nat.beq q.1 188 && (Nat.beq q.2 0 || Nat.beq q.2 (1 + 1))) = true by decide, Bool.or_true]
  · exact hr.elim
/-- a tick: one second more since the beginning, and whether an hour isn't over -/
theorem ab_ticks (hfn : ab_Con ab_tab J sfn) (e1 : sfn.1 = 200) (e2 : sfn.2.1 = [(4, 0, 0, [164]), ab_i 0 3, ab_i 0 1, ab_i 0 1]) (e3 : ab_no 189 sfn.2.2.2.1 = true) (e4 : sfn.2.2.2.2.all (fun c => match c.1 with | some V => Nat.beq V.1 0 | none => false) = true) (e5 : ab_in sfn.2.2.2.1 164 63 = false)
    (hJs : ∀ h h', ab_Fr [(188, 0), (189, 0)] h h' → J h → J h') {h : am_H} {o s b : Int32} (hI : ab_Inv (ab_hi ab_tab) h) (hJ : J h) (hp : ab_gPl h sfn.2.2.1) (o0 : 0 ≤ o.toInt) (o1 : o.toInt ≤ 1) (hs : h 189 1 = .int s) (hb : h 164 63 = .int b) (d0 : 0 ≤ (s - b).toInt) (d1 : (s - b).toInt < 3600) :
    am_Ek false am_G0 am_m216 0 (lv_args 0 [.ref 164, .int o]) [] am_ks0 h 0 0 (fun r ks h' => ks = am_ks0 ∧ ab_Inv (ab_hi ab_tab) h' ∧ J h' ∧ ab_Fr (sfn.2.2.2.1 ++ [(188, 0), (189, 2)]) h h' ∧ h' 189 1 = .int (s + 1) ∧ h' 164 63 = .int b ∧ (s + 1 - b).toInt = (s - b).toInt + 1 ∧ ((r = some (.int 1) ∧ (s - b).toInt + 1 < 3600) ∨ (r = some (.int 0) ∧ (s - b).toInt + 1 = 3600))) := by
  have q1 : am_ks0[164]? = some (.inl 12) := by decide +kernel
  have k9 : am_ks0[189]? = some (.inr (.int, 4)) := by decide +kernel
  have z : ab_sz (.inl 12) = 81 := rfl
  have hd : (s + 1 - b).toInt = (s - b).toInt + 1 := by
    have ea : s + 1 - b = s - b + 1 := by
      rw [Int32.sub_eq_add_neg, Int32.sub_eq_add_neg, Int32.add_assoc, Int32.add_comm 1, Int32.add_assoc]
    rw [ea, ab_iadd (by rw [show (1 : Int32).toInt = 1 by decide]; omega) (by rw [show (1 : Int32).toInt = 1 by decide]; omega), show (1 : Int32).toInt = 1 by decide]
  refine am_e_aload_n (am_nxt_of (i := (0, 1, .aload_n 0, (0, 0, 0), 0)) (by decide +kernel)) (v := 164) rfl ?_
  refine am_e_iconst (w := 1) (am_nxt_of (i := (1, 1, .iconst 1, (0, 0, 0), 0)) (by decide +kernel)) rfl ?_
  refine am_e_iload_n (am_nxt_of (i := (2, 1, .iload_n 1, (0, 0, 0), 0)) (by decide +kernel)) (v := o) rfl ?_
  refine am_e_iconst (w := 0) (am_nxt_of (i := (3, 1, .iconst 0, (0, 0, 0), 0)) (by decide +kernel)) rfl ?_
  refine am_e_callV (M' := am_m199) (o := 164) (ar := [.int 0, .int o, .int 1]) (rest := []) (L := lv_args 0 [.ref 164, .int 1, .int o, .int 0]) (am_nxt_of (i := (4, 3, .invokevirtual 434, (199, 1828, 3), 0)) (by decide +kernel)) rfl rfl rfl rfl q1 rfl rfl rfl ?_
  refine am_Ev_mono (ab_aSec hfn e1 e2 e3 e4 hJs hI hJ hp o0 o1 (by decide) (by decide) hs) (fun r ks h' hq => ?_)
  obtain ⟨rfl, rfl, hI', hJ', hF', es'⟩ := hq
  show am_Ek false am_G0 am_m216 5 (lv_args 0 [.ref 164, .int o]) [] am_ks0 h' 0 0 _
  have f51 : h' 164 51 = .ref 189 := ab_ref1 hI' q1 (by rw [z]; decide) (by decide +kernel)
  have eb' : h' 164 63 = .int b := by
    rw [hF' 164 63 ?_]
    · exact hb
    · unfold ab_in at e5 ⊢
      rw [List.any_append, e5]
      decide
  refine am_e_aload_n (am_nxt_of (i := (7, 1, .aload_n 0, (0, 0, 0), 0)) (by decide +kernel)) (v := 164) rfl ?_
  refine am_e_getf (am_nxt_of (i := (8, 3, .getfield 88, (12, 51, 1435), 0)) (by decide +kernel)) q1 f51 ?_
  refine am_e_iconst (w := 1) (am_nxt_of (i := (11, 1, .iconst 1, (0, 0, 0), 0)) (by decide +kernel)) rfl ?_
  refine am_e_iaload (q := 1) (am_nxt_of (i := (12, 1, .iaload, (0, 0, 0), 0)) (by decide +kernel)) k9 (by decide) rfl es' ?_
  refine am_e_aload_n (am_nxt_of (i := (13, 1, .aload_n 0, (0, 0, 0), 0)) (by decide +kernel)) (v := 164) rfl ?_
  refine am_e_getf (am_nxt_of (i := (14, 3, .getfield 447, (12, 63, 1447), 0)) (by decide +kernel)) q1 eb' ?_
  refine am_e_isub (am_nxt_of (i := (17, 1, .isub, (0, 0, 0), 0)) (by decide +kernel)) rfl ?_
  refine am_e_sipush (w := 3600) (am_nxt_of (i := (18, 3, .sipush 3600, (0, 0, 0), 0)) (by decide +kernel)) (by decide) ?_
  have e36 : (3600 : Int32).toInt = 3600 := by decide
  by_cases hlt : s + 1 - b < 3600
  · refine am_e_cmpF (am_nxt_of (i := (21, 3, .if_icmp .ge 7, (16, 0, 0), 0)) (by decide +kernel)) (am_c_geF hlt) ?_
    rw [Int32.lt_iff_toInt_lt] at hlt
    refine am_e_iconst (w := 1) (am_nxt_of (i := (24, 1, .iconst 1, (0, 0, 0), 0)) (by decide +kernel)) rfl ?_
    refine am_e_goto (am_cur_of (i := (25, 3, .goto 4, (17, 0, 0), 0)) (by decide +kernel)) (am_tgt_of (by decide +kernel)) ?_
    exact am_e_iret (ty := .boolean) (am_cur_of (i := (29, 1, .ireturn, (0, 0, 0), 0)) (by decide +kernel)) rfl rfl rfl ⟨rfl, hI', hJ', hF', es', eb', hd, Or.inl ⟨rfl, by omega⟩⟩
  · refine am_e_cmpT (am_nxt_of (i := (21, 3, .if_icmp .ge 7, (16, 0, 0), 0)) (by decide +kernel)) (am_c_geT hlt) (am_tgt_of (by decide +kernel)) ?_
    rw [Int32.lt_iff_toInt_lt] at hlt
    refine am_e_iconst (w := 0) (am_nxt_of (i := (28, 1, .iconst 0, (0, 0, 0), 0)) (by decide +kernel)) rfl ?_
    exact am_e_iret (ty := .boolean) (am_cur_of (i := (29, 1, .ireturn, (0, 0, 0), 0)) (by decide +kernel)) rfl rfl rfl ⟨rfl, hI', hJ', hF', es', eb', hd, Or.inr ⟨rfl, by omega⟩⟩
end ABSEC
