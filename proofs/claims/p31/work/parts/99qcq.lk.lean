/-! ===== LOOK OF THE CLASS: what it does on good heaps (wip/s/gen99t.py) ===== -/
theorem ab_Fr_su {md md' : List (Nat × Nat)} {h h' : am_H} (hs_z : ∀ q ∈ md, q ∈ md') (a : ab_Fr md h h') : ab_Fr md' h h' := by
  intro o k e
  refine a o k ?_
  cases q : ab_in md o k with
  | false => rfl
  | true =>
    obtain ⟨w, hw_z, hb_z⟩ := List.any_eq_true.mp q
    have : ab_in md' o k = true := List.any_eq_true.mpr ⟨w, hs_z w hw_z, hb_z⟩
    rw [this] at e
    cases e
def am_kI : List am_I := [(0, 1, .aload_n 0, (0, 0, 0), 0), (1, 1, .iload_n 1, (0, 0, 0), 0), (2, 3, .invokevirtual 135, (70, 943, 3), 0), (5, 3, .ifCond .ne 13, (4, 0, 0), 0), (18, 1, .aload_n 0, (0, 0, 0), 0), (19, 3, .getfield 64, (0, 11, 672), 0), (22, 1, .aload_n 0, (0, 0, 0), 0), (23, 3, .getfield 18, (0, 2, 663), 0), (26, 1, .aload_n 0, (0, 0, 0), 0), (27, 3, .getfield 37, (0, 5, 666), 0), (30, 3, .invokevirtual 146, (63, 912, 3), 0), (33, 1, .iload_n 2, (0, 0, 0), 0), (34, 34, .tableswitch 88 0 4 #[34, 43, 52, 62, 79], (0, 0, 0), 0), (68, 1, .aload_n 0, (0, 0, 0), 0), (69, 3, .getfield 64, (0, 11, 672), 0), (72, 1, .iload_n 1, (0, 0, 0), 0), (73, 3, .invokevirtual 149, (98, 1331, 3), 0), (76, 1, .ireturn, (0, 0, 0), 0), (77, 1, .aload_n 0, (0, 0, 0), 0), (78, 3, .getfield 64, (0, 11, 672), 0), (81, 1, .iload_n 1, (0, 0, 0), 0), (82, 3, .invokevirtual 152, (78, 1332, 3), 0), (85, 1, .ireturn, (0, 0, 0), 0), (86, 1, .aload_n 0, (0, 0, 0), 0), (87, 3, .getfield 37, (0, 5, 666), 0), (90, 3, .getfield 155, (5, 6, 483), 0), (93, 1, .iload_n 1, (0, 0, 0), 0), (94, 1, .iaload, (0, 0, 0), 0), (95, 1, .ireturn, (0, 0, 0), 0), (96, 1, .aload_n 0, (0, 0, 0), 0), (97, 3, .getfield 64, (0, 11, 672), 0), (100, 1, .iload_n 1, (0, 0, 0), 0), (101, 3, .invokevirtual 158, (93, 1333, 3), 0), (104, 3, .ifCond .eq 7, (36, 0, 0), 0), (107, 1, .iconst 1, (0, 0, 0), 0), (108, 3, .goto 4, (37, 0, 0), 0), (111, 1, .iconst 0, (0, 0, 0), 0), (112, 1, .ireturn, (0, 0, 0), 0), (113, 1, .aload_n 0, (0, 0, 0), 0), (114, 3, .getfield 64, (0, 11, 672), 0), (117, 1, .iload_n 1, (0, 0, 0), 0), (118, 3, .invokevirtual 161, (94, 1334, 3), 0), (121, 1, .ireturn, (0, 0, 0), 0)]
def am_mK : am_M := ((0, ⟨"AirBed", "look", "(II)I"⟩, prog_1_method_7_code), (3, some .int, 2), (6, 90, 1, 6), am_kI)
set_option maxRecDepth 1000000 in
theorem ag_ckK : am_mK.2.2.2.all (am_chkI am_mK) = true := by decide +kernel
def am_mLt : am_M := ((13, ⟨"AirBedLaw", "look", "(LAirBed;II[J)I"⟩, method_3_code), (5, some .int, 4), (9, 240, 4, 40), [(8, 1, .i2l, (0, 0, 0), 0), (9, 1, .lastore, (0, 0, 0), 0), (10, 3, .goto 11, (3, 0, 0), 0), (21, 1, .iconst 0, (0, 0, 0), 0), (22, 1, .ireturn, (0, 0, 0), 0)])
set_option maxRecDepth 1000000 in
theorem ag_ckT : am_mLt.2.2.2.all (am_chkI am_mLt) = true := by decide +kernel
theorem ag_e_ifT {G : am_G} {M : am_M} {k pc len : Nat} {z : Int} {ls : am_L} {st : List Value} {ks : List am_k} {h : am_H} {nc ns : Nat} {Q : Option Value → List am_k → am_H → Prop} {cc : ClassFile.Cond} {off : Int} {a b c : Nat} {x : Int32} (hn : am_cur M k (pc, len, .ifCond cc off, (a, b, c), z)) (hc : am_cmp cc x 0 = true) (ht : am_tgt M a (pc + off)) (K : am_Ek false G M a ls st ks h nc ns Q) : am_Ek false G M k ls (.int x :: st) ks h nc ns Q := by
  unfold am_Ek
  rw [hn]
  refine am_Ev_one rfl ?_ K
  show am_br M _ _ (am_cmp cc x 0) off ls st ks h nc ns = _
  unfold am_br
  rw [hc, cond_true]
  exact am_jp_ok ht
theorem ag_k148 : am_ks0[148]? = some (.inl am_m98.1.1) := by decide +kernel
theorem ag_k48 : am_ks0[48]? = some (.inl 5) := by decide +kernel
theorem ag_k50 : am_ks0[50]? = some (.inr (.int, 4)) := by decide +kernel
theorem ag_f11 {h : am_H} (hI : ab_Inv (ab_hi ab_tab) h) : h 0 11 = .ref 148 := ab_ref1 hI ac_o0 (by decide +kernel) (by decide +kernel)
theorem ag_f5 {h : am_H} (hI : ab_Inv (ab_hi ab_tab) h) : h 0 5 = .ref 48 := ab_ref1 hI ac_o0 (by decide +kernel) (by decide +kernel)
theorem ag_f48 {h : am_H} (hI : ab_Inv (ab_hi ab_tab) h) : h 48 6 = .ref 50 := ab_ref1 hI ag_k48 (by decide +kernel) (by decide +kernel)
theorem ag_f2 {h : am_H} (hI : ab_Inv (ab_hi ab_tab) h) : h 0 2 = .ref 2 ∨ h 0 2 = .ref 23 := by
  have g := hI 0 2 _ ac_o0 (by decide +kernel)
  rw [show ab_hi ab_tab 0 2 = ab_rf [2, 23] by decide +kernel] at g
  obtain ⟨n, e, hn⟩ := g
  rcases List.mem_cons.mp hn with rfl | hn
  · exact Or.inl e
  · rw [List.mem_singleton.mp hn] at e
    exact Or.inr e
theorem ag_r50 {h : am_H} (hI : ab_Inv (ab_hi ab_tab) h) {q : Nat} (hq : q < 4) : ∃ v : Int32, h 50 q = .int v := by
  obtain ⟨v, e, -⟩ := ac_g hI ag_k50 hq (ac_ar (l := -2147483648) (u := 2147483647) (by decide +kernel) (by decide +kernel) q)
  exact ⟨v, e⟩
def ag_L1 (a : Int32) (h : am_H) : Prop := ∃ n, am_run am_φ false n am_G0 am_m70 (am_m70.2.2.2, lv_args 0 [.ref 0, .int a], [], am_ks0, h, 0, 0) = some (some (.int 0), am_ks0, h)
def ag_L2 (a b : Int32) (h h1 : am_H) : Prop := (∃ n, am_run am_φ false n am_G0 am_m70 (am_m70.2.2.2, lv_args 0 [.ref 0, .int a], [], am_ks0, h, 0, 0) = some (some (.int 1), am_ks0, h)) ∧ (∃ n p, h 0 2 = .ref p ∧ h 0 11 = .ref 148 ∧ h 0 5 = .ref 48 ∧ am_run am_φ false n am_G0 am_m63 (am_m63.2.2.2, lv_args 0 [.ref 148, .ref p, .ref 48], [], am_ks0, h, 0, 0) = some (none, am_ks0, h1)) ∧ (b.toInt < 0 ∨ 4 < b.toInt)
def ag_L3 (a b : Int32) (h : am_H) (v : Int32) (h2 : am_H) : Prop := ∃ n, am_run am_φ false n am_G0 am_mK (am_mK.2.2.2, lv_args 0 [.ref 0, .int a, .int b], [], am_ks0, h, 0, 0) = some (some (.int v), am_ks0, h2)
abbrev ag_P3 : List (ab_P × ab_V) := [((149, 3), ab_i 0 0), ((149, 4), ab_i 0 0), ((149, 5), ab_i (-2147483647) 2147483647)]
section AGT
variable {t : Int32} {h : am_H}
theorem ag_isB (hG : ag_G t h) (a : Int32) : ∃ n, am_run am_φ false n am_G0 am_m70 (am_m70.2.2.2, lv_args 0 [.ref 0, .int a], [], am_ks0, h, 0, 0) = some (some (.int 0), am_ks0, h) ∨ am_run am_φ false n am_G0 am_m70 (am_m70.2.2.2, lv_args 0 [.ref 0, .int a], [], am_ks0, h, 0, 0) = some (some (.int 1), am_ks0, h) ∧ 0 ≤ a.toInt ∧ a.toInt ≤ 3 := by
  obtain ⟨g1, g2, g3, g4, g5⟩ := hG
  obtain ⟨n, ⟨r, ks, h'⟩, hrun, q1, q2, q3, q4, c, hc, q5⟩ := ac_use (M' := am_m70) (as := [.ref 0, .int a]) (ab_h172 (ag_XF t)) rfl ⟨⟨0, rfl, List.mem_singleton.mpr rfl⟩, ab_top_ok _, trivial⟩ g1 ⟨g2, g3, g5⟩ ac_p0
  have e1 : ks = am_ks0 := q1
  have e2 : h' = h := funext fun o => funext fun k => q4 o k rfl
  subst e1; subst e2
  refine ⟨n, ?_⟩
  rcases List.mem_cons.mp hc with rfl | hc
  · refine Or.inr ⟨?_, ?_⟩
    · have e : r = some (.int 1) := ac_g0 q5.1 (v := 1) (by decide)
      rw [← e]
      exact hrun
    · obtain ⟨x, x1, x2⟩ := q5.2.1 _ (List.mem_singleton.mpr rfl)
      have e : some (Value.int a) = some (.int x) := x1
      cases e
      obtain ⟨y, e2, y0, y1⟩ := x2
      cases e2
      exact ⟨y0, y1⟩
  · have e := List.mem_singleton.mp hc
    subst e
    have e : r = some (.int 0) := ac_g0 q5.1 (v := 0) (by decide)
    rw [← e]
    exact Or.inl hrun
theorem ag_begin (hG : ag_G t h) : ∃ n p h1, h 0 2 = .ref p ∧ am_run am_φ false n am_G0 am_m63 (am_m63.2.2.2, lv_args 0 [.ref 148, .ref p, .ref 48], [], am_ks0, h, 0, 0) = some (none, am_ks0, h1) ∧ ag_G t h1 ∧ ab_gPl h1 ag_P3 ∧ ab_Fr ag_mdL h h1 := by
  obtain ⟨g1, g2, g3, g4, g5⟩ := hG
  have key : ∀ (s : ab_Sm) (p : Nat), ab_Con ab_tab (ab_JX (ag_X t)) s → s = (63, [ab_rf [148], ab_rf [p], ab_rf [48]], [((1, 2), ab_rf [p])], [(148, 1), (148, 3), (148, 4), (148, 5), (148, 6), (148, 7), (149, 1), (149, 2), (149, 3), (149, 4), (149, 5), (150, 0), (151, 0), (152, 0)], [(none, [], [((1, 2), ab_rf [p]), ((149, 0), ab_rf [p]), ((149, 3), ab_i 0 0), ((149, 4), ab_i 0 0), ((149, 5), ab_i 2147483647 2147483647), ((149, 6), ab_i 2147483647 2147483647)])]) → h 0 2 = .ref p → ∃ n h1, am_run am_φ false n am_G0 am_m63 (am_m63.2.2.2, lv_args 0 [.ref 148, .ref p, .ref 48], [], am_ks0, h, 0, 0) = some (none, am_ks0, h1) ∧ ag_G t h1 ∧ ab_gPl h1 ag_P3 ∧ ab_Fr ag_mdL h h1 := by
    intro s p hs es ep
    subst es
    obtain ⟨n, ⟨r, ks, h1⟩, hrun, q1, q2, q3, q4, c, hc, q5⟩ := ac_use (M' := am_m63) (as := [.ref 148, .ref p, .ref 48]) hs rfl ⟨⟨148, rfl, List.mem_singleton.mpr rfl⟩, ⟨p, rfl, List.mem_singleton.mpr rfl⟩, ⟨48, rfl, List.mem_singleton.mpr rfl⟩, trivial⟩ g1 ⟨g2, g3, g5⟩ (fun q hq => by
      have e := List.mem_singleton.mp hq
      subst e
      exact ⟨_, congrArg some ep, p, rfl, List.mem_singleton.mpr rfl⟩)
    have e1 : ks = am_ks0 := q1
    subst e1
    have e := List.mem_singleton.mp hc
    subst e
    have hr : r = none := by
      have := q5.1
      cases r with
      | none => rfl
      | some v => exact this.elim
    subst hr
    refine ⟨n, h1, hrun, ⟨q2, q3.1, q3.2.1, (q4 0 1 rfl).trans g4, q3.2.2⟩, fun q hq => ?_, ab_Fr_su (md := [(148, 1), (148, 3), (148, 4), (148, 5), (148, 6), (148, 7), (149, 1), (149, 2), (149, 3), (149, 4), (149, 5), (150, 0), (151, 0), (152, 0)]) (by decide) q4⟩
    have hP := q5.2.2
    rcases List.mem_cons.mp hq with rfl | hq
    · exact hP _ (List.mem_cons_of_mem _ (List.mem_cons_of_mem _ List.mem_cons_self))
    · rcases List.mem_cons.mp hq with rfl | hq
      · exact hP _ (List.mem_cons_of_mem _ (List.mem_cons_of_mem _ (List.mem_cons_of_mem _ List.mem_cons_self)))
      · have e := List.mem_singleton.mp hq
        subst e
        obtain ⟨v, v1, v2⟩ := hP _ (List.mem_cons_of_mem _ (List.mem_cons_of_mem _ (List.mem_cons_of_mem _ (List.mem_cons_of_mem _ List.mem_cons_self))))
        exact ⟨v, v1, ab_le_ok (V := ab_i 2147483647 2147483647) (by decide) v2⟩
  rcases ag_f2 g1 with e | e
  · obtain ⟨n, h1, q1, q2⟩ := key ab_s151 2 (ab_h151 (ag_XF t)) rfl e
    exact ⟨n, 2, h1, e, q1, q2⟩
  · obtain ⟨n, h1, q1, q2⟩ := key ab_s152 23 (ab_h152 (ag_XF t)) rfl e
    exact ⟨n, 23, h1, e, q1, q2⟩
theorem ag_piece {s : ab_Sm} {M' : am_M} (hs : ab_Con ab_tab (ab_JX (ag_X t)) s) (hM : am_prog[s.1]? = some M') (e1 : s.2.1 = [ab_rf [148], ab_i 0 3]) (e2 : s.2.2.1 = ag_P3) (e3 : s.2.2.2.1 = []) (hi : ab_intC s = true) (hG : ag_G t h) (hP : ab_gPl h ag_P3) {a : Int32} (a0 : 0 ≤ a.toInt) (a3 : a.toInt ≤ 3) : am_Ek false am_G0 M' 0 (lv_args 0 [.ref 148, .int a]) [] am_ks0 h 0 0 (fun r ks h' => ks = am_ks0 ∧ h' = h ∧ ∃ x : Int32, r = some (.int x) ∧ ∃ c ∈ s.2.2.2.2, ab_gR c.1 r) := by
  obtain ⟨g1, g2, g3, g4, g5⟩ := hG
  refine am_Ev_mono (ac_use hs hM (by rw [e1]; exact ⟨⟨148, rfl, List.mem_singleton.mpr rfl⟩, ab_i_ok a0 a3, trivial⟩) g1 ⟨g2, g3, g5⟩ (by rw [e2]; exact hP)) (fun r ks h' hq => ?_)
  obtain ⟨q1, q2, q3, q4, c, hc, q5⟩ := hq
  rw [e3] at q4
  obtain ⟨x, hx⟩ := ab_intC_ok hi ⟨c, hc, q5.1⟩
  exact ⟨q1, funext fun o => funext fun k => q4 o k rfl, x, hx, c, hc, q5.1⟩
abbrev ag_QK (t : Int32) (h0 : am_H) : Option Value → List am_k → am_H → Prop := fun r ks h' => ks = am_ks0 ∧ ag_G t h' ∧ (∃ x : Int32, r = some (.int x)) ∧ h' = h0

theorem ag_K12 (hG : ag_G t h) (hP : ab_gPl h ag_P3) {a b : Int32} (a0 : 0 ≤ a.toInt) (a3 : a.toInt ≤ 3) (b0 : 0 ≤ b.toInt) (b4 : b.toInt ≤ 4) : am_Ek false am_G0 am_mK 12 [(0, .ref 0), (1, .int a), (2, .int b)] [.int b] am_ks0 h 0 0 (ag_QK t h) := by
  have hI := hG.1
  have hw : b.toInt = 0 ∨ b.toInt = 1 ∨ b.toInt = 2 ∨ b.toInt = 3 ∨ b.toInt = 4 := by omega
  rcases hw with e | e | e | e | e
  · refine am_e_swI (a := 13) (off := 34) (am_cur_of (i := (34, 34, .tableswitch 88 0 4 #[34, 43, 52, 62, 79], (0, 0, 0), 0)) (by decide +kernel)) (by omega) (by rw [e]; rfl) (by decide +kernel) ?_
    refine am_e_aload_n (am_nxt_of (i := (68, 1, .aload_n 0, (0, 0, 0), 0)) (by decide +kernel)) rfl ?_
    refine am_e_getf (v := .ref 148) (am_nxt_of (i := (69, 3, .getfield 64, (0, 11, 672), 0)) (by decide +kernel)) ac_o0 (ag_f11 hI) ?_
    refine am_e_iload_n (am_nxt_of (i := (72, 1, .iload_n 1, (0, 0, 0), 0)) (by decide +kernel)) rfl ?_
    refine am_e_callV (M' := am_m98) (o := 148) (ar := [.int a]) (rest := []) (L := lv_args 0 [.ref 148, .int a]) (am_nxt_of (i := (73, 3, .invokevirtual 149, (98, 1331, 3), 0)) (by decide +kernel)) rfl rfl rfl rfl ag_k148 rfl rfl rfl ?_
    refine am_Ev_mono (ag_piece (ab_h251 (ag_XF t)) rfl rfl rfl rfl rfl hG hP a0 a3) (fun r ks h1 hq => ?_)
    obtain ⟨rfl, rfl, x, hx, c, hc, hr⟩ := hq
    subst hx
    show am_Ek false am_G0 am_mK 17 [(0, .ref 0), (1, .int a), (2, .int b)] [.int x] am_ks0 h1 0 0 _
    exact am_e_iret (ty := .int) (am_cur_of (i := (76, 1, .ireturn, (0, 0, 0), 0)) (by decide +kernel)) rfl rfl rfl ⟨rfl, hG, ⟨_, rfl⟩, rfl⟩
  · refine am_e_swI (a := 18) (off := 43) (am_cur_of (i := (34, 34, .tableswitch 88 0 4 #[34, 43, 52, 62, 79], (0, 0, 0), 0)) (by decide +kernel)) (by omega) (by rw [e]; rfl) (by decide +kernel) ?_
    refine am_e_aload_n (am_nxt_of (i := (77, 1, .aload_n 0, (0, 0, 0), 0)) (by decide +kernel)) rfl ?_
    refine am_e_getf (v := .ref 148) (am_nxt_of (i := (78, 3, .getfield 64, (0, 11, 672), 0)) (by decide +kernel)) ac_o0 (ag_f11 hI) ?_
    refine am_e_iload_n (am_nxt_of (i := (81, 1, .iload_n 1, (0, 0, 0), 0)) (by decide +kernel)) rfl ?_
    refine am_e_callV (M' := am_m78) (o := 148) (ar := [.int a]) (rest := []) (L := lv_args 0 [.ref 148, .int a]) (am_nxt_of (i := (82, 3, .invokevirtual 152, (78, 1332, 3), 0)) (by decide +kernel)) rfl rfl rfl rfl ag_k148 rfl rfl rfl ?_
    refine am_Ev_mono (ag_piece (ab_h249 (ag_XF t)) rfl rfl rfl rfl rfl hG hP a0 a3) (fun r ks h1 hq => ?_)
    obtain ⟨rfl, rfl, x, hx, c, hc, hr⟩ := hq
    subst hx
    show am_Ek false am_G0 am_mK 22 [(0, .ref 0), (1, .int a), (2, .int b)] [.int x] am_ks0 h1 0 0 _
    exact am_e_iret (ty := .int) (am_cur_of (i := (85, 1, .ireturn, (0, 0, 0), 0)) (by decide +kernel)) rfl rfl rfl ⟨rfl, hG, ⟨_, rfl⟩, rfl⟩
  · refine am_e_swI (a := 23) (off := 52) (am_cur_of (i := (34, 34, .tableswitch 88 0 4 #[34, 43, 52, 62, 79], (0, 0, 0), 0)) (by decide +kernel)) (by omega) (by rw [e]; rfl) (by decide +kernel) ?_
    have hx := ab_ix (x := a) (n := 4) a0 (by omega)
    obtain ⟨v, ev⟩ := ag_r50 hI (q := a.toNatClampNeg) (Nat.lt_of_not_le (fun q => hx (Or.inr q)))
    refine am_e_aload_n (am_nxt_of (i := (86, 1, .aload_n 0, (0, 0, 0), 0)) (by decide +kernel)) rfl ?_
    refine am_e_getf (v := .ref 48) (am_nxt_of (i := (87, 3, .getfield 37, (0, 5, 666), 0)) (by decide +kernel)) ac_o0 (ag_f5 hI) ?_
    refine am_e_getf (v := .ref 50) (am_nxt_of (i := (90, 3, .getfield 155, (5, 6, 483), 0)) (by decide +kernel)) ag_k48 (ag_f48 hI) ?_
    refine am_e_iload_n (am_nxt_of (i := (93, 1, .iload_n 1, (0, 0, 0), 0)) (by decide +kernel)) rfl ?_
    refine am_e_iaload (v := v) (am_nxt_of (i := (94, 1, .iaload, (0, 0, 0), 0)) (by decide +kernel)) ag_k50 hx rfl ev ?_
    exact am_e_iret (ty := .int) (am_cur_of (i := (95, 1, .ireturn, (0, 0, 0), 0)) (by decide +kernel)) rfl rfl rfl ⟨rfl, hG, ⟨_, rfl⟩, rfl⟩
  · refine am_e_swI (a := 29) (off := 62) (am_cur_of (i := (34, 34, .tableswitch 88 0 4 #[34, 43, 52, 62, 79], (0, 0, 0), 0)) (by decide +kernel)) (by omega) (by rw [e]; rfl) (by decide +kernel) ?_
    refine am_e_aload_n (am_nxt_of (i := (96, 1, .aload_n 0, (0, 0, 0), 0)) (by decide +kernel)) rfl ?_
    refine am_e_getf (v := .ref 148) (am_nxt_of (i := (97, 3, .getfield 64, (0, 11, 672), 0)) (by decide +kernel)) ac_o0 (ag_f11 hI) ?_
    refine am_e_iload_n (am_nxt_of (i := (100, 1, .iload_n 1, (0, 0, 0), 0)) (by decide +kernel)) rfl ?_
    refine am_e_callV (M' := am_m93) (o := 148) (ar := [.int a]) (rest := []) (L := lv_args 0 [.ref 148, .int a]) (am_nxt_of (i := (101, 3, .invokevirtual 158, (93, 1333, 3), 0)) (by decide +kernel)) rfl rfl rfl rfl ag_k148 rfl rfl rfl ?_
    refine am_Ev_mono (ag_piece (ab_h248 (ag_XF t)) rfl rfl rfl rfl rfl hG hP a0 a3) (fun r ks h1 hq => ?_)
    obtain ⟨rfl, rfl, x, hx, c, hc, hr⟩ := hq
    have h01 := ac_01 (s := ab_s248) rfl hc hr
    rcases h01 with rfl | rfl
    · show am_Ek false am_G0 am_mK 33 [(0, .ref 0), (1, .int a), (2, .int b)] [.int 0] am_ks0 h1 0 0 _
      refine am_e_ifT (am_nxt_of (i := (104, 3, .ifCond .eq 7, (36, 0, 0), 0)) (by decide +kernel)) (am_c_eqT rfl) (am_tgt_of (by decide +kernel)) ?_
      refine am_e_iconst (w := 0) (am_nxt_of (i := (111, 1, .iconst 0, (0, 0, 0), 0)) (by decide +kernel)) rfl ?_
      exact am_e_iret (ty := .int) (am_cur_of (i := (112, 1, .ireturn, (0, 0, 0), 0)) (by decide +kernel)) rfl rfl rfl ⟨rfl, hG, ⟨_, rfl⟩, rfl⟩
    · show am_Ek false am_G0 am_mK 33 [(0, .ref 0), (1, .int a), (2, .int b)] [.int 1] am_ks0 h1 0 0 _
      refine am_e_ifF (am_nxt_of (i := (104, 3, .ifCond .eq 7, (36, 0, 0), 0)) (by decide +kernel)) (am_c_eqF (by decide)) ?_
      refine am_e_iconst (w := 1) (am_nxt_of (i := (107, 1, .iconst 1, (0, 0, 0), 0)) (by decide +kernel)) rfl ?_
      refine am_e_goto (am_cur_of (i := (108, 3, .goto 4, (37, 0, 0), 0)) (by decide +kernel)) (am_tgt_of (by decide +kernel)) ?_
      exact am_e_iret (ty := .int) (am_cur_of (i := (112, 1, .ireturn, (0, 0, 0), 0)) (by decide +kernel)) rfl rfl rfl ⟨rfl, hG, ⟨_, rfl⟩, rfl⟩
  · refine am_e_swI (a := 38) (off := 79) (am_cur_of (i := (34, 34, .tableswitch 88 0 4 #[34, 43, 52, 62, 79], (0, 0, 0), 0)) (by decide +kernel)) (by omega) (by rw [e]; rfl) (by decide +kernel) ?_
    refine am_e_aload_n (am_nxt_of (i := (113, 1, .aload_n 0, (0, 0, 0), 0)) (by decide +kernel)) rfl ?_
    refine am_e_getf (v := .ref 148) (am_nxt_of (i := (114, 3, .getfield 64, (0, 11, 672), 0)) (by decide +kernel)) ac_o0 (ag_f11 hI) ?_
    refine am_e_iload_n (am_nxt_of (i := (117, 1, .iload_n 1, (0, 0, 0), 0)) (by decide +kernel)) rfl ?_
    refine am_e_callV (M' := am_m94) (o := 148) (ar := [.int a]) (rest := []) (L := lv_args 0 [.ref 148, .int a]) (am_nxt_of (i := (118, 3, .invokevirtual 161, (94, 1334, 3), 0)) (by decide +kernel)) rfl rfl rfl rfl ag_k148 rfl rfl rfl ?_
    refine am_Ev_mono (ag_piece (ab_h253 (ag_XF t)) rfl rfl rfl rfl rfl hG hP a0 a3) (fun r ks h1 hq => ?_)
    obtain ⟨rfl, rfl, x, hx, c, hc, hr⟩ := hq
    subst hx
    show am_Ek false am_G0 am_mK 42 [(0, .ref 0), (1, .int a), (2, .int b)] [.int x] am_ks0 h1 0 0 _
    exact am_e_iret (ty := .int) (am_cur_of (i := (121, 1, .ireturn, (0, 0, 0), 0)) (by decide +kernel)) rfl rfl rfl ⟨rfl, hG, ⟨_, rfl⟩, rfl⟩
theorem ag_look (hG : ag_G t h) (a b : Int32) : ag_L1 a h ∨ (∃ h1, ag_L2 a b h h1 ∧ ag_G t h1 ∧ ab_Fr ag_mdL h h1) ∨ ∃ v h2, ag_L3 a b h v h2 ∧ ag_G t h2 ∧ ab_Fr ag_mdL h h2 := by
  obtain ⟨n, hr | ⟨hr, a0, a3⟩⟩ := ag_isB hG a
  · exact Or.inl ⟨n, hr⟩
  · obtain ⟨n2, p, h1, ep, hr2, hG1, hP, hF⟩ := ag_begin hG
    by_cases hb : b.toInt < 0 ∨ 4 < b.toInt
    · exact Or.inr (Or.inl ⟨h1, ⟨⟨n, hr⟩, ⟨n2, p, ep, ag_f11 hG.1, ag_f5 hG.1, hr2⟩, hb⟩, hG1, hF⟩)
    · refine Or.inr (Or.inr ?_)
      have hE : am_Ek false am_G0 am_mK 0 (lv_args 0 [.ref 0, .int a, .int b]) [] am_ks0 h 0 0 (ag_QK t h1) := by
        refine am_e_aload_n (am_nxt_of (i := (0, 1, .aload_n 0, (0, 0, 0), 0)) (by decide +kernel)) rfl ?_
        refine am_e_iload_n (am_nxt_of (i := (1, 1, .iload_n 1, (0, 0, 0), 0)) (by decide +kernel)) rfl ?_
        refine am_e_callV (M' := am_m70) (o := 0) (ar := [.int a]) (rest := []) (L := lv_args 0 [.ref 0, .int a]) (am_nxt_of (i := (2, 3, .invokevirtual 135, (70, 943, 3), 0)) (by decide +kernel)) rfl rfl rfl rfl ac_o0 rfl rfl rfl ?_
        refine ⟨n, _, hr, ?_⟩
        show am_Ek false am_G0 am_mK 3 [(0, .ref 0), (1, .int a), (2, .int b)] [.int 1] am_ks0 h 0 0 _
        refine ag_e_ifT (am_cur_of (i := (5, 3, .ifCond .ne 13, (4, 0, 0), 0)) (by decide +kernel)) (am_c_neT (by decide)) (am_tgt_of (by decide +kernel)) ?_
        refine am_e_aload_n (am_nxt_of (i := (18, 1, .aload_n 0, (0, 0, 0), 0)) (by decide +kernel)) rfl ?_
        refine am_e_getf (v := .ref 148) (am_nxt_of (i := (19, 3, .getfield 64, (0, 11, 672), 0)) (by decide +kernel)) ac_o0 (ag_f11 hG.1) ?_
        refine am_e_aload_n (am_nxt_of (i := (22, 1, .aload_n 0, (0, 0, 0), 0)) (by decide +kernel)) rfl ?_
        refine am_e_getf (v := .ref p) (am_nxt_of (i := (23, 3, .getfield 18, (0, 2, 663), 0)) (by decide +kernel)) ac_o0 ep ?_
        refine am_e_aload_n (am_nxt_of (i := (26, 1, .aload_n 0, (0, 0, 0), 0)) (by decide +kernel)) rfl ?_
        refine am_e_getf (v := .ref 48) (am_nxt_of (i := (27, 3, .getfield 37, (0, 5, 666), 0)) (by decide +kernel)) ac_o0 (ag_f5 hG.1) ?_
        refine am_e_callV (M' := am_m63) (o := 148) (ar := [.ref 48, .ref p]) (rest := []) (L := lv_args 0 [.ref 148, .ref p, .ref 48]) (am_nxt_of (i := (30, 3, .invokevirtual 146, (63, 912, 3), 0)) (by decide +kernel)) rfl rfl rfl rfl ag_k148 rfl rfl rfl ?_
        refine ⟨n2, _, hr2, ?_⟩
        show am_Ek false am_G0 am_mK 11 [(0, .ref 0), (1, .int a), (2, .int b)] [] am_ks0 h1 0 0 _
        refine am_e_iload_n (am_nxt_of (i := (33, 1, .iload_n 2, (0, 0, 0), 0)) (by decide +kernel)) rfl ?_
        exact ag_K12 hG1 hP a0 a3 (by omega) (by omega)
      obtain ⟨n3, ⟨r, ks, h2⟩, hr3, q1, q2, ⟨v, q3⟩, q4⟩ := hE
      have e1 : ks = am_ks0 := q1
      have e2 : r = some (.int v) := q3
      subst e1; subst e2
      have q4 : h2 = h1 := q4
      exact ⟨v, h2, ⟨n3, hr3⟩, q2, by rw [q4]; exact hF⟩
/-- what the law's look comes to -/
def ag_lkP (a b : Int32) (h : am_H) (r : am_O) : Prop := (ag_L1 a h ∧ r = (some (.int 1), am_ks0, h) ∨ (∃ h1, ag_L2 a b h h1 ∧ r = (some (.int 2), am_ks0, h1)) ∨ ∃ v h2, ag_L3 a b h v h2 ∧ r = (some (.int 0), am_ks0, am_up h2 202 0 (.long v.toInt64))) ∧ ∀ t, ag_G t h → ag_G t r.2.2 ∧ ab_Fr ag_mdL h r.2.2 ∧ (rg_Gd h → rg_Gd r.2.2)
theorem ag_t (hG : ag_G t h) {t' : Int32} (hG' : ag_G t' h) : t' = t := by
  have e := hG'.2.2.2.1
  rw [hG.2.2.2.1] at e
  cases e
  rfl
theorem ag_202 {v : Int64} (hG : ag_G t h) : ag_G t (am_up h 202 0 (.long v)) := by
  obtain ⟨g1, g2, g3, g4, g5⟩ := hG
  have hc : ∀ o k, ¬ o = 202 → am_up h 202 0 (.long v) o k = h o k := fun o k ho => by rw [am_up_other _ _ _ _ _ ho]
  exact ⟨ab_Inv_up g1 (by rw [show ab_hi ab_tab 202 0 = ab_l1 by decide +kernel]; exact ⟨v, rfl⟩), ⟨ab_J1_fr (fun k => hc 12 k (by decide)) (fun k => hc 13 k (by decide)) g2.1, ab_J1_fr (fun k => hc 33 k (by decide)) (fun k => hc 34 k (by decide)) g2.2.1, ab_J2_fr (fun k => hc 143 k (by decide)) (fun k => hc 144 k (by decide)) g2.2.2⟩, ac_Jm_fr (fun o k ho => hc o k (fun e => by subst e; cases ho)) g3, (hc 0 1 (by decide)).trans g4, (hc 164 1 (by decide)).trans g5⟩
theorem ag_dL2 {a b : Int32} {h1 : am_H} (hD : rg_Gd h) (hq : ag_L2 a b h h1) : rg_Gd h1 := by
  obtain ⟨-, ⟨n, p, -, -, -, hr⟩, -⟩ := hq
  have hK : rn_K am_m63.2.2.2 := rn_KM (a := 63) (by decide) rfl
  exact (rn_run n am_m63 _ _ _ h 0 0 _ hK hK hD hr).2
theorem ag_mKK : am_mK.2.2.2.all (rw_I rn_w) = true := by decide +kernel
theorem ag_dL3 {a b v : Int32} {h2 : am_H} (hD : rg_Gd h) (hq : ag_L3 a b h v h2) : rg_Gd (am_up h2 202 0 (.long v.toInt64)) := by
  obtain ⟨n, hr⟩ := hq
  have hK : rn_K am_mK.2.2.2 := List.all_eq_true.mp ag_mKK
  refine rg_up (rn_run n am_mK _ _ _ h 0 0 _ hK hK hD hr).2 ?_
  rw [show rg_c 202 0 = 2 by decide +kernel]
  exact ⟨_, rfl⟩
theorem ag_lkE (hG : ag_G t h) (a b : Int32) : ∃ r, ag_lkP a b h r := by
  rcases ag_look hG a b with h1 | ⟨h1, h2, hG1, hF⟩ | ⟨v, h2, h3, hG2, hF⟩
  · exact ⟨_, Or.inl ⟨h1, rfl⟩, fun t' hG' => ⟨hG', ab_Fr_refl, id⟩⟩
  · exact ⟨_, Or.inr (Or.inl ⟨h1, h2, rfl⟩), fun t' hG' => ⟨by rw [ag_t hG hG']; exact hG1, hF, fun hD => ag_dL2 hD h2⟩⟩
  · exact ⟨_, Or.inr (Or.inr ⟨v, h2, h3, rfl⟩), fun t' hG' => ⟨by rw [ag_t hG hG']; exact ag_202 hG2, ab_Fr_up (by decide) hF, fun hD => ag_dL3 hD h3⟩⟩
end AGT
noncomputable def am_lk : List Value → List am_k → am_H → Option am_O := fun as ks h => @dite _ (∃ (r : am_O) (a b : Int32), as = [.ref 0, .int a, .int b, .ref 202] ∧ ks = am_ks0 ∧ ag_lkP a b h r) (Classical.propDecidable _) (fun hx => some (Classical.choose hx)) (fun _ => none)
theorem ag_lk_spec {as : List Value} {ks : List am_k} {h : am_H} {r : am_O} (e : am_lk as ks h = some r) : ∃ a b : Int32, as = [.ref 0, .int a, .int b, .ref 202] ∧ ks = am_ks0 ∧ ag_lkP a b h r := by
  unfold am_lk at e
  by_cases hx : ∃ (r : am_O) (a b : Int32), as = [.ref 0, .int a, .int b, .ref 202] ∧ ks = am_ks0 ∧ ag_lkP a b h r
  · rw [dif_pos hx] at e
    have h1 := Classical.choose_spec hx
    rw [Option.some.inj e] at h1
    exact h1
  · rw [dif_neg hx] at e
    cases e
theorem ag_LK_ok : ag_LK am_lk := by
  intro t h a b hG
  obtain ⟨r, hr⟩ := ag_lkE hG a b
  have hx : ∃ (r : am_O) (a' b' : Int32), [Value.ref 0, .int a, .int b, .ref 202] = [.ref 0, .int a', .int b', .ref 202] ∧ am_ks0 = am_ks0 ∧ ag_lkP a' b' h r := ⟨r, a, b, rfl, rfl, hr⟩
  have e : am_lk [.ref 0, .int a, .int b, .ref 202] am_ks0 h = some (Classical.choose hx) := by
    unfold am_lk
    rw [dif_pos hx]
  obtain ⟨a', b', -, -, hP⟩ := ag_lk_spec e
  generalize Classical.choose hx = r' at e hP
  obtain ⟨h1, h2⟩ := hP
  rcases h1 with ⟨-, rfl⟩ | ⟨g, -, rfl⟩ | ⟨v, g, -, rfl⟩
  · exact ⟨1, h, e, (h2 t hG).1, (h2 t hG).2.1, (h2 t hG).2.2⟩
  · exact ⟨2, g, e, (h2 t hG).1, (h2 t hG).2.1, (h2 t hG).2.2⟩
  · exact ⟨0, _, e, (h2 t hG).1, (h2 t hG).2.1, (h2 t hG).2.2⟩
