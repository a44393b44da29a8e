/-! ===== HOLES OF THE CLASS: Cheeks.add, Laws.valueOf (wip/s/tpl/49.tpl, filled by wip/s/fill.py) ===== -/
theorem ab_add_seg {ls : am_L} {h : am_H} {op v n : Int32} {Q : Option Value → List am_k → am_H → Prop} (l0 : am_get ls 0 = some (.ref 142)) (l1 : am_get ls 1 = some (.int op)) (l2 : am_get ls 2 = some (.int v)) (f2 : h 142 2 = .ref 143) (f3 : h 142 3 = .ref 144) (f1 : h 142 0 = .int n) (n0 : 0 ≤ n.toInt) (n1 : n.toInt ≤ 23)
    (K : am_Ek false am_G0 am_m126 18 ls [] am_ks0 (am_up (am_up h 143 n.toNatClampNeg (.int op)) 144 n.toNatClampNeg (.int v)) 0 0 Q) : am_Ek false am_G0 am_m126 6 ls [] am_ks0 h 0 0 Q := by
  have hix := ab_ix (x := n) (n := 24) n0 (by omega)
  have e : ∀ k, am_up h 143 n.toNatClampNeg (.int op) 142 k = h 142 k := fun k => by rw [am_up_other _ _ _ _ _ (by decide)]
  refine am_e_aload_n (am_nxt_of (i := (11, 1, .aload_n 0, (0, 0, 0), 0)) (by decide +kernel)) l0 ?_
  refine am_e_getf (am_nxt_of (i := (12, 3, .getfield 15, (7, 2, 534), 0)) (by decide +kernel)) (by decide +kernel) f2 ?_
  refine am_e_aload_n (am_nxt_of (i := (15, 1, .aload_n 0, (0, 0, 0), 0)) (by decide +kernel)) l0 ?_
  refine am_e_getf (am_nxt_of (i := (16, 3, .getfield 32, (7, 0, 530), 0)) (by decide +kernel)) (by decide +kernel) f1 ?_
  refine am_e_iload_n (am_nxt_of (i := (19, 1, .iload_n 1, (0, 0, 0), 0)) (by decide +kernel)) l1 ?_
  refine am_e_iastore (n := 24) (am_nxt_of (i := (20, 1, .iastore, (0, 0, 0), 0)) (by decide +kernel)) (by decide +kernel) hix rfl ?_
  refine am_e_aload_n (am_nxt_of (i := (21, 1, .aload_n 0, (0, 0, 0), 0)) (by decide +kernel)) l0 ?_
  refine am_e_getf (am_nxt_of (i := (22, 3, .getfield 19, (7, 3, 536), 0)) (by decide +kernel)) (by decide +kernel) ((e 3).trans f3) ?_
  refine am_e_aload_n (am_nxt_of (i := (25, 1, .aload_n 0, (0, 0, 0), 0)) (by decide +kernel)) l0 ?_
  refine am_e_getf (am_nxt_of (i := (26, 3, .getfield 32, (7, 0, 530), 0)) (by decide +kernel)) (by decide +kernel) ((e 0).trans f1) ?_
  refine am_e_iload_n (am_nxt_of (i := (29, 1, .iload_n 2, (0, 0, 0), 0)) (by decide +kernel)) l2 ?_
  refine am_e_iastore (n := 24) (am_nxt_of (i := (30, 1, .iastore, (0, 0, 0), 0)) (by decide +kernel)) (by decide +kernel) hix rfl ?_
  exact K
theorem ab_add_hole {X : am_H → Prop} (hX : ab_XF X) {md fx : List (Nat × Nat)} {ct : List (Option ab_K)} {as : List Value} {h0 : am_H} {Q : Option Value → List am_k → am_H → Prop} {lo hi lv uv : Int}
    (t2 : ab_hi ab_tab 142 2 = (4, 0, 0, [143])) (t3 : ab_hi ab_tab 142 3 = (4, 0, 0, [144])) (ta : ∀ q, ab_hi ab_tab 143 q = ab_i 0 2) (tb : ∀ q, ab_hi ab_tab 144 q = ab_i 0 23)
    (hb : 0 ≤ lo ∧ hi ≤ 2 ∧ 0 ≤ lv ∧ uv ≤ 23) (hpr : ∀ op v : Int32, lo ≤ op.toInt → op.toInt ≤ hi → lv ≤ v.toInt → v.toInt ≤ uv → ¬ op = 2 → 0 ≤ v.toInt ∧ v.toInt ≤ 3)
    (hw : ab_wkB ct 6 ([(0, (4, 0, 0, [142])), (1, ab_i lo hi), (2, ab_i lv uv)], [], [((143, 0), ab_i 0 23)]) = true)
    (hx : ab_exB ab_tab fx ct (fun F => ab_drop [(143, 0), (144, 0)] F F.2.1) (4, (0, 0), none, [(143, 0), (144, 0)]) 6 18 = true) (hm : ab_mdle [(143, 0), (144, 0)] md = true) : ab_Hole ab_tab (ab_JX X) md fx am_m126 ct as h0 Q ab_rnk 6 := by
  intro K hK ls st h hst IH
  obtain ⟨⟨F, hF, hg⟩, hI, hJ, hFr, hfx⟩ := hst
  have hW := ab_wkB_ok hw hK hF hg
  have l0 := ab_locR hW (j := 0) (o := 142) (by simp)
  obtain ⟨op, l1, o1, o2⟩ := ab_locI hW (j := 1) (l := lo) (u := hi) (by simp)
  obtain ⟨v, l2, v1, v2⟩ := ab_locI hW (j := 2) (l := lv) (u := uv) (by simp)
  obtain ⟨n, f1, n0, n1⟩ := ab_plI hW (o := 142) (k := 0) (l := 0) (u := 23) (by simp)
  have hs0 := ab_st0 hW rfl
  subst hs0
  have ho : am_ks0[142]? = some (.inl 7) := by decide +kernel
  have hsz : ab_sz (.inl 7) = 7 := rfl
  have f2 := ab_ref1 hI ho (by rw [hsz]; decide) t2
  have f3 := ab_ref1 hI ho (by rw [hsz]; decide) t3
  refine ab_add_seg l0 l1 l2 f2 f3 f1 n0 n1 ?_
  have hfr : ab_Fr [(143, 0), (144, 0)] h (am_up (am_up h 143 n.toNatClampNeg (.int op)) 144 n.toNatClampNeg (.int v)) := ab_Fr2
  have hI' : ab_Inv (ab_hi ab_tab) (am_up (am_up h 143 n.toNatClampNeg (.int op)) 144 n.toNatClampNeg (.int v)) := ab_Inv_up (ab_Inv_up hI (by rw [ta]; exact ab_i_ok (by omega) (by omega))) (by rw [tb]; exact ab_i_ok (by omega) (by omega))
  have hJ' : ab_JX X (am_up (am_up h 143 n.toNatClampNeg (.int op)) 144 n.toNatClampNeg (.int v)) := by
    refine ⟨⟨?_, ?_, ab_J2_put (by decide) hJ.1.2.2 (hpr op v o1 o2 v1 v2)⟩, hX h _ (fun o' k ho' => ?_) hJ.2⟩
    · exact ab_J1_fr (fun k => by rw [am_up_other _ _ _ _ _ (by decide), am_up_other _ _ _ _ _ (by decide)]) (fun k => by rw [am_up_other _ _ _ _ _ (by decide), am_up_other _ _ _ _ _ (by decide)]) hJ.1.1
    · exact ab_J1_fr (fun k => by rw [am_up_other _ _ _ _ _ (by decide), am_up_other _ _ _ _ _ (by decide)]) (fun k => by rw [am_up_other _ _ _ _ _ (by decide), am_up_other _ _ _ _ _ (by decide)]) hJ.1.2.1
    · rw [am_up_other _ _ _ _ _ (by omega), am_up_other _ _ _ _ _ (by omega)]
  obtain ⟨K', hK', hS', hlt'⟩ := ab_exB_ok hx hK hF hg hI (ab_drop_ok hg.1 hg.2.1 hg.2.2 hfr) hI' hJ' (ab_Fr_trans hFr (ab_mdle_Fr hm hfr)) (ab_Eff_4 hfr) hfx
  exact IH 18 K' hK' ls [] _ hS' hlt'
/-! Laws.valueOf: a knot that is a number or a name is laid -/
def ab_vg (V : ab_V) (F : ab_F) : ab_F := ab_setL F 4 false V F.2.1
def ab_vg2 (o s : Nat) (F : ab_F) : ab_F := match ab_nar (ab_vg (ab_i 0 1) F) (0, 2) (-2147483648) 63 with
  | G => (G.1, [ab_n (1, 0, 0, []), ab_rd (ab_i 0 63) (0, 2), ab_rd (4, 0, 0, [s]) (o + 1, 8)], G.2.2)
theorem ab_val_hole {X : am_H → Prop} {o a b nm s : Nat} {md fx : List (Nat × Nat)} {ct : List (Option ab_K)} {as : List Value} {h0 : am_H} {Q : Option Value → List am_k → am_H → Prop}
    (ho : am_ks0[o]? = some (.inl 2)) (ha : am_ks0[a]? = some (.inr (.int, 64))) (hb : am_ks0[b]? = some (.inr (.int, 64))) (hnm : am_ks0[nm]? = some (.inr (.long, 6)))
    (t2 : ab_hi ab_tab o 2 = (4, 0, 0, [a])) (t3 : ab_hi ab_tab o 3 = (4, 0, 0, [b])) (t7 : ab_hi ab_tab o 7 = (4, 0, 0, [nm])) (t8 : ab_hi ab_tab o 8 = (4, 0, 0, [s])) (ta : ∀ q, ab_hi ab_tab a q = ab_top) (tb : ∀ q, ab_hi ab_tab b q = ab_top) (tn : ∀ q, ab_hi ab_tab nm q = (1, 0, 0, []))
    (hJ1 : ∀ h, ab_Jc h → ab_J1 a b h)
    (hw : ab_wkB ct 13 ([(0, (4, 0, 0, [o])), (2, ab_i 0 64), (3, ab_i 0 63)], [], []) = true)
    (hx1 : ab_exB ab_tab fx ct (fun F => ab_nar (ab_vg (ab_i 0 1) F) (0, 2) 64 2147483647) (1, (0, 4), none, []) 13 26 = true) (hx2 : ab_exB ab_tab fx ct (ab_vg2 o s) (1, (0, 4), none, []) 13 46 = true) (hx3 : ab_exB ab_tab fx ct (ab_vg ab_top) (1, (0, 4), none, []) 13 49 = true) : ab_Hole ab_tab (ab_JX X) md fx am_m66 ct as h0 Q ab_rnk 13 := by
  intro K hK ls st h hst IH
  obtain ⟨⟨F, hF, hg⟩, hI, hJ, hFr, hfx⟩ := hst
  have hW := ab_wkB_ok hw hK hF hg
  have l0 := ab_locR hW (j := 0) (o := o) (by simp)
  obtain ⟨top, l2, p1, p2⟩ := ab_locI hW (j := 2) (l := 0) (u := 64) (by simp)
  obtain ⟨i, l3, i1, i2⟩ := ab_locI hW (j := 3) (l := 0) (u := 63) (by simp)
  have hs0 := ab_st0 hW rfl
  subst hs0
  have hsz : ab_sz (.inl 2) = 9 := rfl
  have f2 := ab_ref1 hI ho (by rw [hsz]; decide) t2
  have f3 := ab_ref1 hI ho (by rw [hsz]; decide) t3
  have f7 := ab_ref1 hI ho (by rw [hsz]; decide) t7
  have f8 := ab_ref1 hI ho (by rw [hsz]; decide) t8
  have hix := ab_ix (x := i) (n := 64) i1 (by omega)
  have hlt : i.toNatClampNeg < 64 := Nat.lt_of_not_le (fun q => hix (Or.inr q))
  have ga := hI a i.toNatClampNeg _ ha hlt
  rw [ta] at ga
  obtain ⟨op, eop, -⟩ := ga
  have gb := hI b i.toNatClampNeg _ hb hlt
  rw [tb] at gb
  obtain ⟨v, ev, -⟩ := gb
  have m0 : am_get (am_set ls 4 (.int op)) 0 = some (.ref o) := ab_set_in (by decide) rfl l0
  have m2 : am_get (am_set ls 4 (.int op)) 2 = some (.int top) := ab_set_in (by decide) rfl l2
  have m3 : am_get (am_set ls 4 (.int op)) 3 = some (.int i) := ab_set_in (by decide) rfl l3
  have m4 : am_get (am_set ls 4 (.int op)) 4 = some (.int op) := am_get_self
  have hE : ab_Eff (1, (0, 4), none, []) ls h (am_set ls 4 (.int op)) h := ab_Eff_1 (fun d y e => by cases e)
  have hset : ∀ V : ab_V, ab_g V (.int op) → ab_gF (ab_vg V F) (am_set ls 4 (.int op)) [] h := fun V hv => ab_setL_ok (two := false) hg.1 hg.2.1 hg.2.2 hv
  refine am_e_aload_n (am_nxt_of (i := (19, 1, .aload_n 0, (0, 0, 0), 0)) (by decide +kernel)) l0 ?_
  refine am_e_getf (am_nxt_of (i := (20, 3, .getfield 9, (2, 2, 167), 0)) (by decide +kernel)) ho f2 ?_
  refine am_e_iload_n (am_nxt_of (i := (23, 1, .iload_n 3, (0, 0, 0), 0)) (by decide +kernel)) l3 ?_
  refine am_e_iaload (am_nxt_of (i := (24, 1, .iaload, (0, 0, 0), 0)) (by decide +kernel)) ha hix rfl eop ?_
  refine am_e_istore (am_nxt_of (i := (25, 2, .istore 4, (0, 0, 0), 0)) (by decide +kernel)) (by decide +kernel) rfl ?_
  refine am_e_iload (am_nxt_of (i := (27, 2, .iload 4, (0, 0, 0), 0)) (by decide +kernel)) m4 ?_
  have hend : op.toInt = 0 ∨ op.toInt = 1 → ∀ w : Int64, top.toInt ≤ 63 → am_Ek false am_G0 am_m66 46 (am_set ls 4 (.int op)) [.long w, .int top, .ref s] am_ks0 h 0 0 Q := by
    intro h01 w htop
    have hG : ab_gF (ab_nar (ab_vg (ab_i 0 1) F) (0, 2) (-2147483648) 63) (am_set ls 4 (.int op)) [] h := ab_nar_ok (hset _ (ab_i_ok (by omega) (by omega))) m2 (ab_32 top).1 htop
    have hG2 : ab_gF (ab_vg2 o s F) (am_set ls 4 (.int op)) [.long w, .int top, .ref s] h := ⟨hG.1, ⟨ab_n_ok ⟨w, rfl⟩, ab_rd_ok (ab_i_ok p1 htop) m2, ab_rd_ok ⟨s, rfl, List.mem_singleton.mpr rfl⟩ (congrArg some f8), trivial⟩, hG.2.2⟩
    obtain ⟨K', hK', hS', hlt'⟩ := ab_exB_ok hx2 hK hF hg hI hG2 hI hJ hFr hE hfx
    exact IH 46 K' hK' _ _ _ hS' hlt'
  have hful : op.toInt = 0 ∨ op.toInt = 1 → ¬ top < 64 → am_Ek false am_G0 am_m66 26 (am_set ls 4 (.int op)) [] am_ks0 h 0 0 Q := by
    intro h01 htop
    rw [Int32.lt_iff_toInt_lt] at htop
    have e64 : (64 : Int32).toInt = 64 := by decide
    have hG := ab_nar_ok (l := 64) (u := 2147483647) (hset (ab_i 0 1) (ab_i_ok (by omega) (by omega))) (p := (0, 2)) m2 (by omega) (ab_32 top).2
    obtain ⟨K', hK', hS', hlt'⟩ := ab_exB_ok hx1 hK hF hg hI hG hI hJ hFr hE hfx
    exact IH 26 K' hK' _ _ _ hS' hlt'
  have e64 : (64 : Int32).toInt = 64 := by decide
  by_cases hz : op = 0
  · subst hz
    refine am_e_ifT (am_nxt_of (i := (29, 3, .ifCond .eq 9, (23, 0, 0), 0)) (by decide +kernel)) (am_c_eqT rfl) (am_tgt_of (by decide +kernel)) ?_
    refine am_e_iload_n (am_nxt_of (i := (38, 1, .iload_n 2, (0, 0, 0), 0)) (by decide +kernel)) m2 ?_
    refine am_e_bipush (w := 64) (am_nxt_of (i := (39, 2, .bipush 64, (0, 0, 0), 0)) (by decide +kernel)) (by decide) ?_
    by_cases htop : top < 64
    · refine am_e_cmpT (am_nxt_of (i := (41, 3, .if_icmp .lt 7, (28, 0, 0), 0)) (by decide +kernel)) (am_c_ltT htop) (am_tgt_of (by decide +kernel)) ?_
      refine am_e_aload_n (am_nxt_of (i := (48, 1, .aload_n 0, (0, 0, 0), 0)) (by decide +kernel)) m0 ?_
      refine am_e_getf (am_nxt_of (i := (49, 3, .getfield 32, (2, 8, 175), 0)) (by decide +kernel)) ho f8 ?_
      refine am_e_iload_n (am_nxt_of (i := (52, 1, .iload_n 2, (0, 0, 0), 0)) (by decide +kernel)) m2 ?_
      refine am_e_iload (am_nxt_of (i := (53, 2, .iload 4, (0, 0, 0), 0)) (by decide +kernel)) m4 ?_
      refine am_e_ifF (am_nxt_of (i := (55, 3, .ifCond .ne 13, (39, 0, 0), 0)) (by decide +kernel)) (am_c_neF rfl) ?_
      refine am_e_aload_n (am_nxt_of (i := (58, 1, .aload_n 0, (0, 0, 0), 0)) (by decide +kernel)) m0 ?_
      refine am_e_getf (am_nxt_of (i := (59, 3, .getfield 15, (2, 3, 168), 0)) (by decide +kernel)) ho f3 ?_
      refine am_e_iload_n (am_nxt_of (i := (62, 1, .iload_n 3, (0, 0, 0), 0)) (by decide +kernel)) m3 ?_
      refine am_e_iaload (am_nxt_of (i := (63, 1, .iaload, (0, 0, 0), 0)) (by decide +kernel)) hb hix rfl ev ?_
      refine am_e_i2l (am_nxt_of (i := (64, 1, .i2l, (0, 0, 0), 0)) (by decide +kernel)) rfl ?_
      refine am_e_goto (am_cur_of (i := (65, 3, .goto 14, (46, 0, 0), 0)) (by decide +kernel)) (am_tgt_of (by decide +kernel)) ?_
      refine hend (Or.inl (by decide)) _ ?_
      rw [Int32.lt_iff_toInt_lt] at htop
      omega
    · refine am_e_cmpF (am_nxt_of (i := (41, 3, .if_icmp .lt 7, (28, 0, 0), 0)) (by decide +kernel)) (am_c_ltF htop) ?_
      exact hful (Or.inl (by decide)) htop
  · refine am_e_ifF (am_nxt_of (i := (29, 3, .ifCond .eq 9, (23, 0, 0), 0)) (by decide +kernel)) (am_c_eqF hz) ?_
    refine am_e_iload (am_nxt_of (i := (32, 2, .iload 4, (0, 0, 0), 0)) (by decide +kernel)) m4 ?_
    refine am_e_iconst (w := 1) (am_nxt_of (i := (34, 1, .iconst 1, (0, 0, 0), 0)) (by decide +kernel)) rfl ?_
    by_cases h1 : op = 1
    · subst h1
      refine am_e_cmpF (am_nxt_of (i := (35, 3, .if_icmp .ne 51, (49, 0, 0), 0)) (by decide +kernel)) (am_c_neF rfl) ?_
      refine am_e_iload_n (am_nxt_of (i := (38, 1, .iload_n 2, (0, 0, 0), 0)) (by decide +kernel)) m2 ?_
      refine am_e_bipush (w := 64) (am_nxt_of (i := (39, 2, .bipush 64, (0, 0, 0), 0)) (by decide +kernel)) (by decide) ?_
      by_cases htop : top < 64
      · refine am_e_cmpT (am_nxt_of (i := (41, 3, .if_icmp .lt 7, (28, 0, 0), 0)) (by decide +kernel)) (am_c_ltT htop) (am_tgt_of (by decide +kernel)) ?_
        refine am_e_aload_n (am_nxt_of (i := (48, 1, .aload_n 0, (0, 0, 0), 0)) (by decide +kernel)) m0 ?_
        refine am_e_getf (am_nxt_of (i := (49, 3, .getfield 32, (2, 8, 175), 0)) (by decide +kernel)) ho f8 ?_
        refine am_e_iload_n (am_nxt_of (i := (52, 1, .iload_n 2, (0, 0, 0), 0)) (by decide +kernel)) m2 ?_
        refine am_e_iload (am_nxt_of (i := (53, 2, .iload 4, (0, 0, 0), 0)) (by decide +kernel)) m4 ?_
        refine am_e_ifT (am_nxt_of (i := (55, 3, .ifCond .ne 13, (39, 0, 0), 0)) (by decide +kernel)) (am_c_neT (by decide)) (am_tgt_of (by decide +kernel)) ?_
        obtain ⟨v', ev', v0, v5⟩ := hJ1 h hJ.1 _ hlt eop
        have hix5 := ab_ix (x := v') (n := 6) v0 (by omega)
        have gn := hI nm v'.toNatClampNeg _ hnm (Nat.lt_of_not_le (fun q => hix5 (Or.inr q)))
        rw [tn] at gn
        obtain ⟨w, ew⟩ := gn
        refine am_e_aload_n (am_nxt_of (i := (68, 1, .aload_n 0, (0, 0, 0), 0)) (by decide +kernel)) m0 ?_
        refine am_e_getf (am_nxt_of (i := (69, 3, .getfield 28, (2, 7, 173), 0)) (by decide +kernel)) ho f7 ?_
        refine am_e_aload_n (am_nxt_of (i := (72, 1, .aload_n 0, (0, 0, 0), 0)) (by decide +kernel)) m0 ?_
        refine am_e_getf (am_nxt_of (i := (73, 3, .getfield 15, (2, 3, 168), 0)) (by decide +kernel)) ho f3 ?_
        refine am_e_iload_n (am_nxt_of (i := (76, 1, .iload_n 3, (0, 0, 0), 0)) (by decide +kernel)) m3 ?_
        refine am_e_iaload (am_nxt_of (i := (77, 1, .iaload, (0, 0, 0), 0)) (by decide +kernel)) hb hix rfl ev' ?_
        refine am_e_laload (am_nxt_of (i := (78, 1, .laload, (0, 0, 0), 0)) (by decide +kernel)) hnm hix5 rfl ew ?_
        refine hend (Or.inr (by decide)) _ ?_
        rw [Int32.lt_iff_toInt_lt] at htop
        omega
      · refine am_e_cmpF (am_nxt_of (i := (41, 3, .if_icmp .lt 7, (28, 0, 0), 0)) (by decide +kernel)) (am_c_ltF htop) ?_
        exact hful (Or.inr (by decide)) htop
    · refine am_e_cmpT (am_nxt_of (i := (35, 3, .if_icmp .ne 51, (49, 0, 0), 0)) (by decide +kernel)) (am_c_neT h1) (am_tgt_of (by decide +kernel)) ?_
      obtain ⟨K', hK', hS', hlt'⟩ := ab_exB_ok hx3 hK hF hg hI (hset ab_top (ab_top_ok op)) hI hJ hFr hE hfx
      exact IH 49 K' hK' _ _ _ hS' hlt'
