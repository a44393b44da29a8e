/-! ===== HOLES OF THE CLASS: Laws.put, Cheeks.add ===== -/
theorem ab_ref1 {T : ab_T} {h : am_H} {o k a : Nat} {kd : am_k} (hI : ab_Inv (ab_hi T) h) (hk : am_ks0[o]? = some kd) (hz : k < ab_sz kd) (ht : ab_hi T o k = (4, 0, 0, [a])) : h o k = .ref a := by
  have hg := hI o k kd hk hz
  rw [ht] at hg
  obtain ⟨n, e, hn⟩ := hg
  rw [e, List.mem_singleton.mp hn]
theorem ab_loc1 {W : ab_F} {ls : am_L} {st : List Value} {h : am_H} (hg : ab_gF W ls st h) {j : Nat} {V : ab_V} (hm : (j, V) ∈ W.1) : ∃ v, am_get ls j = some v ∧ ab_g V v := hg.1 (j, V) hm
theorem ab_locI {W : ab_F} {ls : am_L} {st : List Value} {h : am_H} (hg : ab_gF W ls st h) {j : Nat} {l u : Int} (hm : (j, ab_i l u) ∈ W.1) : ∃ x : Int32, am_get ls j = some (.int x) ∧ l ≤ x.toInt ∧ x.toInt ≤ u := by
  obtain ⟨v, g1, x, rfl, g2, g3⟩ := hg.1 (j, ab_i l u) hm
  exact ⟨x, g1, g2, g3⟩
theorem ab_locR {W : ab_F} {ls : am_L} {st : List Value} {h : am_H} (hg : ab_gF W ls st h) {j o : Nat} (hm : (j, ((4, 0, 0, [o]) : ab_V)) ∈ W.1) : am_get ls j = some (.ref o) := by
  obtain ⟨v, g1, n, rfl, g2⟩ := hg.1 (j, (4, 0, 0, [o])) hm
  rw [g1, List.mem_singleton.mp g2]
theorem ab_plI {W : ab_F} {ls : am_L} {st : List Value} {h : am_H} (hg : ab_gF W ls st h) {o k : Nat} {l u : Int} (hm : ((o + 1, k), ab_i l u) ∈ W.2.2) : ∃ x : Int32, h o k = .int x ∧ l ≤ x.toInt ∧ x.toInt ≤ u := by
  obtain ⟨v, g1, x, rfl, g2, g3⟩ := hg.2.2 ((o + 1, k), ab_i l u) hm
  exact ⟨x, Option.some.inj g1, g2, g3⟩
theorem ab_st0 {W : ab_F} {ls : am_L} {st : List Value} {h : am_H} (hg : ab_gF W ls st h) (he : W.2.1 = []) : st = [] := by
  have hs := hg.2.1
  rw [he] at hs
  cases st with
  | nil => rfl
  | cons => exact hs.elim
theorem ab_Fr2 {a b q : Nat} {h : am_H} {v w : Value} : ab_Fr [(a, 0), (b, 0)] h (am_up (am_up h a q v) b q w) := by
  refine ab_Fr_up ?_ (ab_Fr_up ?_ ab_Fr_refl)
  · unfold ab_in
    simp [List.any]
  · unfold ab_in
    simp [List.any]
/-- instructions 4 to 15 of Laws.put -/
theorem ab_put_seg {o a b : Nat} {ls : am_L} {h : am_H} {op v n : Int32} {Q : Option Value → List am_k → am_H → Prop} (ho : am_ks0[o]? = some (.inl 2)) (ha : am_ks0[a]? = some (.inr (.int, 64))) (hb : am_ks0[b]? = some (.inr (.int, 64))) (hoa : ¬ o = a)
    (l0 : am_get ls 0 = some (.ref o)) (l1 : am_get ls 1 = some (.int op)) (l2 : am_get ls 2 = some (.int v)) (f2 : h o 2 = .ref a) (f3 : h o 3 = .ref b) (f1 : h o 1 = .int n) (n0 : 0 ≤ n.toInt) (n1 : n.toInt ≤ 63)
    (K : am_Ek false am_G0 am_m48 16 ls [] am_ks0 (am_up (am_up h a n.toNatClampNeg (.int op)) b n.toNatClampNeg (.int v)) 0 0 Q) : am_Ek false am_G0 am_m48 4 ls [] am_ks0 h 0 0 Q := by
  have hix := ab_ix (x := n) (n := 64) n0 (by omega)
  have e : ∀ k, am_up h a n.toNatClampNeg (.int op) o k = h o k := fun k => by rw [am_up_other _ _ _ _ _ hoa]
  refine am_e_aload_n (am_nxt_of (i := (9, 1, .aload_n 0, (0, 0, 0), 0)) (by decide +kernel)) l0 ?_
  refine am_e_getf (am_nxt_of (i := (10, 3, .getfield 9, (2, 2, 167), 0)) (by decide +kernel)) ho f2 ?_
  refine am_e_aload_n (am_nxt_of (i := (13, 1, .aload_n 0, (0, 0, 0), 0)) (by decide +kernel)) l0 ?_
  refine am_e_getf (am_nxt_of (i := (14, 3, .getfield 39, (2, 1, 166), 0)) (by decide +kernel)) ho f1 ?_
  refine am_e_iload_n (am_nxt_of (i := (17, 1, .iload_n 1, (0, 0, 0), 0)) (by decide +kernel)) l1 ?_
  refine am_e_iastore (am_nxt_of (i := (18, 1, .iastore, (0, 0, 0), 0)) (by decide +kernel)) ha hix rfl ?_
  refine am_e_aload_n (am_nxt_of (i := (19, 1, .aload_n 0, (0, 0, 0), 0)) (by decide +kernel)) l0 ?_
  refine am_e_getf (am_nxt_of (i := (20, 3, .getfield 15, (2, 3, 168), 0)) (by decide +kernel)) ho ((e 3).trans f3) ?_
  refine am_e_aload_n (am_nxt_of (i := (23, 1, .aload_n 0, (0, 0, 0), 0)) (by decide +kernel)) l0 ?_
  refine am_e_getf (am_nxt_of (i := (24, 3, .getfield 39, (2, 1, 166), 0)) (by decide +kernel)) ho ((e 1).trans f1) ?_
  refine am_e_iload_n (am_nxt_of (i := (27, 1, .iload_n 2, (0, 0, 0), 0)) (by decide +kernel)) l2 ?_
  refine am_e_iastore (am_nxt_of (i := (28, 1, .iastore, (0, 0, 0), 0)) (by decide +kernel)) hb hix rfl ?_
  exact K
theorem ab_put_hole {X : am_H → Prop} (hX : ab_XF X) {o a b : Nat} {md fx : List (Nat × Nat)} {ct : List (Option ab_K)} {as : List Value} {h0 : am_H} {Q : Option Value → List am_k → am_H → Prop} {lo hi lv uv : Int}
    (ho : am_ks0[o]? = some (.inl 2)) (ha : am_ks0[a]? = some (.inr (.int, 64))) (hb : am_ks0[b]? = some (.inr (.int, 64))) (hoa : ¬ o = a) (hlt : a < 164 ∧ b < 164)
    (t2 : ab_hi ab_tab o 2 = (4, 0, 0, [a])) (t3 : ab_hi ab_tab o 3 = (4, 0, 0, [b])) (ta : ∀ q, ab_hi ab_tab a q = ab_top) (tb : ∀ q, ab_hi ab_tab b q = ab_top)
    (hpr : ∀ op v : Int32, lo ≤ op.toInt → op.toInt ≤ hi → lv ≤ v.toInt → v.toInt ≤ uv → op = 1 → 0 ≤ v.toInt ∧ v.toInt ≤ 5)
    (hJp : ∀ (h : am_H) (q : Nat) (op v : Int32), (op = 1 → 0 ≤ v.toInt ∧ v.toInt ≤ 5) → ab_Jc h → ab_Jc (am_up (am_up h a q (.int op)) b q (.int v)))
    (hw : ab_wkB ct 4 ([(0, (4, 0, 0, [o])), (1, ab_i lo hi), (2, ab_i lv uv)], [], [((o + 1, 1), ab_i 0 63)]) = true)
    (hx : ab_exB ab_tab fx ct (fun F => ab_drop [(a, 0), (b, 0)] F F.2.1) (4, (0, 0), none, [(a, 0), (b, 0)]) 4 16 = true) (hm : ab_mdle [(a, 0), (b, 0)] md = true) : ab_Hole ab_tab (ab_JX X) md fx am_m48 ct as h0 Q ab_rnk 4 := by
  intro K hK ls st h hst IH
  obtain ⟨⟨F, hF, hg⟩, hI, hJ, hFr, hfx⟩ := hst
  have hW := ab_wkB_ok hw hK hF hg
  have l0 := ab_locR hW (j := 0) (o := o) (by simp)
  obtain ⟨op, l1, o1, o2⟩ := ab_locI hW (j := 1) (l := lo) (u := hi) (by simp)
  obtain ⟨v, l2, v1, v2⟩ := ab_locI hW (j := 2) (l := lv) (u := uv) (by simp)
  obtain ⟨n, f1, n0, n1⟩ := ab_plI hW (o := o) (k := 1) (l := 0) (u := 63) (by simp)
  have hs0 := ab_st0 hW rfl
  subst hs0
  have hsz : ab_sz (.inl 2) = 9 := rfl
  have f2 := ab_ref1 hI ho (by rw [hsz]; decide) t2
  have f3 := ab_ref1 hI ho (by rw [hsz]; decide) t3
  refine ab_put_seg ho ha hb hoa l0 l1 l2 f2 f3 f1 n0 n1 ?_
  have hfr : ab_Fr [(a, 0), (b, 0)] h (am_up (am_up h a n.toNatClampNeg (.int op)) b n.toNatClampNeg (.int v)) := ab_Fr2
  have hI' : ab_Inv (ab_hi ab_tab) (am_up (am_up h a n.toNatClampNeg (.int op)) b n.toNatClampNeg (.int v)) := ab_Inv_up (ab_Inv_up hI (by rw [ta]; exact ab_top_ok _)) (by rw [tb]; exact ab_top_ok _)
  have hJ' : ab_JX X (am_up (am_up h a n.toNatClampNeg (.int op)) b n.toNatClampNeg (.int v)) := by
    refine ⟨hJp h _ op v (hpr op v o1 o2 v1 v2) hJ.1, hX h _ (fun o' k ho' => ?_) hJ.2⟩
    rw [am_up_other _ _ _ _ _ (by omega), am_up_other _ _ _ _ _ (by omega)]
  obtain ⟨K', hK', hS', hlt'⟩ := ab_exB_ok hx hK hF hg hI (ab_drop_ok hg.1 hg.2.1 hg.2.2 hfr) hI' hJ' (ab_Fr_trans hFr (ab_mdle_Fr hm hfr)) (ab_Eff_4 hfr) hfx
  exact IH 16 K' hK' ls [] _ hS' hlt'
