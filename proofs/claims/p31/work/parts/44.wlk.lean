/-! ===== THE WHOLE CHECK OF A METHOD ===== -/
/-- what may hold at an instruction, and the rank there -/
abbrev ab_K : Type := List ab_F × Int × List ab_Lp
def ab_k0 : ab_K := ([], 0, [])
def ab_getK (ct : List (Option ab_K)) (t : Nat) : Option ab_K := match ct[t]? with
  | some (some K) => some K
  | _ => none
def ab_isN (c0 : List (Option ab_K)) : Bool := match c0 with
  | some _ :: _ => false
  | _ => true
def ab_inK (c0 : List (Option ab_K)) (cur : ab_K) : ab_K := match c0 with
  | some K :: _ => K
  | _ => cur
theorem ab_inK_n {c0 : List (Option ab_K)} {cur : ab_K} (hn : ab_isN c0 = true) : ab_inK c0 cur = cur := by
  unfold ab_isN at hn
  unfold ab_inK
  split at hn
  · cases hn
  · rfl
theorem ab_notN {ct : List (Option ab_K)} {t : Nat} {cur : ab_K} (hn : ab_isN (ct.drop t) = false) : ∃ K, ab_getK ct t = some K ∧ ab_inK (ct.drop t) cur = K := by
  unfold ab_isN at hn
  split at hn
  · rename_i K l hd
    refine ⟨K, ?_, by rw [hd]; rfl⟩
    have : ct[t]? = some (some K) := by
      rw [← List.head?_drop, hd]
      rfl
    unfold ab_getK
    rw [this]
  · cases hn
theorem ab_inK_get {ct : List (Option ab_K)} {t : Nat} {K cur : ab_K} (hg : ab_getK ct t = some K) : ab_inK (ct.drop t) cur = K := by
  unfold ab_getK at hg
  split at hg
  · rename_i K' hK
    cases hg
    obtain ⟨hl, he⟩ := List.getElem?_eq_some_iff.mp hK
    rw [List.drop_eq_getElem_cons hl, he]
    rfl
  · cases hg
def ab_outsK (T : ab_T) (mdo md : List (Nat × Nat)) (cl : List ab_Sm) (M : am_M) (k : Nat) (i : am_I) (r : List am_I) : List ab_F → Option (List ab_O)
  | [] => some []
  | F :: l => match ab_out T mdo md cl M k i r F, ab_outsK T mdo md cl M k i r l with
    | some a, some b => some (a ++ b)
    | _, _ => none
theorem ab_outsK_ok {T : ab_T} {mdo md : List (Nat × Nat)} {cl : List ab_Sm} {M : am_M} {k : Nat} {i : am_I} {r : List am_I} : ∀ {Fs : List ab_F} {outs : List ab_O} {F : ab_F}, ab_outsK T mdo md cl M k i r Fs = some outs → F ∈ Fs → ∃ o, ab_out T mdo md cl M k i r F = some o ∧ ∀ x ∈ o, x ∈ outs
  | [], _, _, _, hF => by cases hF
  | G :: l, outs, F, ho, hF => by
    unfold ab_outsK at ho
    split at ho
    · rename_i a b ha hb
      cases ho
      rcases List.mem_cons.mp hF with rfl | hF
      · exact ⟨a, ha, fun x hx => List.mem_append_left _ hx⟩
      · obtain ⟨o, h1, h2⟩ := ab_outsK_ok hb hF
        exact ⟨o, h1, fun x hx => List.mem_append_right _ (h2 x hx)⟩
    · cases ho
def ab_into (T : ab_T) (fx : List (Nat × Nat)) (K K' : ab_K) (F' : ab_F) (E : ab_E) : Bool := K'.1.any (fun W => ab_leF F' W) && ab_edge T K.2.1 K.2.2 K'.2.1 K'.2.2 F' E && ab_fxE fx E
def ab_stepK (T : ab_T) (fx : List (Nat × Nat)) (ct : List (Option ab_K)) (k : Nat) (K : ab_K) (nx : Bool) (o : ab_O) : Bool :=
  cond (nx && Nat.beq o.1 (k + 1)) (ab_edge T K.2.1 K.2.2 (K.2.1 - 1) K.2.2 o.2.1 o.2.2 && ab_fxE fx o.2.2) (match ab_getK ct o.1 with
    | some K' => ab_into T fx K K' o.2.1 o.2.2
    | none => false)
def ab_nextK (K : ab_K) (outs : List ab_O) (k : Nat) : ab_K := ((outs.filter (fun o => Nat.beq o.1 (k + 1))).map (fun o => o.2.1), K.2.1 - 1, K.2.2)
def ab_okK (T : ab_T) (K : ab_K) : Bool := K.1.isEmpty || (decide (0 ≤ K.2.1) && K.1.all (fun F => (ab_lpms T F K.2.2).isSome))
def ab_at1 (T : ab_T) (mdo md : List (Nat × Nat)) (cl : List ab_Sm) (cs : List ab_C) (fx : List (Nat × Nat)) (M : am_M) (ct : List (Option ab_K)) (hl : Bool) (i : am_I) (r : List am_I) (k : Nat) (K : ab_K) (nx : Bool) : Option ab_K :=
  cond (ab_okK T K) (cond hl (some ab_k0) (cond (ab_isEnd i) (cond (K.1.all (fun F => ab_ret M fx cs i F)) (some ab_k0) none) (match ab_outsK T mdo md cl M k i r K.1 with
    | none => none
    | some outs => cond (outs.all (fun o => ab_stepK T fx ct k K nx o)) (some (cond nx (ab_nextK K outs k) ab_k0)) none))) none
def ab_walk (T : ab_T) (mdo md : List (Nat × Nat)) (cl : List ab_Sm) (cs : List ab_C) (fx : List (Nat × Nat)) (M : am_M) (ct : List (Option ab_K)) (hs : List Nat) : List am_I → Nat → ab_K → List (Option ab_K) → Bool
  | [], _, cur, c0 => (ab_inK c0 cur).1.isEmpty
  | i :: r, k, cur, c0 => match ab_at1 T mdo md cl cs fx M ct (!ab_isN c0 && hs.any (fun t => Nat.beq t k)) i r k (ab_inK c0 cur) (ab_isN c0.tail) with
    | none => false
    | some K' => ab_walk T mdo md cl cs fx M ct hs r (k + 1) K' c0.tail
def ab_Sta (T : ab_T) (J : am_H → Prop) (md fx : List (Nat × Nat)) (as : List Value) (h0 : am_H) (K : ab_K) (ls : am_L) (st : List Value) (h : am_H) : Prop :=
  (∃ F ∈ K.1, ab_gF F ls st h) ∧ ab_Inv (ab_hi T) h ∧ J h ∧ ab_Fr md h0 h ∧ ab_fxG fx as ls
/-- by hand: from here the run ends, if it does from all that lies below -/
def ab_Hole (T : ab_T) (J : am_H → Prop) (md fx : List (Nat × Nat)) (M : am_M) (ct : List (Option ab_K)) (as : List Value) (h0 : am_H) (Q : Option Value → List am_k → am_H → Prop) (rk : ab_K → am_L → am_H → Int) (t : Nat) : Prop :=
  ∀ K, ab_getK ct t = some K → ∀ ls st h, ab_Sta T J md fx as h0 K ls st h → (∀ t' K', ab_getK ct t' = some K' → ∀ ls' st' h', ab_Sta T J md fx as h0 K' ls' st' h' → rk K' ls' h' < rk K ls h → am_Ek false am_G0 M t' ls' st' am_ks0 h' 0 0 Q) → am_Ek false am_G0 M t ls st am_ks0 h 0 0 Q
def ab_rnk (K : ab_K) (ls : am_L) (h : am_H) : Int := K.2.1 + ab_lvs ls h K.2.2
section ABW
variable {T : ab_T} {J : am_H → Prop} {md mdo fx : List (Nat × Nat)} {cl : List ab_Sm} {cs : List ab_C} {M : am_M} {ct : List (Option ab_K)} {hs : List Nat} {as : List Value} {h0 : am_H}
theorem ab_okK_ok {K : ab_K} {ls : am_L} {st : List Value} {h : am_H} (hk : ab_okK T K = true) {F : ab_F} (hF : F ∈ K.1) (hg : ab_gF F ls st h) (hI : ab_Inv (ab_hi T) h) : (∃ m, ab_lpms T F K.2.2 = some m) ∧ 0 ≤ ab_rnk K ls h := by
  unfold ab_okK at hk
  rw [Bool.or_eq_true] at hk
  rcases hk with hk | hk
  · rw [List.isEmpty_iff] at hk
    rw [hk] at hF
    cases hF
  rw [Bool.and_eq_true] at hk
  obtain ⟨m, hm⟩ := Option.isSome_iff_exists.mp (List.all_eq_true.mp hk.2 F hF)
  refine ⟨⟨m, hm⟩, ?_⟩
  have h1 := of_decide_eq_true hk.1
  have h2 := (ab_lpms_ok hI hg hm).1
  unfold ab_rnk
  omega
theorem ab_at1_ok {i : am_I} {r : List am_I} {k : Nat} {K K' : ab_K} {nx hl : Bool} (ha : ab_at1 T mdo md cl cs fx M ct hl i r k K nx = some K') : ab_okK T K = true := by
  unfold ab_at1 at ha
  cases hk : ab_okK T K with
  | true => rfl
  | false => rw [hk] at ha; cases ha
theorem ab_seg {N : Int} {Q : Option Value → List am_k → am_H → Prop} (hm : ab_mdle mdo md = true) (hJm : ∀ h h', ab_Fr mdo h h' → J h → J h') (hS : ∀ s ∈ cl, ab_Con T J s)
    (hQ : ∀ rv h' c, ab_Inv (ab_hi T) h' → J h' → ab_Fr md h0 h' → c ∈ cs → ab_gC c as rv h' → Q rv am_ks0 h')
    (hH : ∀ t ∈ hs, ab_Hole T J md fx M ct as h0 Q ab_rnk t)
    (IH : ∀ t K', ab_getK ct t = some K' → ∀ ls st h, ab_Sta T J md fx as h0 K' ls st h → ab_rnk K' ls h < N → am_Ek false am_G0 M t ls st am_ks0 h 0 0 Q) :
    ∀ (cd : List am_I) (k : Nat) (cur : ab_K), M.2.2.2.drop k = cd → ab_walk T mdo md cl cs fx M ct hs cd k cur (ct.drop k) = true → ∀ ls st h, ab_Sta T J md fx as h0 (ab_inK (ct.drop k) cur) ls st h → ab_rnk (ab_inK (ct.drop k) cur) ls h ≤ N → am_Ek false am_G0 M k ls st am_ks0 h 0 0 Q := by
  intro cd
  induction cd with
  | nil =>
    intro k cur hc hw ls st h hst hr
    obtain ⟨⟨F, hF, -⟩, -⟩ := hst
    unfold ab_walk at hw
    rw [List.isEmpty_iff] at hw
    rw [hw] at hF
    cases hF
  | cons i r ih =>
    intro k cur hc hw ls st h hst hr
    unfold ab_walk at hw
    split at hw
    · cases hw
    · rename_i K' hat
      cases hhl : (!ab_isN (ct.drop k) && hs.any (fun t => Nat.beq t k)) with
      | true =>
        rw [Bool.and_eq_true] at hhl
        obtain ⟨t, ht, he⟩ := List.any_eq_true.mp hhl.2
        have e1 := Nat.eq_of_beq_eq_true he
        subst e1
        obtain ⟨K, hK1, hK2⟩ := ab_notN (cur := cur) (by simpa using hhl.1)
        rw [hK2] at hst hr
        exact hH t ht K hK1 ls st h hst (fun t' K' hg ls' st' h' hs' hlt => IH t' K' hg ls' st' h' hs' (by omega))
      | false =>
      rw [hhl] at hat
      generalize hK : ab_inK (ct.drop k) cur = K at hat hst hr
      have hok := ab_at1_ok hat
      obtain ⟨⟨F, hF, hg⟩, hI, hJ, hFr, hfx⟩ := hst
      obtain ⟨⟨m, hlm⟩, hnn⟩ := ab_okK_ok hok hF hg hI
      unfold ab_at1 at hat
      rw [hok, cond_true, cond_false] at hat
      cases he : ab_isEnd i with
      | true =>
        rw [he, cond_true] at hat
        cases hall : K.1.all (fun F => ab_ret M fx cs i F) with
        | false => rw [hall] at hat; cases hat
        | true =>
          have hret := List.all_eq_true.mp hall F hF
          exact ab_ret_ok hc rfl hg hfx hret (fun rv c hcm hgc => hQ rv h c hI hJ hFr hcm hgc)
      | false =>
        rw [he, cond_false] at hat
        split at hat
        · cases hat
        · rename_i outs houts
          cases hall : outs.all (fun o => ab_stepK T fx ct k K (ab_isN (ct.drop k).tail) o) with
          | false => rw [hall] at hat; cases hat
          | true =>
            rw [hall, cond_true] at hat
            have hat := Option.some.inj hat
            obtain ⟨o, ho1, ho2⟩ := ab_outsK_ok houts hF
            obtain ⟨t, F', E, ls', st', h', g1, g2, g3, g4, g5, g6, g7⟩ := ab_out_ok (nc := 0) (ns := 0) hm hJm hS hc rfl hI hJ hg ho1
            refine g7 Q ?_
            have hx := List.all_eq_true.mp hall _ (ho2 _ g1)
            unfold ab_stepK at hx
            cases hn : (ab_isN (ct.drop k).tail && Nat.beq t (k + 1)) with
            | true =>
              rw [hn, cond_true] at hx
              rw [Bool.and_eq_true] at hx hn
              have et : t = k + 1 := Nat.eq_of_beq_eq_true hn.2
              subst et
              rw [hn.1, cond_true] at hat
              have htl : (ct.drop k).tail = ct.drop (k + 1) := List.tail_drop
              rw [htl] at hw hn
              have hdr : M.2.2.2.drop (k + 1) = r := by
                rw [← List.drop_drop, hc]
                rfl
              have hlt := ab_edge_ok hI hg g3 g2 g6 hlm hx.1
              refine ih (k + 1) K' hdr hw ls' st' h' ?_ ?_
              · rw [ab_inK_n hn.1, ← hat]
                exact ⟨⟨F', List.mem_map.mpr ⟨(k + 1, F', E), List.mem_filter.mpr ⟨ho2 _ g1, Nat.beq_refl _⟩, rfl⟩, g2⟩, g3, g4, ab_Fr_trans hFr g5, ab_fxE_ok g6 hx.2 hfx⟩
              · rw [ab_inK_n hn.1, ← hat]
                unfold ab_rnk at hr ⊢
                show K.2.1 - 1 + ab_lvs ls' h' K.2.2 ≤ N
                omega
            | false =>
              rw [hn, cond_false] at hx
              split at hx
              · rename_i K2 hK2
                unfold ab_into at hx
                rw [Bool.and_eq_true, Bool.and_eq_true] at hx
                obtain ⟨⟨x1, x2⟩, x3⟩ := hx
                obtain ⟨W, hW, hle⟩ := List.any_eq_true.mp x1
                have hlt := ab_edge_ok hI hg g3 g2 g6 hlm x2
                refine IH t K2 hK2 ls' st' h' ⟨⟨W, hW, ab_leF_ok hle g2⟩, g3, g4, ab_Fr_trans hFr g5, ab_fxE_ok g6 x3 hfx⟩ ?_
                unfold ab_rnk at hr ⊢
                omega
              · cases hx
theorem ab_walk_at : ∀ (cd : List am_I) (k : Nat) (cur : ab_K) (c0 : List (Option ab_K)), ab_walk T mdo md cl cs fx M ct hs cd k cur c0 = true → ∀ j, j ≤ cd.length → ∃ cur', ab_walk T mdo md cl cs fx M ct hs (cd.drop j) (k + j) cur' (c0.drop j) = true
  | cd, k, cur, c0, hw, 0, _ => ⟨cur, hw⟩
  | [], _, _, _, _, j + 1, hj => by simp at hj
  | i :: r, k, cur, c0, hw, j + 1, hj => by
    unfold ab_walk at hw
    split at hw
    · cases hw
    · rename_i K' hat
      obtain ⟨cur', h'⟩ := ab_walk_at r (k + 1) K' c0.tail hw j (by simp at hj; omega)
      refine ⟨cur', ?_⟩
      have e1 : k + (j + 1) = k + 1 + j := by omega
      have e2 : c0.drop (j + 1) = c0.tail.drop j := by rw [← List.drop_one, List.drop_drop, Nat.add_comm]
      rw [e1, e2]
      exact h'
theorem ab_all {Q : Option Value → List am_k → am_H → Prop} (hm : ab_mdle mdo md = true) (hJm : ∀ h h', ab_Fr mdo h h' → J h → J h') (hS : ∀ s ∈ cl, ab_Con T J s)
    (hQ : ∀ rv h' c, ab_Inv (ab_hi T) h' → J h' → ab_Fr md h0 h' → c ∈ cs → ab_gC c as rv h' → Q rv am_ks0 h') (hl : ct.length = M.2.2.2.length)
    (hH : ∀ t ∈ hs, ab_Hole T J md fx M ct as h0 Q ab_rnk t)
    (hw : ab_walk T mdo md cl cs fx M ct hs M.2.2.2 0 ab_k0 ct = true) : ∀ (N : Nat) (t : Nat) (K' : ab_K), ab_getK ct t = some K' → ∀ ls st h, ab_Sta T J md fx as h0 K' ls st h → ab_rnk K' ls h < N → am_Ek false am_G0 M t ls st am_ks0 h 0 0 Q := by
  intro N
  induction N with
  | zero =>
    intro t K' hK ls st h hst hr
    have ht : t < ct.length := by
      unfold ab_getK at hK
      split at hK
      · rename_i hq
        exact (List.getElem?_eq_some_iff.mp hq).1
      · cases hK
    obtain ⟨cur', hw'⟩ := ab_walk_at _ _ _ _ hw t (by omega)
    have hlt : t < M.2.2.2.length := by omega
    rw [List.drop_eq_getElem_cons hlt] at hw'
    unfold ab_walk at hw'
    split at hw'
    · cases hw'
    · rename_i K2 hat
      rw [ab_inK_get hK] at hat
      obtain ⟨⟨F, hF, hg⟩, hI, -⟩ := hst
      have := (ab_okK_ok (ab_at1_ok hat) hF hg hI).2
      omega
  | succ N ih =>
    intro t K' hK ls st h hst hr
    have ht : t < ct.length := by
      unfold ab_getK at hK
      split at hK
      · rename_i hq
        exact (List.getElem?_eq_some_iff.mp hq).1
      · cases hK
    obtain ⟨cur', hw'⟩ := ab_walk_at _ _ _ _ hw t (by omega)
    rw [Nat.zero_add] at hw'
    have e := ab_inK_get (cur := cur') hK
    exact ab_seg (N := N) hm hJm hS hQ hH ih (M.2.2.2.drop t) t cur' rfl hw' ls st h (by rw [e]; exact hst) (by rw [e]; omega)
end ABW
/-- all that the kernel is asked of a method -/
def ab_chk (T : ab_T) (mdo : List (Nat × Nat)) (s : ab_Sm) (cl : List ab_Sm) (fx : List (Nat × Nat)) (ct : List (Option ab_K)) (hs : List Nat) (M : am_M) : Bool :=
  Nat.beq M.2.2.1.2.2.1 0 && Nat.beq M.2.2.1.2.2.2 0 && ab_mdle mdo s.2.2.2.1 && ab_fx0 s.2.1 fx && Nat.beq ct.length M.2.2.2.length && (match ab_getK ct 0 with
    | some K => K.1.any (fun W => ab_leF (ab_argL 0 s.2.1, [], s.2.2.1) W)
    | none => false) && ab_walk T mdo s.2.2.2.1 cl s.2.2.2.2 fx M ct hs M.2.2.2 0 ab_k0 ct
theorem ab_conH {T : ab_T} {J : am_H → Prop} {mdo : List (Nat × Nat)} {s : ab_Sm} {cl : List ab_Sm} {fx : List (Nat × Nat)} {ct : List (Option ab_K)} {hs : List Nat} {M : am_M} (hM : am_prog[s.1]? = some M) (hJm : ∀ h h', ab_Fr mdo h h' → J h → J h') (hS : ∀ s ∈ cl, ab_Con T J s)
    (hH : ∀ (as : List Value) (h0 : am_H), ab_gAs s.2.1 as → ∀ t ∈ hs, ab_Hole T J s.2.2.2.1 fx M ct as h0 (fun r ks h' => ks = am_ks0 ∧ ab_Inv (ab_hi T) h' ∧ J h' ∧ ab_Fr s.2.2.2.1 h0 h' ∧ ∃ c ∈ s.2.2.2.2, ab_gC c as r h') ab_rnk t)
    (hc : ab_chk T mdo s cl fx ct hs M = true) : ab_Con T J s := by
  unfold ab_chk at hc
  simp only [Bool.and_eq_true] at hc
  obtain ⟨⟨⟨⟨⟨⟨c1, c2⟩, c3⟩, c4⟩, c5⟩, c6⟩, c7⟩ := hc
  refine ⟨M, hM, Prod.ext (Nat.eq_of_beq_eq_true c1) (Nat.eq_of_beq_eq_true c2), fun as h hg hI hJ hp => ?_⟩
  split at c6
  · rename_i K hK
    obtain ⟨W, hW, hle⟩ := List.any_eq_true.mp c6
    have hF : ab_gF (ab_argL 0 s.2.1, [], s.2.2.1) (lv_args 0 as) [] h := by
      refine ⟨fun q hq => ?_, trivial, fun q hq => ?_⟩
      · obtain ⟨i, hi⟩ := List.getElem?_of_mem hq
        obtain ⟨v, -, q2, q3⟩ := ab_argL_ok hg hi
        exact ⟨v, q2, q3⟩
      · obtain ⟨v, q1, q2⟩ := hp q hq
        exact ⟨v, ab_at_nil q1, q2⟩
    exact ab_all (as := as) (h0 := h) c3 hJm hS (fun rv h' c i1 i2 i3 i4 i5 => ⟨rfl, i1, i2, i3, c, i4, i5⟩) (Nat.eq_of_beq_eq_true c5) (hH as h hg) c7 ((ab_rnk K (lv_args 0 as) h).toNat + 1) 0 K hK _ _ _ ⟨⟨W, hW, ab_leF_ok hle hF⟩, hI, hJ, ab_Fr_refl, ab_fx0_ok hg c4⟩ (by omega)
  · cases c6
theorem ab_con {T : ab_T} {J : am_H → Prop} {mdo : List (Nat × Nat)} {s : ab_Sm} {cl : List ab_Sm} {fx : List (Nat × Nat)} {ct : List (Option ab_K)} {M : am_M} (hM : am_prog[s.1]? = some M) (hJm : ∀ h h', ab_Fr mdo h h' → J h → J h') (hS : ∀ s ∈ cl, ab_Con T J s) (hc : ab_chk T mdo s cl fx ct [] M = true) : ab_Con T J s :=
  ab_conH hM hJm hS (fun _ _ _ t ht => absurd ht List.not_mem_nil) hc
/-! ===== HOLES: what is asked at their ends ===== -/
def ab_exB (T : ab_T) (fx : List (Nat × Nat)) (ct : List (Option ab_K)) (g : ab_F → ab_F) (E : ab_E) (t t' : Nat) : Bool := match ab_getK ct t, ab_getK ct t' with
  | some K, some K' => ab_okK T K && K.1.all (fun F => ab_into T fx K K' (g F) E)
  | _, _ => false
theorem ab_exB_ok {T : ab_T} {J : am_H → Prop} {md fx : List (Nat × Nat)} {ct : List (Option ab_K)} {g : ab_F → ab_F} {E : ab_E} {t t' : Nat} {as : List Value} {h0 h h' : am_H} {K : ab_K} {F : ab_F} {ls ls' : am_L} {st st' : List Value} (hx : ab_exB T fx ct g E t t' = true) (hK : ab_getK ct t = some K) (hF : F ∈ K.1) (hg : ab_gF F ls st h) (hI : ab_Inv (ab_hi T) h) (hg' : ab_gF (g F) ls' st' h') (hI' : ab_Inv (ab_hi T) h') (hJ' : J h') (hFr : ab_Fr md h0 h') (hE : ab_Eff E ls h ls' h') (hfx : ab_fxG fx as ls) : ∃ K', ab_getK ct t' = some K' ∧ ab_Sta T J md fx as h0 K' ls' st' h' ∧ ab_rnk K' ls' h' < ab_rnk K ls h := by
  unfold ab_exB at hx
  rw [hK] at hx
  split at hx
  · rename_i K1 K' e1 hK'
    cases e1
    rw [Bool.and_eq_true] at hx
    obtain ⟨⟨m, hm⟩, -⟩ := ab_okK_ok hx.1 hF hg hI
    have hy := List.all_eq_true.mp hx.2 F hF
    unfold ab_into at hy
    rw [Bool.and_eq_true, Bool.and_eq_true] at hy
    obtain ⟨⟨x1, x2⟩, x3⟩ := hy
    obtain ⟨W, hW, hle⟩ := List.any_eq_true.mp x1
    refine ⟨K', hK', ⟨⟨W, hW, ab_leF_ok hle hg'⟩, hI', hJ', hFr, ab_fxE_ok hE x3 hfx⟩, ?_⟩
    have hlt := ab_edge_ok hI hg hI' hg' hE hm x2
    unfold ab_rnk
    exact hlt
  · cases hx
/-- what all frames of an instruction know -/
def ab_wkB (ct : List (Option ab_K)) (t : Nat) (W : ab_F) : Bool := match ab_getK ct t with
  | some K => K.1.all (fun F => ab_leF F W)
  | none => false
theorem ab_wkB_ok {ct : List (Option ab_K)} {t : Nat} {W F : ab_F} {K : ab_K} {ls : am_L} {st : List Value} {h : am_H} (hw : ab_wkB ct t W = true) (hK : ab_getK ct t = some K) (hF : F ∈ K.1) (hg : ab_gF F ls st h) : ab_gF W ls st h := by
  unfold ab_wkB at hw
  rw [hK] at hw
  exact ab_leF_ok (List.all_eq_true.mp hw F hF) hg
