/-! ===== A RUN BY THE CHECK, with more known at its beginning; A HOLE THAT ENDS IN AN INSTRUCTION OF THE CHECK ===== -/
theorem ab_run {T : ab_T} {J : am_H → Prop} {mdo : List (Nat × Nat)} {s : ab_Sm} {cl : List ab_Sm} {fx : List (Nat × Nat)} {ct : List (Option ab_K)} {hs : List Nat} {M : am_M} {as : List Value} {h : am_H} (hJm : ∀ h h', ab_Fr mdo h h' → J h → J h') (hS : ∀ s ∈ cl, ab_Con T J s) (hg : ab_gAs s.2.1 as) (hI : ab_Inv (ab_hi T) h) (hJ : J h) (hp : ab_gPl h s.2.2.1)
    (hH : ∀ t ∈ hs, ab_Hole T J s.2.2.2.1 fx M ct as h (fun r ks h' => ks = am_ks0 ∧ ab_Inv (ab_hi T) h' ∧ J h' ∧ ab_Fr s.2.2.2.1 h h' ∧ ∃ c ∈ s.2.2.2.2, ab_gC c as r h') ab_rnk t)
    (hc : ab_chk T mdo s cl fx ct hs M = true) : am_Ek false am_G0 M 0 (lv_args 0 as) [] am_ks0 h 0 0 (fun r ks h' => ks = am_ks0 ∧ ab_Inv (ab_hi T) h' ∧ J h' ∧ ab_Fr s.2.2.2.1 h h' ∧ ∃ c ∈ s.2.2.2.2, ab_gC c as r h') := by
  unfold ab_chk at hc
  simp only [Bool.and_eq_true] at hc
  obtain ⟨⟨⟨⟨⟨⟨c1, c2⟩, c3⟩, c4⟩, c5⟩, c6⟩, c7⟩ := hc
  split at c6
  · rename_i K hK
    obtain ⟨W, hW, hle⟩ := List.any_eq_true.mp c6
    have hF : ab_gF (ab_argL 0 s.2.1, [], s.2.2.1) (lv_args 0 as) [] h := by
      refine ⟨fun q hq => ?_, trivial, fun q hq => ?_⟩
      · obtain ⟨i, hi⟩ := List.getElem?_of_mem hq
        obtain ⟨v, -, q2, q3⟩ := ab_argL_ok hg hi
        exact ⟨v, q2, q3⟩
      · obtain ⟨v, q1, q2⟩ := hp q hq
        exact ⟨v, ab_at_nil q1, q2⟩
    exact ab_all (as := as) (h0 := h) c3 hJm hS (fun rv h' c i1 i2 i3 i4 i5 => ⟨rfl, i1, i2, i3, c, i4, i5⟩) (Nat.eq_of_beq_eq_true c5) hH c7 ((ab_rnk K (lv_args 0 as) h).toNat + 1) 0 K hK _ _ _ ⟨⟨W, hW, ab_leF_ok hle hF⟩, hI, hJ, ab_Fr_refl, ab_fx0_ok hg c4⟩ (by omega)
  · cases c6
/-- where the outcomes of a step from a frame that knows more lead -/
def ab_exO (T : ab_T) (fx : List (Nat × Nat)) (ct : List (Option ab_K)) (g : ab_F → Option (List ab_O)) (t : Nat) : Bool := match ab_getK ct t with
  | some K => ab_okK T K && K.1.all (fun F => match g F with
    | some outs => outs.all (fun o => match ab_getK ct o.1 with
      | some K' => ab_into T fx K K' o.2.1 o.2.2
      | none => false)
    | none => false)
  | none => false
theorem ab_exO_ok {T : ab_T} {J : am_H → Prop} {md fx : List (Nat × Nat)} {M : am_M} {ct : List (Option ab_K)} {g : ab_F → Option (List ab_O)} {t k : Nat} {as : List Value} {h0 h : am_H} {K : ab_K} {F : ab_F} {ls : am_L} {st st2 : List Value} {Q : Option Value → List am_k → am_H → Prop} (hx : ab_exO T fx ct g t = true) (hK : ab_getK ct t = some K) (hF : F ∈ K.1) (hg : ab_gF F ls st h) (hI : ab_Inv (ab_hi T) h) (hFr : ab_Fr md h0 h) (hfx : ab_fxG fx as ls)
    (hgo : ∀ outs, g F = some outs → ab_Go T J md am_G0 M k ls st2 h 0 0 outs)
    (IH : ∀ t' K', ab_getK ct t' = some K' → ∀ ls' st' h', ab_Sta T J md fx as h0 K' ls' st' h' → ab_rnk K' ls' h' < ab_rnk K ls h → am_Ek false am_G0 M t' ls' st' am_ks0 h' 0 0 Q) : am_Ek false am_G0 M k ls st2 am_ks0 h 0 0 Q := by
  unfold ab_exO at hx
  rw [hK] at hx
  dsimp only at hx
  rw [Bool.and_eq_true] at hx
  obtain ⟨⟨m, hm⟩, -⟩ := ab_okK_ok hx.1 hF hg hI
  have hy := List.all_eq_true.mp hx.2 F hF
  split at hy
  · rename_i outs ho
    obtain ⟨t', F', E, ls', st', h', g1, g2, g3, g4, g5, g6, g7⟩ := hgo outs ho
    have hz := List.all_eq_true.mp hy _ g1
    split at hz
    · rename_i K' hK'
      unfold ab_into at hz
      rw [Bool.and_eq_true, Bool.and_eq_true] at hz
      obtain ⟨⟨x1, x2⟩, x3⟩ := hz
      obtain ⟨W, hW, hle⟩ := List.any_eq_true.mp x1
      refine g7 Q (IH t' K' hK' ls' st' h' ⟨⟨W, hW, ab_leF_ok hle g2⟩, g3, g4, ab_Fr_trans hFr g5, ab_fxE_ok g6 x3 hfx⟩ ?_)
      have hlt := ab_edge_ok hI hg g3 g2 g6 hm x2
      unfold ab_rnk
      exact hlt
    · cases hz
  · cases hy
/-- a call of which more is known than a contract says -/
theorem ab_Go_callV1 {T : ab_T} {J : am_H → Prop} {md : List (Nat × Nat)} {s : ab_Sm} {M M' : am_M} {k : Nat} {r : List am_I} {ls : am_L} {st : List Value} {h : am_H} {F : ab_F} {pc len : Nat} {z : Int} {outs : List ab_O} {idx a b c : Nat} {as : List Value}
    (hc : M.2.2.2.drop k = (pc, len, .invokevirtual idx, (a, b, c + 1), z) :: r) (hx : ab_nx (pc, len, .invokevirtual idx, (a, b, c + 1), z) r = true) (hM : am_prog[a]? = some M') (hz : M'.2.2.1.2.2 = (0, 0)) (has : (st.take (M'.2.1.2.2 + 1)).reverse = as)
    (hrun : am_Ek false am_G0 M' 0 (lv_args 0 as) [] am_ks0 h 0 0 (fun r ks h' => ks = am_ks0 ∧ ab_Inv (ab_hi T) h' ∧ J h' ∧ ab_Fr s.2.2.2.1 h h' ∧ ∃ c ∈ s.2.2.2.2, ab_gC c as r h'))
    (hF : ab_gF F ls st h) (hl : ab_call md [s] M k a false F = some outs) : ab_Go T J md am_G0 M k ls st h 0 0 outs := by
  unfold ab_call at hl
  rw [hM] at hl
  dsimp only at hl
  rw [cond_false] at hl
  have hs1 := ab_gSt_rev (ab_gSt_take (M'.2.1.2.2 + 1) hF.2.1).1
  have hs2 := (ab_gSt_take (M'.2.1.2.2 + 1) hF.2.1).2
  generalize hes : (F.2.1.take (M'.2.1.2.2 + 1)).reverse = es at hl hs1
  generalize hrest : F.2.1.drop (M'.2.1.2.2 + 1) = rest at hl hs2
  unfold ab_call1 at hl
  cases hb : (Nat.beq es.length (M'.2.1.2.2 + 1) && ab_okC M M' es rest && (false || ab_rcv M' es)) with
  | false => rw [hb] at hl; cases hl
  | true =>
    rw [hb, cond_true] at hl
    rw [Bool.and_eq_true, Bool.and_eq_true] at hb
    obtain ⟨⟨hb1, hb2⟩, hb3⟩ := hb
    split at hl
    · rename_i s' hs
      obtain ⟨hs3, hs4⟩ := ab_pick_ok hs
      have es' := List.mem_singleton.mp hs3
      subst es'
      cases hmd : ab_mdle s'.2.2.2.1 md with
      | false => rw [hmd] at hl; cases hl
      | true =>
        rw [hmd, cond_true] at hl
        cases hl
        have hlen : (st.take (M'.2.1.2.2 + 1)).reverse.length = M'.2.1.2.2 + 1 := by
          rw [← ab_gSt_len hs1]
          exact Nat.eq_of_beq_eq_true hb1
        rw [has] at hs1 hlen
        have hok : am_okC M M' as (st.drop (M'.2.1.2.2 + 1)) 0 0 = true := by
          unfold ab_okC at hb2
          simp only [Bool.and_eq_true] at hb2
          obtain ⟨⟨⟨c1, c2⟩, c3⟩, c4⟩ := hb2
          have z1 : M'.2.2.1.2.2.1 = 0 := by rw [hz]
          have z2 : M'.2.2.1.2.2.2 = 0 := by rw [hz]
          unfold am_okC
          rw [← ab_cats_ok hs1, ← ab_cats_ok hs2, c1, c2, c3, c4, z1, z2]
          rfl
        rw [Bool.false_or] at hb3
        unfold ab_rcv at hb3
        split at hb3
        · rename_i e er
          rw [Bool.and_eq_true] at hb3
          match as, hs1, has, hrun, hlen, hok with
          | [], hs1, _, _, _, _ => exact hs1.elim
          | v :: ar, hs1, has, hrun, hlen, hok =>
            obtain ⟨o, rfl, ho⟩ := ab_g4 hb3.1 hs1.1.1
            obtain ⟨h4, h5, h6⟩ := ab_rcv_st (n := M'.2.1.2.2) (by rw [has]; exact hlen) has
            obtain ⟨n, rr, g8, q1, q2, q3, q4, c', q5, q6⟩ := hrun
            obtain ⟨rv, rk, rh⟩ := rr
            dsimp only at q1 q2 q3 q4 q5 q6
            subst q1
            have hg := ab_aft_ok hF.1 hs1 hs2 hF.2.2 q4 q6
            refine ⟨k + 1, _, _, ls, rv.toList ++ st.drop (M'.2.1.2.2 + 1), rh, List.mem_filter.mpr ⟨List.mem_map.mpr ⟨c', q5, rfl⟩, ?_⟩, hg, q2, q3, ab_mdle_Fr hmd q4, ab_Eff_4 q4, fun Q K => ?_⟩
            · show (!ab_dead (ab_aft F (e :: er) rest s'.2.2.2.1 c')) = true
              rw [ab_dead_ok hg]
              rfl
            · refine am_e_callV (ab_nx_ok hc hx) hM rfl h4 (by rw [h6]; exact Nat.beq_refl _) (ab_isO_ok hb3.2 ho) (by rw [← h5]; exact hok) hz (by rw [← h5]) ⟨n, _, g8, ?_⟩
              cases rv with
              | none => exact K
              | some w => exact K
        · cases hb3
    · cases hl
