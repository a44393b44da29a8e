/-! a call: which of the given contracts it takes -/
def ab_fits (s : ab_Sm) (a : Nat) (es : List ab_S) (F : ab_F) : Bool := Nat.beq s.1 a && ab_leAs es s.2.1 && ab_leP F.2.2 s.2.2.1
def ab_pick (cl : List ab_Sm) (a : Nat) (es : List ab_S) (F : ab_F) : Option ab_Sm := match cl with
  | [] => none
  | s :: r => cond (ab_fits s a es F) (some s) (ab_pick r a es F)
theorem ab_pick_ok {a : Nat} {es : List ab_S} {F : ab_F} {s : ab_Sm} : ∀ {cl : List ab_Sm}, ab_pick cl a es F = some s → s ∈ cl ∧ ab_fits s a es F = true
  | [], hh => by cases hh
  | w :: r, hh => by
    unfold ab_pick at hh
    cases hb : ab_fits w a es F with
    | true =>
      rw [hb, cond_true] at hh
      cases hh
      exact ⟨List.mem_cons_self, hb⟩
    | false =>
      rw [hb, cond_false] at hh
      have := ab_pick_ok hh
      exact ⟨List.mem_cons_of_mem _ this.1, this.2⟩
/-- the room -/
def ab_okC (M M' : am_M) (es rest : List ab_S) : Bool :=
  Nat.ble (M'.2.2.1.1 + 1) M.2.2.1.1 && Nat.ble (8 + (M'.2.1.1 + 11) + M'.2.2.1.2.1) M.2.2.1.2.1 && Nat.ble (ab_cats rest) 8 && Nat.ble (ab_cats es) M'.2.1.1
def ab_rcv (M' : am_M) (es : List ab_S) : Bool := match es with
  | e :: _ => Nat.beq e.1.1 4 && ab_isO e.1.2.2.2 M'.1.1
  | [] => false
def ab_call1 (md : List (Nat × Nat)) (cl : List ab_Sm) (M M' : am_M) (k a : Nat) (stc : Bool) (n : Nat) (F : ab_F) (es rest : List ab_S) : Option (List ab_O) :=
  cond (Nat.beq es.length n && ab_okC M M' es rest && (stc || ab_rcv M' es)) (match ab_pick cl a es F with
      | some s => cond (ab_mdle s.2.2.2.1 md) (some ((s.2.2.2.2.map (fun c => (k + 1, ab_aft F es rest s.2.2.2.1 c, (4, (0, 0), none, s.2.2.2.1)))).filter (fun o => !ab_dead o.2.1))) none
      | none => none) none
def ab_call (md : List (Nat × Nat)) (cl : List ab_Sm) (M : am_M) (k a : Nat) (stc : Bool) (F : ab_F) : Option (List ab_O) := match am_prog[a]? with
  | none => none
  | some M' => ab_call1 md cl M M' k a stc (cond stc M'.2.1.2.2 (M'.2.1.2.2 + 1)) F (F.2.1.take (cond stc M'.2.1.2.2 (M'.2.1.2.2 + 1))).reverse (F.2.1.drop (cond stc M'.2.1.2.2 (M'.2.1.2.2 + 1)))
section ABK
variable {T : ab_T} {J : am_H → Prop} {md : List (Nat × Nat)} {cl : List ab_Sm} {M : am_M} {k : Nat} {r : List am_I} {ls : am_L} {st : List Value} {h : am_H} {nc ns : Nat} {F : ab_F} {pc len : Nat} {z : Int} {outs : List ab_O}
theorem ab_call_in {a : Nat} {stc : Bool} (hS : ∀ s ∈ cl, ab_Con T J s) (hr : (Nat.ble nc M.2.2.1.2.2.1 && Nat.ble ns M.2.2.1.2.2.2) = true) (hI : ab_Inv (ab_hi T) h) (hJ : J h) (hF : ab_gF F ls st h) (hl : ab_call md cl M k a stc F = some outs) :
    ∃ (M' : am_M) (as sr : List Value), am_prog[a]? = some M' ∧ M'.2.2.1.2.2 = (0, 0) ∧ as = (st.take (cond stc M'.2.1.2.2 (M'.2.1.2.2 + 1))).reverse ∧ sr = st.drop (cond stc M'.2.1.2.2 (M'.2.1.2.2 + 1)) ∧ as.length = cond stc M'.2.1.2.2 (M'.2.1.2.2 + 1) ∧ am_okC M M' as sr nc ns = true ∧ (stc = false → ∃ o ar, as = .ref o :: ar ∧ am_ks0[o]? = some (.inl M'.1.1)) ∧
      am_Ek false am_G0 M' 0 (lv_args 0 as) [] am_ks0 h 0 0 (fun r ks h' => ks = am_ks0 ∧ ab_Inv (ab_hi T) h' ∧ J h' ∧ ∃ F' E, (k + 1, F', E) ∈ outs ∧ ab_Fr md h h' ∧ ab_gF F' ls (r.toList ++ sr) h' ∧ ab_Eff E ls h ls h') := by
  unfold ab_call at hl
  split at hl
  · cases hl
  · rename_i M' hM'
    generalize hn : cond stc M'.2.1.2.2 (M'.2.1.2.2 + 1) = n at hl
    have hs1 := ab_gSt_rev (ab_gSt_take n hF.2.1).1
    have hs2 := (ab_gSt_take n hF.2.1).2
    generalize hes : (F.2.1.take n).reverse = es at hl hs1
    generalize hrest : F.2.1.drop n = rest at hl hs2
    unfold ab_call1 at hl
    cases hb : (Nat.beq es.length n && ab_okC M M' es rest && (stc || ab_rcv M' es)) with
    | false => rw [hb] at hl; cases hl
    | true =>
      rw [hb, cond_true] at hl
      rw [Bool.and_eq_true, Bool.and_eq_true] at hb
      obtain ⟨⟨hb1, hb2⟩, hb3⟩ := hb
      split at hl
      · rename_i s hs
        obtain ⟨hs3, hs4⟩ := ab_pick_ok hs
        unfold ab_fits at hs4
        rw [Bool.and_eq_true, Bool.and_eq_true] at hs4
        obtain ⟨⟨hs4, hs5⟩, hs6⟩ := hs4
        cases hmd : ab_mdle s.2.2.2.1 md with
        | false => rw [hmd] at hl; cases hl
        | true =>
          rw [hmd, cond_true] at hl
          cases hl
          obtain ⟨M2, hM2, hz, hcon⟩ := hS s hs3
          rw [Nat.eq_of_beq_eq_true hs4, hM'] at hM2
          cases hM2
          have hlen : (st.take n).reverse.length = n := by
            rw [← ab_gSt_len hs1]
            exact Nat.eq_of_beq_eq_true hb1
          refine ⟨M', (st.take n).reverse, st.drop n, hM', hz, by rw [hn], by rw [hn], by rw [hn]; exact hlen, ?_, ?_, ?_⟩
          · unfold ab_okC at hb2
            simp only [Bool.and_eq_true] at hb2 hr
            obtain ⟨⟨⟨c1, c2⟩, c3⟩, c4⟩ := hb2
            have z1 : M'.2.2.1.2.2.1 = 0 := by rw [hz]
            have z2 : M'.2.2.1.2.2.2 = 0 := by rw [hz]
            unfold am_okC
            rw [← ab_cats_ok hs1, ← ab_cats_ok hs2, c1, c2, c3, c4, z1, z2, Nat.add_zero, Nat.add_zero, hr.1, hr.2]
            rfl
          · intro hstc
            subst hstc
            rw [Bool.false_or] at hb3
            unfold ab_rcv at hb3
            split at hb3
            · rename_i e er
              rw [Bool.and_eq_true] at hb3
              match hv : (st.take n).reverse, hs1 with
              | [], hs1 => exact hs1.elim
              | v :: vr, hs1 =>
                obtain ⟨o, rfl, ho⟩ := ab_g4 hb3.1 hs1.1.1
                exact ⟨o, vr, rfl, ab_isO_ok hb3.2 ho⟩
            · cases hb3
          · refine am_Ev_mono (hcon _ h (ab_leAs_ok hs5 hs1) hI hJ (ab_leP_ok hs6 hF.2.2)) (fun r ks h' hq => ?_)
            obtain ⟨q1, q2, q3, q4, c, q5, q6⟩ := hq
            have hg := ab_aft_ok hF.1 hs1 hs2 hF.2.2 q4 q6
            refine ⟨q1, q2, q3, _, _, List.mem_filter.mpr ⟨List.mem_map.mpr ⟨c, q5, rfl⟩, ?_⟩, ab_mdle_Fr hmd q4, hg, ab_Eff_4 q4⟩
            show (!ab_dead (ab_aft F es rest s.2.2.2.1 c)) = true
            rw [ab_dead_ok hg]
            rfl
      · cases hl
theorem ab_Go_callS {idx a b c : Nat} (hc : M.2.2.2.drop k = (pc, len, .invokestatic idx, (a, b, c + 3), z) :: r) (hx : ab_nx (pc, len, .invokestatic idx, (a, b, c + 3), z) r = true) (hS : ∀ s ∈ cl, ab_Con T J s) (hr : (Nat.ble nc M.2.2.1.2.2.1 && Nat.ble ns M.2.2.1.2.2.2) = true) (hI : ab_Inv (ab_hi T) h) (hJ : J h) (hF : ab_gF F ls st h) (hl : ab_call md cl M k a true F = some outs) : ab_Go T J md am_G0 M k ls st h nc ns outs := by
  obtain ⟨M', as, sr, g1, g2, g3, g4, g5, g6, -, n, rr, g8, g9⟩ := ab_call_in hS hr hI hJ hF hl
  obtain ⟨q1, q2, q3, F', E, q4, q5, q6, q7⟩ := g9
  obtain ⟨rv, rk, rh⟩ := rr
  dsimp only at q1 q2 q3 q5 q6 q7
  subst q1
  refine ⟨k + 1, F', E, ls, rv.toList ++ sr, rh, q4, q6, q2, q3, q5, q7, fun Q K => ?_⟩
  have g3' : (st.take M'.2.1.2.2).reverse = as := g3.symm
  have g4' : st.drop M'.2.1.2.2 = sr := g4.symm
  refine am_e_callS (ab_nx_ok hc hx) g1 rfl g4' ?_ ?_ g2 (congrArg (lv_args 0) g3') ⟨n, _, g8, ?_⟩
  · have : (st.take M'.2.1.2.2).length = M'.2.1.2.2 := by
      rw [← List.length_reverse, g3']
      exact g5
    rw [this]
    exact Nat.beq_refl _
  · rw [g3']; exact g6
  · cases rv with
    | none => exact K
    | some w => exact K
theorem ab_rcv_st {n o : Nat} {ar : List Value} (hl : ((st.take (n + 1)).reverse).length = n + 1) (ha : (st.take (n + 1)).reverse = .ref o :: ar) : st.drop n = .ref o :: st.drop (n + 1) ∧ ar = (st.take n).reverse ∧ (st.take n).length = n := by
  have hlt : n < st.length := by
    rw [List.length_reverse, List.length_take] at hl
    omega
  have h1 : st.take (n + 1) = st.take n ++ [st[n]] := by rw [List.take_succ_eq_append_getElem hlt]
  rw [h1, List.reverse_append] at ha
  have ha : st[n] :: (st.take n).reverse = .ref o :: ar := ha
  have e1 := (List.cons.inj ha).1
  have e2 := (List.cons.inj ha).2
  refine ⟨?_, e2.symm, ?_⟩
  · rw [List.drop_eq_getElem_cons hlt, e1]
  · rw [List.length_take]; omega
theorem ab_Go_callV {idx a b c : Nat} (hc : M.2.2.2.drop k = (pc, len, .invokevirtual idx, (a, b, c + 1), z) :: r) (hx : ab_nx (pc, len, .invokevirtual idx, (a, b, c + 1), z) r = true) (hS : ∀ s ∈ cl, ab_Con T J s) (hr : (Nat.ble nc M.2.2.1.2.2.1 && Nat.ble ns M.2.2.1.2.2.2) = true) (hI : ab_Inv (ab_hi T) h) (hJ : J h) (hF : ab_gF F ls st h) (hl : ab_call md cl M k a false F = some outs) : ab_Go T J md am_G0 M k ls st h nc ns outs := by
  obtain ⟨M', as, sr, g1, g2, g3, g4, g5, g6, g7, n, rr, g8, g9⟩ := ab_call_in hS hr hI hJ hF hl
  obtain ⟨q1, q2, q3, F', E, q4, q5, q6, q7⟩ := g9
  obtain ⟨rv, rk, rh⟩ := rr
  dsimp only at q1 q2 q3 q5 q6 q7
  subst q1
  obtain ⟨o, ar, e1, e2⟩ := g7 rfl
  rw [cond_false] at g3 g4 g5
  subst e1
  have h3 := ab_rcv_st (by rw [← g3]; exact g5) g3.symm
  obtain ⟨h4, h5, h6⟩ := h3
  refine ⟨k + 1, F', E, ls, rv.toList ++ sr, rh, q4, q6, q2, q3, q5, q7, fun Q K => ?_⟩
  rw [← g4] at h4
  refine am_e_callV (ab_nx_ok hc hx) g1 rfl h4 (by rw [h6]; exact Nat.beq_refl _) e2 (by rw [← h5]; exact g6) g2 (by rw [← h5]) ⟨n, _, g8, ?_⟩
  cases rv with
  | none => exact K
  | some w => exact K
theorem ab_Go_callI {idx a b c : Nat} (hc : M.2.2.2.drop k = (pc, len, .invokespecial idx, (a, b, c + 1), z) :: r) (hx : ab_nx (pc, len, .invokespecial idx, (a, b, c + 1), z) r = true) (hS : ∀ s ∈ cl, ab_Con T J s) (hr : (Nat.ble nc M.2.2.1.2.2.1 && Nat.ble ns M.2.2.1.2.2.2) = true) (hI : ab_Inv (ab_hi T) h) (hJ : J h) (hF : ab_gF F ls st h) (hl : ab_call md cl M k a false F = some outs) : ab_Go T J md am_G0 M k ls st h nc ns outs := by
  obtain ⟨M', as, sr, g1, g2, g3, g4, g5, g6, g7, n, rr, g8, g9⟩ := ab_call_in hS hr hI hJ hF hl
  obtain ⟨q1, q2, q3, F', E, q4, q5, q6, q7⟩ := g9
  obtain ⟨rv, rk, rh⟩ := rr
  dsimp only at q1 q2 q3 q5 q6 q7
  subst q1
  obtain ⟨o, ar, e1, e2⟩ := g7 rfl
  rw [cond_false] at g3 g4 g5
  subst e1
  have h3 := ab_rcv_st (by rw [← g3]; exact g5) g3.symm
  obtain ⟨h4, h5, h6⟩ := h3
  refine ⟨k + 1, F', E, ls, rv.toList ++ sr, rh, q4, q6, q2, q3, q5, q7, fun Q K => ?_⟩
  rw [← g4] at h4
  refine am_e_callI (ab_nx_ok hc hx) g1 rfl h4 (by rw [h6]; exact Nat.beq_refl _) e2 (by rw [← h5]; exact g6) g2 (by rw [← h5]) ⟨n, _, g8, ?_⟩
  cases rv with
  | none => exact K
  | some w => exact K
end ABK
