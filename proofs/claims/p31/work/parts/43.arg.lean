/-! ===== A METHOD'S BEGINNING AND ITS ENDS ===== -/
def ab_argL : Nat → List ab_V → List (Nat × ab_V)
  | _, [] => []
  | n, V :: Vs => (n, V) :: ab_argL (cond (ab_isLg V) (n + 2) (n + 1)) Vs
theorem ab_cat2 {n : Nat} {V : ab_V} {v : Value} (hg : ab_g V v) : (if v.category = 2 then n + 2 else n + 1) = cond (ab_isLg V) (n + 2) (n + 1) := by
  cases hL : ab_isLg V with
  | false =>
    rw [ab_cat_g hL hg]
    rfl
  | true =>
    obtain ⟨x, rfl⟩ := ab_gL hL hg
    rfl
theorem ab_argL_ge : ∀ {Vs : List ab_V} {n : Nat} {q : Nat × ab_V}, q ∈ ab_argL n Vs → n ≤ q.1
  | [], _, _, hq => by cases hq
  | V :: Vs, n, q, hq => by
    rcases List.mem_cons.mp hq with rfl | hq
    · exact Nat.le_refl _
    · have := ab_argL_ge hq
      cases hL : ab_isLg V <;> rw [hL] at this <;> simp only [cond_true, cond_false] at this <;> omega
theorem ab_argL_ok : ∀ {Vs : List ab_V} {vs : List Value} {n i : Nat} {q : Nat × ab_V}, ab_gAs Vs vs → (ab_argL n Vs)[i]? = some q → ∃ v, vs[i]? = some v ∧ am_get (lv_args n vs) q.1 = some v ∧ ab_g q.2 v
  | [], [], n, i, q, _, hq => by simp [ab_argL] at hq
  | [], _ :: _, _, _, _, hg, _ => hg.elim
  | _ :: _, [], _, _, _, hg, _ => hg.elim
  | V :: Vs, v :: vs, n, 0, q, hg, hq => by
    have hq : some (n, V) = some q := hq
    cases hq
    exact ⟨v, rfl, am_get_self, hg.1⟩
  | V :: Vs, v :: vs, n, i + 1, q, hg, hq => by
    have hq : (ab_argL (cond (ab_isLg V) (n + 2) (n + 1)) Vs)[i]? = some q := hq
    have hge := ab_argL_ge (List.mem_of_getElem? hq)
    rw [← ab_cat2 hg.1] at hq
    obtain ⟨w, q1, q2, q3⟩ := ab_argL_ok hg.2 hq
    refine ⟨w, q1, ?_, q3⟩
    show am_get ((n, v) :: lv_args (if v.category = 2 then n + 2 else n + 1) vs) q.1 = some w
    rw [am_get_ne]
    · exact q2
    · cases hL : ab_isLg V <;> rw [hL] at hge <;> simp only [cond_true, cond_false] at hge <;> omega
/-- arguments that stay as they were: (argument, local) -/
def ab_fxG (fx : List (Nat × Nat)) (as : List Value) (ls : am_L) : Prop := ∀ w ∈ fx, ∃ x : Int32, as[w.1]? = some (.int x) ∧ am_get ls w.2 = some (.int x)
def ab_fx0 (Vs : List ab_V) (fx : List (Nat × Nat)) : Bool := fx.all (fun w => match (ab_argL 0 Vs)[w.1]? with
  | some q => Nat.beq q.1 w.2 && Nat.beq q.2.1 0
  | none => false)
theorem ab_fx0_ok {Vs : List ab_V} {fx : List (Nat × Nat)} {as : List Value} (hg : ab_gAs Vs as) (h0 : ab_fx0 Vs fx = true) : ab_fxG fx as (lv_args 0 as) := by
  intro w hw
  have h1 := List.all_eq_true.mp h0 w hw
  split at h1
  · rename_i q hq
    rw [Bool.and_eq_true] at h1
    obtain ⟨v, q1, q2, q3⟩ := ab_argL_ok hg hq
    obtain ⟨x, rfl, -⟩ := ab_gI h1.2 q3
    rw [Nat.eq_of_beq_eq_true h1.1] at q2
    exact ⟨x, q1, q2⟩
  · cases h1
def ab_fxE (fx : List (Nat × Nat)) (E : ab_E) : Bool := fx.all (fun w => match ab_dl E (0, w.2) with
  | some d => decide (d = 0)
  | none => false)
theorem ab_fxE_ok {fx : List (Nat × Nat)} {E : ab_E} {as : List Value} {ls ls' : am_L} {h h' : am_H} (hE : ab_Eff E ls h ls' h') (he : ab_fxE fx E = true) (hf : ab_fxG fx as ls) : ab_fxG fx as ls' := by
  intro w hw
  have h1 := List.all_eq_true.mp he w hw
  split at h1
  · rename_i d hd
    obtain ⟨x, q1, q2⟩ := hf w hw
    obtain ⟨y, g1, g2⟩ := hE (0, w.2) d x hd q2
    have h1 := of_decide_eq_true h1
    have : y = x := Int32.toInt_inj.mp (by omega)
    subst this
    exact ⟨y, q1, g1⟩
  · cases h1
/-- an end that this frame falls under -/
def ab_leC (fx : List (Nat × Nat)) (F : ab_F) (V : Option ab_V) (c : ab_C) : Bool := (match V, c.1 with
    | none, none => true
    | some V, some W => ab_le V W
    | _, _ => false) && c.2.1.all (fun q => fx.any (fun w => Nat.beq w.1 q.1 && match ab_loc F.1 w.2 with
      | some V => ab_le V q.2
      | none => false)) && ab_leP F.2.2 c.2.2
theorem ab_leC_ok {fx : List (Nat × Nat)} {F : ab_F} {V : Option ab_V} {c : ab_C} {as : List Value} {ls : am_L} {st : List Value} {h : am_H} {r : Option Value} (hl : ab_leC fx F V c = true) (hF : ab_gF F ls st h) (hf : ab_fxG fx as ls) (hr : ab_gR V r) : ab_gC c as r h := by
  unfold ab_leC at hl
  rw [Bool.and_eq_true, Bool.and_eq_true] at hl
  obtain ⟨⟨h1, h2⟩, h3⟩ := hl
  refine ⟨?_, fun q hq => ?_, ab_leP_ok h3 hF.2.2⟩
  · unfold ab_gR at hr ⊢
    split at h1
    · rename_i e1
      rw [e1]
      exact hr
    · rename_i V' W e1
      rw [e1]
      cases r with
      | none => exact hr.elim
      | some v => exact ab_le_ok h1 hr
    · cases h1
  · obtain ⟨w, hw, hb⟩ := List.any_eq_true.mp (List.all_eq_true.mp h2 q hq)
    rw [Bool.and_eq_true] at hb
    obtain ⟨x, q1, q2⟩ := hf w hw
    have hb2 := hb.2
    split at hb2
    · rename_i V' hV'
      obtain ⟨v, g1, g2⟩ := hF.1 _ (ab_loc_mem hV')
      dsimp only at g1
      rw [q2] at g1
      cases g1
      exact ⟨x, by rw [← Nat.eq_of_beq_eq_true hb.1]; exact q1, ab_le_ok hb2 g2⟩
    · cases hb2
def ab_isEnd (i : am_I) : Bool := match i.2.2.1 with
  | .ireturn => true
  | .lreturn => true
  | .return_ => true
  | _ => false
def ab_retI (M : am_M) (e : ab_S) : Bool := match M.2.1.2.1 with
  | some ty => ab_is0 e && ab_fit ty e.1
  | none => false
def ab_retL (M : am_M) (e : ab_S) : Bool := match M.2.1.2.1 with
  | some .long => ab_isLg e.1
  | _ => false
def ab_retV (M : am_M) : Bool := match M.2.1.2.1 with
  | none => true
  | _ => false
def ab_ret (M : am_M) (fx : List (Nat × Nat)) (cs : List ab_C) (i : am_I) (F : ab_F) : Bool := match i.2.2.1 with
  | .ireturn => match F.2.1 with
    | [e] => ab_retI M e && cs.any (ab_leC fx F (some e.1))
    | _ => false
  | .lreturn => match F.2.1 with
    | [e] => ab_retL M e && cs.any (ab_leC fx F (some e.1))
    | _ => false
  | .return_ => match F.2.1 with
    | [] => ab_retV M && cs.any (ab_leC fx F none)
    | _ => false
  | _ => false
theorem ab_ret_ok {M : am_M} {k : Nat} {fx : List (Nat × Nat)} {cs : List ab_C} {i : am_I} {r : List am_I} {F : ab_F} {as : List Value} {ls : am_L} {st : List Value} {h : am_H} {nc ns : Nat} {Q : Option Value → List am_k → am_H → Prop} (hc : M.2.2.2.drop k = i :: r) (hr : (Nat.ble nc M.2.2.1.2.2.1 && Nat.ble ns M.2.2.1.2.2.2) = true) (hF : ab_gF F ls st h) (hf : ab_fxG fx as ls) (ho : ab_ret M fx cs i F = true) (hQ : ∀ rv c, c ∈ cs → ab_gC c as rv h → Q rv am_ks0 h) : am_Ek false am_G0 M k ls st am_ks0 h nc ns Q := by
  obtain ⟨pc, len, op, an, z⟩ := i
  have hF0 := hF
  cases op
  case ireturn =>
    replace ho : (match F.2.1 with
      | [e] => ab_retI M e && cs.any (ab_leC fx F (some e.1))
      | _ => false) = true := ho
    split at ho
    · rename_i e hst
      obtain ⟨v, st', rfl, g1, g2⟩ := ab_top1 hF hst
      rw [Bool.and_eq_true] at ho
      have h1 := ho.1
      unfold ab_retI at h1
      split at h1
      · rename_i ty hty
        rw [Bool.and_eq_true] at h1
        obtain ⟨x, rfl, -⟩ := ab_g0 h1.1 g1.1
        obtain ⟨c, hm, hl⟩ := List.any_eq_true.mp ho.2
        match st', g2 with
        | [], _ => exact am_e_iret (ab_cur_ok hc) hty (ab_fit_ok h1.2 g1.1) hr (hQ _ c hm (ab_leC_ok hl hF0 hf g1.1))
        | _ :: _, g2 => exact g2.elim
      · cases h1
    · cases ho
  case lreturn =>
    replace ho : (match F.2.1 with
      | [e] => ab_retL M e && cs.any (ab_leC fx F (some e.1))
      | _ => false) = true := ho
    split at ho
    · rename_i e hst
      obtain ⟨v, st', rfl, g1, g2⟩ := ab_top1 hF hst
      rw [Bool.and_eq_true] at ho
      have h1 := ho.1
      unfold ab_retL at h1
      split at h1
      · rename_i hty
        obtain ⟨x, rfl⟩ := ab_gL h1 g1.1
        obtain ⟨c, hm, hl⟩ := List.any_eq_true.mp ho.2
        match st', g2 with
        | [], _ => exact am_e_lret (ab_cur_ok hc) hty hr (hQ _ c hm (ab_leC_ok hl hF0 hf g1.1))
        | _ :: _, g2 => exact g2.elim
      · cases h1
    · cases ho
  case return_ =>
    replace ho : (match F.2.1 with
      | [] => ab_retV M && cs.any (ab_leC fx F none)
      | _ => false) = true := ho
    split at ho
    · rename_i hst
      rw [Bool.and_eq_true] at ho
      have h1 := ho.1
      unfold ab_retV at h1
      split at h1
      · rename_i hty
        obtain ⟨c, hm, hl⟩ := List.any_eq_true.mp ho.2
        have hs := hF.2.1
        rw [hst] at hs
        match st, hs, hF0 with
        | [], _, hF0 => exact am_e_vret (ab_cur_ok hc) hty hr (hQ _ c hm (ab_leC_ok hl hF0 hf trivial))
        | _ :: _, hs, _ => exact hs.elim
      · cases h1
    · cases ho
  all_goals cases ho
