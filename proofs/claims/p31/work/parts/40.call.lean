/-! ===== CALLS BY WHAT IS KNOWN OF THE CALLEE ===== -/
/-- an end of a method: its answer, what is then known of its arguments and of places -/
abbrev ab_C : Type := Option ab_V × List (Nat × ab_V) × List (ab_P × ab_V)
/-- method, arguments, places at its beginning, what it may change, its ends -/
abbrev ab_Sm : Type := Nat × List ab_V × List (ab_P × ab_V) × List (Nat × Nat) × List ab_C
def ab_gAs : List ab_V → List Value → Prop
  | [], [] => True
  | V :: Vs, v :: vs => ab_g V v ∧ ab_gAs Vs vs
  | _, _ => False
def ab_gR (V : Option ab_V) (r : Option Value) : Prop := match V, r with
  | none, none => True
  | some V, some v => ab_g V v
  | _, _ => False
def ab_gPl (h : am_H) (l : List (ab_P × ab_V)) : Prop := ∀ q ∈ l, ∃ v, ab_at [] h q.1 = some v ∧ ab_g q.2 v
def ab_gC (c : ab_C) (as : List Value) (r : Option Value) (h : am_H) : Prop :=
  ab_gR c.1 r ∧ (∀ q ∈ c.2.1, ∃ x : Int32, as[q.1]? = some (.int x) ∧ ab_g q.2 (.int x)) ∧ ab_gPl h c.2.2
def ab_Con (T : ab_T) (J : am_H → Prop) (s : ab_Sm) : Prop := ∃ M' : am_M, am_prog[s.1]? = some M' ∧ M'.2.2.1.2.2 = (0, 0) ∧ ∀ (as : List Value) (h : am_H), ab_gAs s.2.1 as → ab_Inv (ab_hi T) h → J h → ab_gPl h s.2.2.1 →
  am_Ek false am_G0 M' 0 (lv_args 0 as) [] am_ks0 h 0 0 (fun r ks h' => ks = am_ks0 ∧ ab_Inv (ab_hi T) h' ∧ J h' ∧ ab_Fr s.2.2.2.1 h h' ∧ ∃ c ∈ s.2.2.2.2, ab_gC c as r h')
theorem ab_at_nil {ls : am_L} {h : am_H} {p : ab_P} {v : Value} (hh : ab_at [] h p = some v) : ab_at ls h p = some v := by
  obtain ⟨a, k⟩ := p
  cases a with
  | zero => cases hh
  | succ o => exact hh
theorem ab_at_hp {ls : am_L} {h : am_H} {p : ab_P} {v : Value} (hp : Nat.beq p.1 0 = false) (hh : ab_at ls h p = some v) : ab_at [] h p = some v := by
  obtain ⟨a, k⟩ := p
  cases a with
  | zero => cases hp
  | succ o => exact hh
/-! rows of values -/
section ABR
variable {ls : am_L} {h : am_H}
theorem ab_gSt_take : ∀ {es : List ab_S} {vs : List Value} (n : Nat), ab_gSt ls h es vs → ab_gSt ls h (es.take n) (vs.take n) ∧ ab_gSt ls h (es.drop n) (vs.drop n)
  | _, _, 0, hh => ⟨by simp [ab_gSt], by simpa using hh⟩
  | [], [], n + 1, _ => ⟨by simp [ab_gSt], by simp [ab_gSt]⟩
  | [], _ :: _, _ + 1, hh => hh.elim
  | _ :: _, [], _ + 1, hh => hh.elim
  | e :: es, v :: vs, n + 1, hh => by
    have ih := ab_gSt_take n hh.2
    exact ⟨⟨hh.1, ih.1⟩, ih.2⟩
theorem ab_gSt_app : ∀ {es fs : List ab_S} {vs ws : List Value}, ab_gSt ls h es vs → ab_gSt ls h fs ws → ab_gSt ls h (es ++ fs) (vs ++ ws)
  | [], _, [], _, _, h2 => h2
  | [], _, _ :: _, _, h1, _ => h1.elim
  | _ :: _, _, [], _, h1, _ => h1.elim
  | _ :: _, _, _ :: _, _, h1, h2 => ⟨h1.1, ab_gSt_app h1.2 h2⟩
theorem ab_gSt_rev : ∀ {es : List ab_S} {vs : List Value}, ab_gSt ls h es vs → ab_gSt ls h es.reverse vs.reverse
  | [], [], hh => hh
  | [], _ :: _, hh => hh.elim
  | _ :: _, [], hh => hh.elim
  | e :: es, v :: vs, hh => by
    rw [List.reverse_cons, List.reverse_cons]
    exact ab_gSt_app (ab_gSt_rev hh.2) ⟨hh.1, trivial⟩
theorem ab_gSt_len : ∀ {es : List ab_S} {vs : List Value}, ab_gSt ls h es vs → es.length = vs.length
  | [], [], _ => rfl
  | [], _ :: _, hh => hh.elim
  | _ :: _, [], hh => hh.elim
  | _ :: _, _ :: _, hh => by simp only [List.length_cons, ab_gSt_len hh.2]
theorem ab_gSt_get : ∀ {es : List ab_S} {vs : List Value} {i : Nat} {e : ab_S} {v : Value}, ab_gSt ls h es vs → es[i]? = some e → vs[i]? = some v → ab_gS ls h e v
  | [], _, i, _, _, _, he, _ => by simp at he
  | _ :: _, [], _, _, _, hh, _, _ => hh.elim
  | e :: es, v :: vs, 0, _, _, hh, he, hv => by
    simp only [List.getElem?_cons_zero, Option.some.injEq] at he hv
    subst he; subst hv
    exact hh.1
  | e :: es, v :: vs, i + 1, _, _, hh, he, hv => by
    rw [List.getElem?_cons_succ] at he hv
    exact ab_gSt_get hh.2 he hv
def ab_leAs : List ab_S → List ab_V → Bool
  | [], [] => true
  | e :: es, V :: Vs => ab_le e.1 V && ab_leAs es Vs
  | _, _ => false
theorem ab_leAs_ok : ∀ {es : List ab_S} {Vs : List ab_V} {vs : List Value}, ab_leAs es Vs = true → ab_gSt ls h es vs → ab_gAs Vs vs
  | [], [], [], _, _ => trivial
  | [], [], _ :: _, _, hh => hh.elim
  | [], _ :: _, _, hl, _ => by cases hl
  | _ :: _, [], _, hl, _ => by cases hl
  | _ :: _, _ :: _, [], _, hh => hh.elim
  | e :: es, V :: Vs, v :: vs, hl, hh => by
    have hl : (ab_le e.1 V && ab_leAs es Vs) = true := hl
    rw [Bool.and_eq_true] at hl
    exact ⟨ab_le_ok hl.1 hh.1.1, ab_leAs_ok hl.2 hh.2⟩
/-- places as they must be at the beginning -/
def ab_leP (l W : List (ab_P × ab_V)) : Bool := W.all (fun q => !Nat.beq q.1.1 0 && match ab_find l q.1 with
  | some V => ab_le V q.2
  | none => false)
theorem ab_leP_ok {l W : List (ab_P × ab_V)} (hl : ab_leP l W = true) (hg : ∀ q ∈ l, ∃ v, ab_at ls h q.1 = some v ∧ ab_g q.2 v) : ab_gPl h W := by
  intro q hq
  have h4 := List.all_eq_true.mp hl q hq
  rw [Bool.and_eq_true] at h4
  have h5 := h4.2
  split at h5
  · rename_i V hV
    obtain ⟨v, g1, g2⟩ := hg _ (ab_find_mem hV)
    exact ⟨v, ab_at_hp (by simpa using h4.1) g1, ab_le_ok h5 g2⟩
  · cases h5
/-- what the callee knows of its arguments goes to the places that they came from -/
def ab_nts (es : List ab_S) : List (Nat × ab_V) → ab_F → ab_F
  | [], F => F
  | q :: l, F => match es[q.1]? with
    | some e => ab_nts es l (cond (Nat.beq q.2.1 0) (ab_nt F e q.2.2.1 q.2.2.2.1) F)
    | none => ab_nts es l F
theorem ab_nts_ok {es : List ab_S} {vs st : List Value} (hs : ab_gSt ls h es vs) : ∀ {l : List (Nat × ab_V)} {F : ab_F}, (∀ q ∈ l, ∃ x : Int32, vs[q.1]? = some (.int x) ∧ ab_g q.2 (.int x)) → ab_gF F ls st h → ab_gF (ab_nts es l F) ls st h
  | [], _, _, hF => hF
  | q :: l, F, hl, hF => by
    unfold ab_nts
    have hl' := fun q hq => hl q (List.mem_cons_of_mem _ hq)
    split
    · rename_i e he
      obtain ⟨x, hx, hg⟩ := hl q List.mem_cons_self
      refine ab_nts_ok hs hl' ?_
      cases hb : Nat.beq q.2.1 0 with
      | false => exact hF
      | true =>
        obtain ⟨x', e1, l1, u1⟩ := ab_gI hb hg
        cases e1
        exact ab_nt_ok hF (ab_gSt_get hs he hx).2 l1 u1
    · exact ab_nts_ok hs hl' hF
end ABR
def ab_mdle (md md' : List (Nat × Nat)) : Bool := md.all (fun q => md'.any (fun w => Nat.beq w.1 q.1 && (Nat.beq w.2 0 || Nat.beq w.2 q.2)))
theorem ab_mdle_in {md md' : List (Nat × Nat)} (hs : ab_mdle md md' = true) {o k : Nat} (hi : ab_in md o k = true) : ab_in md' o k = true := by
  obtain ⟨q, hq, hb⟩ := List.any_eq_true.mp hi
  obtain ⟨w, hw, hc⟩ := List.any_eq_true.mp (List.all_eq_true.mp hs q hq)
  rw [Bool.and_eq_true, Bool.or_eq_true] at hb hc
  refine List.any_eq_true.mpr ⟨w, hw, ?_⟩
  have e1 := Nat.eq_of_beq_eq_true hb.1
  have e2 := Nat.eq_of_beq_eq_true hc.1
  rw [Bool.and_eq_true, Bool.or_eq_true]
  refine ⟨by rw [e2, e1]; exact Nat.beq_refl _, ?_⟩
  rcases hc.2 with h1 | h1
  · exact Or.inl h1
  · rw [Nat.eq_of_beq_eq_true h1]
    exact hb.2
theorem ab_mdle_Fr {md md' : List (Nat × Nat)} (hs : ab_mdle md md' = true) {h h' : am_H} (hf : ab_Fr md h h') : ab_Fr md' h h' := by
  intro o k hk
  refine hf o k ?_
  cases hi : ab_in md o k with
  | false => rfl
  | true => rw [ab_mdle_in hs hi] at hk; cases hk
/-- behind the call -/
def ab_aft (F : ab_F) (es rest : List ab_S) (md : List (Nat × Nat)) (c : ab_C) : ab_F :=
  match ab_nts es c.2.1 (F.1, rest, F.2.2) with
  | F2 => match ab_drop md F2 F2.2.1 with
    | F3 => (F3.1, (match c.1 with | some V => ab_n V :: F3.2.1 | none => F3.2.1), c.2.2.filter (fun q => match ab_find F3.2.2 q.1 with | some W => ab_le q.2 W | none => true) ++ F3.2.2)
theorem ab_aft_ok {ls : am_L} {F : ab_F} {es rest : List ab_S} {md : List (Nat × Nat)} {c : ab_C} {as sr : List Value} {r : Option Value} {h h' : am_H} (h1 : ∀ q ∈ F.1, ∃ v, am_get ls q.1 = some v ∧ ab_g q.2 v) (h2 : ab_gSt ls h es as) (h3 : ab_gSt ls h rest sr) (h4 : ∀ q ∈ F.2.2, ∃ v, ab_at ls h q.1 = some v ∧ ab_g q.2 v) (hf : ab_Fr md h h') (hc : ab_gC c as r h') : ab_gF (ab_aft F es rest md c) ls (r.toList ++ sr) h' := by
  have hF2 : ab_gF (ab_nts es c.2.1 (F.1, rest, F.2.2)) ls sr h := ab_nts_ok h2 hc.2.1 ⟨h1, h3, h4⟩
  have hF3 := ab_drop_ok hF2.1 hF2.2.1 hF2.2.2 hf
  unfold ab_aft
  dsimp only
  refine ⟨hF3.1, ?_, fun q hq => ?_⟩
  · have hr := hc.1
    unfold ab_gR at hr
    split at hr
    · rename_i e1
      rw [e1]
      exact hF3.2.1
    · rename_i V v e1
      rw [e1]
      exact ⟨ab_n_ok hr, hF3.2.1⟩
    · exact hr.elim
  · rcases List.mem_append.mp hq with hq | hq
    · obtain ⟨v, g1, g2⟩ := hc.2.2 q (List.mem_filter.mp hq).1
      exact ⟨v, ab_at_nil g1, g2⟩
    · exact hF3.2.2 q hq
