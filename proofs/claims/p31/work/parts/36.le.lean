/-! ===== ONE FRAME BELOW ANOTHER ===== -/
def ab_leS (e w : ab_S) : Bool := ab_le e.1 w.1 && (Nat.beq w.2.1 0 || (Nat.beq e.2.1 w.2.1 && Nat.beq e.2.2.1.1 w.2.2.1.1 && Nat.beq e.2.2.1.2 w.2.2.1.2 && decide (e.2.2.2 = w.2.2.2)))
def ab_leSt : List ab_S → List ab_S → Bool
  | [], [] => true
  | e :: es, w :: ws => ab_leS e w && ab_leSt es ws
  | _, _ => false
def ab_leF (F W : ab_F) : Bool := W.1.all (fun q => match ab_loc F.1 q.1 with
    | some V => ab_le V q.2
    | none => false) && ab_leSt F.2.1 W.2.1 && W.2.2.all (fun q => match ab_find F.2.2 q.1 with
    | some V => ab_le V q.2
    | none => false)
theorem ab_leS_ok {ls : am_L} {h : am_H} {e w : ab_S} {v : Value} (hl : ab_leS e w = true) (hg : ab_gS ls h e v) : ab_gS ls h w v := by
  unfold ab_leS at hl
  rw [Bool.and_eq_true, Bool.or_eq_true] at hl
  refine ⟨ab_le_ok hl.1 hg.1, ?_⟩
  rcases hl.2 with h2 | h2
  · unfold ab_tie
    rw [Nat.eq_of_beq_eq_true h2]
    trivial
  · simp only [Bool.and_eq_true, decide_eq_true_eq] at h2
    obtain ⟨⟨⟨a, b⟩, c⟩, d⟩ := h2
    have e1 := Nat.eq_of_beq_eq_true a
    have e2 := Nat.eq_of_beq_eq_true b
    have e3 := Nat.eq_of_beq_eq_true c
    have ht := hg.2
    obtain ⟨V, k, ⟨p, q⟩, n⟩ := e
    obtain ⟨V', k', ⟨p', q'⟩, n'⟩ := w
    dsimp only at e1 e2 e3 d
    subst e1; subst e2; subst e3; subst d
    exact ht
theorem ab_leSt_ok {ls : am_L} {h : am_H} : ∀ {es ws : List ab_S} {vs : List Value}, ab_leSt es ws = true → ab_gSt ls h es vs → ab_gSt ls h ws vs
  | [], [], _, _, hg => hg
  | [], _ :: _, _, hl, _ => by cases hl
  | _ :: _, [], _, hl, _ => by cases hl
  | _ :: _, _ :: _, [], _, hg => hg.elim
  | e :: es, w :: ws, v :: vs, hl, hg => by
    have hl : (ab_leS e w && ab_leSt es ws) = true := hl
    rw [Bool.and_eq_true] at hl
    exact ⟨ab_leS_ok hl.1 hg.1, ab_leSt_ok hl.2 hg.2⟩
theorem ab_leF_ok {ls : am_L} {st : List Value} {h : am_H} {F W : ab_F} (hl : ab_leF F W = true) (hg : ab_gF F ls st h) : ab_gF W ls st h := by
  unfold ab_leF at hl
  rw [Bool.and_eq_true, Bool.and_eq_true] at hl
  obtain ⟨⟨h1, h2⟩, h3⟩ := hl
  refine ⟨fun q hq => ?_, ab_leSt_ok h2 hg.2.1, fun q hq => ?_⟩
  · have h4 := List.all_eq_true.mp h1 q hq
    split at h4
    · rename_i V hV
      obtain ⟨v, g1, g2⟩ := hg.1 _ (ab_loc_mem hV)
      exact ⟨v, g1, ab_le_ok h4 g2⟩
    · cases h4
  · have h4 := List.all_eq_true.mp h3 q hq
    split at h4
    · rename_i V hV
      obtain ⟨v, g1, g2⟩ := hg.2.2 _ (ab_find_mem hV)
      exact ⟨v, g1, ab_le_ok h4 g2⟩
    · cases h4
