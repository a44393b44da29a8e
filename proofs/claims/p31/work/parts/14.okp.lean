/-! ===== THE PROGRAM IS SOUND: every method, every instruction, every class ===== -/
theorem am_prog_len : am_prog.length = 254 := by decide +kernel
theorem am_facts_all {a : Nat} {M : am_M} (h : am_prog[a]? = some M) : am_facts a M := by
  have hl := (List.getElem?_eq_some_iff.mp h).1
  rw [am_prog_len] at hl
  exact am_chkM_ok (am_chkMs (Nat.lt_of_lt_of_le hl (by decide))) h (am_cw_all M (List.mem_of_getElem? h))
set_option maxHeartbeats 4000000 in
theorem am_chkI_ok {scr : Option (Nat × (Nat → Int32))} {lk : List Value → List am_k → am_H → Option am_O} {M : am_M} {i : am_I} (h : am_chkI M i = true) : am_okI am_cls (am_P1 scr lk) M i := by
  unfold am_chkI at h
  rw [Bool.and_eq_true, decide_eq_true_eq] at h
  obtain ⟨hd, h⟩ := h
  refine ⟨hd, ?_⟩
  obtain ⟨pc, len, ins, ⟨a, b, c⟩, z⟩ := i
  cases ins
  case ldc k =>
    dsimp only at h ⊢
    rw [Bool.and_eq_true, decide_eq_true_eq] at h
    obtain ⟨h1, h2⟩ := h
    refine ⟨h1, ?_⟩
    match b, h2 with
    | 0, h2 => exact Or.inl ⟨rfl, am_w_ok h2⟩
    | b + 1, h2 =>
      refine Or.inr ⟨Nat.succ_ne_zero b, ?_⟩
      split at h2
      · exact absurd (by assumption : b + 1 = 0) (Nat.succ_ne_zero b)
      · split at h2
        · rename_i o j tx hw
          simp only [Bool.and_eq_true, decide_eq_true_eq] at h2
          obtain ⟨⟨rfl, rfl⟩, h3⟩ := h2
          exact ⟨h3, tx, List.mem_of_getElem? hw⟩
        · cases h2
  case ldc2_w k =>
    dsimp only at h ⊢
    rw [Bool.and_eq_true, decide_eq_true_eq] at h
    exact ⟨h.1, am_w_ok h.2⟩
  case getfield idx =>
    dsimp only at h ⊢
    rw [Bool.and_eq_true, decide_eq_true_eq] at h
    obtain ⟨h1, h2⟩ := h
    split at h2
    · rename_i r hr
      rw [Bool.and_eq_true, decide_eq_true_eq] at h2
      exact ⟨h1, r, hr, h2.1, am_wF_ok h2.2⟩
    · cases h2
  case putfield idx =>
    dsimp only at h ⊢
    rw [Bool.and_eq_true, decide_eq_true_eq] at h
    obtain ⟨h1, h2⟩ := h
    split at h2
    · rename_i r hr
      rw [Bool.and_eq_true, decide_eq_true_eq] at h2
      obtain ⟨h2, h3⟩ := h2
      refine ⟨h1, r, hr, h2, ?_⟩
      cases hf : (r.2.1 b).2.2.2 with
      | false =>
        rw [hf, cond_false] at h3
        exact Or.inl ⟨rfl, am_wF_ok h3⟩
      | true =>
        rw [hf, cond_true] at h3
        simp only [Bool.and_eq_true, decide_eq_true_eq] at h3
        exact Or.inr ⟨rfl, am_w_ok h3.1.1, h3.1.2, h3.2⟩
    · cases h2
  case newarray t =>
    dsimp only at h ⊢
    simp only [Bool.and_eq_true, decide_eq_true_eq] at h
    exact ⟨h.1.1, am_w_ok h.1.2, h.2⟩
  case anewarray idx =>
    dsimp only at h ⊢
    rw [Bool.and_eq_true, decide_eq_true_eq] at h
    obtain ⟨h1, h2⟩ := h
    split at h2
    · rename_i r hr
      rw [Bool.and_eq_true, decide_eq_true_eq] at h2
      exact ⟨h1, r, hr, am_w_ok h2.1, am_tn_in h2.2 rfl⟩
    · cases h2
  case new idx =>
    dsimp only at h ⊢
    rw [Bool.and_eq_true, decide_eq_true_eq] at h
    obtain ⟨h1, h2⟩ := h
    split at h2
    · rename_i r hr
      exact ⟨h1, r, hr, am_w_ok h2⟩
    · cases h2
  case invokespecial idx =>
    dsimp only at h ⊢
    rw [Bool.and_eq_true, decide_eq_true_eq] at h
    obtain ⟨h1, h2⟩ := h
    refine ⟨h1, ?_⟩
    match c, h2 with
    | 0, h2 => exact Or.inl ⟨rfl, am_w_ok h2, am_oI_ok.1, am_oI_ok.2⟩
    | c + 1, h2 =>
      refine Or.inr ⟨Nat.succ_ne_zero c, fun M' hM' => ?_⟩
      have hM2 : am_prog[a]? = some M' := hM'
      obtain ⟨f1, f2, hn, f3, f4, f5⟩ := am_facts_all hM2
      try dsimp only at h2
      rw [hM2] at h2
      try dsimp only at h2
      rw [f3] at h2
      simp only [Bool.and_eq_true, decide_eq_true_eq, Bool.not_eq_true'] at h2
      exact ⟨f1 scr lk, (f5 h2.2).1, h2.1.1, am_wM_ok h2.1.2⟩
  case invokevirtual idx =>
    dsimp only at h ⊢
    rw [Bool.and_eq_true, decide_eq_true_eq] at h
    obtain ⟨h1, h2⟩ := h
    refine ⟨h1, ?_⟩
    match c, h2 with
    | 0, h2 => exact Or.inl ⟨rfl, am_w_ok h2⟩
    | c + 1, h2 =>
      refine Or.inr ⟨Nat.succ_ne_zero c, fun M' hM' => ?_⟩
      have hM2 : am_prog[a]? = some M' := hM'
      obtain ⟨f1, f2, hn, f3, f4, f5⟩ := am_facts_all hM2
      try dsimp only at h2
      rw [hM2] at h2
      try dsimp only at h2
      rw [f3] at h2
      simp only [Bool.and_eq_true, decide_eq_true_eq, Bool.not_eq_true'] at h2
      exact ⟨f1 scr lk, (f5 h2.2).1, (f5 h2.2).2.resolve_left (fun q => h2.1.1 q.1), am_wM_ok h2.1.2⟩
  case invokestatic idx =>
    dsimp only at h ⊢
    rw [Bool.and_eq_true, decide_eq_true_eq] at h
    obtain ⟨h1, h2⟩ := h
    refine ⟨h1, ?_⟩
    match c, h2 with
    | 0, h2 => exact Or.inl ⟨rfl, am_hh, am_oL_ok scr lk, am_w_ok h2⟩
    | 1, h2 => exact Or.inr (Or.inl ⟨rfl, am_w_ok h2, am_oM_ok.2.1, am_oM_ok.1, am_oM_ok.2.2.1⟩)
    | 2, h2 => exact Or.inr (Or.inr (Or.inl ⟨rfl, am_w_ok h2, am_oM_ok.2.2.2.1, am_oM_ok.1, am_oM_ok.2.2.2.2⟩))
    | c + 3, h2 =>
      refine Or.inr (Or.inr (Or.inr ⟨⟨c, rfl⟩, fun M' hM' => ?_⟩))
      have hM2 : am_prog[a]? = some M' := hM'
      obtain ⟨f1, f2, hn, f3, f4, f5⟩ := am_facts_all hM2
      try dsimp only at h2
      rw [hM2] at h2
      try dsimp only at h2
      rw [f3] at h2
      change (_ && _) = true at h2
      rw [Bool.and_eq_true] at h2
      obtain ⟨h2, h3⟩ := h2
      refine ⟨f1 scr lk, f4 h3, ?_⟩
      split at h2
      · rename_i o j r hw
        simp only [Bool.and_eq_true, decide_eq_true_eq] at h2
        obtain ⟨⟨⟨⟨rfl, rfl⟩, rfl⟩, h4⟩, hg⟩ := h2
        exact Or.inl ⟨h4, am_ts_in hw hg⟩
      · rename_i o j r host hw
        simp only [Bool.and_eq_true, decide_eq_true_eq] at h2
        obtain ⟨⟨rfl, rfl⟩, rfl⟩ := h2
        exact Or.inr ⟨host, am_tn_in hw rfl⟩
      · cases h2
  all_goals first | exact trivial | exact of_decide_eq_true h | (simp only [Bool.and_eq_true, decide_eq_true_eq] at h; exact h)
theorem am_okP_ok (scr : Option (Nat × (Nat → Int32))) (lk : List Value → List am_k → am_H → Option am_O) : am_okP am_cls (am_P1 scr lk) := fun a M hM =>
  have hM2 : am_prog[a]? = some M := hM
  ⟨(am_facts_all hM2).1 scr lk, fun i hi => am_chkI_ok (List.all_eq_true.mp (am_ck_all M (List.mem_of_getElem? hM2)) i hi), (am_facts_all hM2).2.1⟩
theorem am_okLaw (scr : Option (Nat × (Nat → Int32))) (lk : List Value → List am_k → am_H → Option am_O) : ∀ i ∈ am_mLaw.2.2.2, am_okI am_cls (am_P1 scr lk) am_mLaw i := fun i hi => am_chkI_ok (List.all_eq_true.mp am_ckL i hi)
def am_chkC (ci : Nat) : Bool := match am_cls[ci]?, am_hintC[ci]? with
  | some r, some h => decide ((am_tys ci).length = r.2.2) && decide (am_nms ci = r.1) && decide (∀ k, k < r.2.2 → parseFieldDescriptor (r.2.1 k).2.2.1 = some ((am_tys ci).getD k .int)) && (List.range r.2.2).all (fun a => (List.range r.2.2).all (fun b => Nat.beq a b || decide ((r.2.1 a).2.1 ≠ (r.2.1 b).2.1)))
      && (List.range r.2.2).all (fun k => am_w (h.2.2.getD k 0) (u_lay r.1 r.2.1 k)) && am_w h.1 (Cond.instantiable r.1 r.2.2) && am_w h.2.1 (Cond.initialized r.1)
  | none, _ => true
  | _, _ => false
set_option maxRecDepth 1000000 in
theorem am_chkC_all : (List.range 13).all am_chkC = true := by decide +kernel
theorem am_okG_ok (scr : Option (Nat × (Nat → Int32))) (lk : List Value → List am_k → am_H → Option am_O) : am_okG am_cls (am_P1 scr lk) := by
  intro ci r hr
  have hl := (List.getElem?_eq_some_iff.mp hr).1
  have h := List.all_eq_true.mp am_chkC_all ci (List.mem_range.mpr hl)
  unfold am_chkC at h
  rw [hr] at h
  split at h
  · rename_i r0 hn h1 h2
    cases h1
    simp only [Bool.and_eq_true, decide_eq_true_eq, List.all_eq_true, List.mem_range, Bool.or_eq_true] at h
    obtain ⟨⟨⟨⟨⟨⟨c1, c2⟩, c3⟩, c4⟩, c5⟩, c6⟩, c7⟩ := h
    refine ⟨c1, c2, c3, fun a ha b hb hab => (c4 a ha b hb).resolve_left (fun q => hab (Nat.eq_of_beq_eq_true q)), fun w hw => ?_, am_w_ok c6, am_w_ok c7⟩
    obtain ⟨k, hk, rfl⟩ := List.mem_map.mp hw
    exact am_w_ok (c5 k (List.mem_range.mp hk))
  · rename_i h1
    cases h1
  · cases h
