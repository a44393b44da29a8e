/-! ===== THE PROGRAM'S TABLES HOLD: checks that the kernel runs ===== -/
def am_w (i : Nat) (w : Cond) : Bool := decide (lw_tbl[i]? = some w) && goodWord w
theorem am_w_ok {i : Nat} {w : Cond} (h : am_w i w = true) : w ∈ am_ts := by
  simp only [am_w, Bool.and_eq_true, decide_eq_true_eq] at h
  exact am_ts_in h.1 h.2
def am_wF (i : Nat) (own : String) (idx : Nat) (q : String × String × String × Bool) : Bool := match lw_tbl[i]? with
  | some (.fieldLink o j r n d) => decide (o = own) && decide (j = idx) && decide (r = q.1) && decide (n = q.2.1) && decide (d = q.2.2.1) && goodWord (.fieldLink o j r n d)
  | some (.fieldLinkNest o j r n d host) => decide (o = own) && decide (j = idx) && decide (r = q.1) && decide (n = q.2.1) && decide (d = q.2.2.1)
  | _ => false
theorem am_wF_ok {i : Nat} {own : String} {idx : Nat} {q : String × String × String × Bool} (h : am_wF i own idx q = true) : am_fl own idx q := by
  unfold am_wF at h
  split at h
  · rename_i o j r n d hw
    simp only [Bool.and_eq_true, decide_eq_true_eq] at h
    obtain ⟨⟨⟨⟨⟨rfl, rfl⟩, rfl⟩, rfl⟩, rfl⟩, hg⟩ := h
    exact Or.inl (am_ts_in hw hg)
  · rename_i o j r n d host hw
    simp only [Bool.and_eq_true, decide_eq_true_eq] at h
    obtain ⟨⟨⟨⟨rfl, rfl⟩, rfl⟩, rfl⟩, rfl⟩ := h
    exact Or.inr ⟨host, am_tn_in hw rfl⟩
  · cases h
def am_wM (i : Nat) (own : String) (idx : Nat) (y : MethodName) : Bool := match lw_tbl[i]? with
  | some (.methodLink o j r) => decide (o = own) && decide (j = idx) && decide (r = y) && goodWord (.methodLink o j r)
  | some (.methodLinkNest o j r host) => decide (o = own) && decide (j = idx) && decide (r = y)
  | _ => false
theorem am_wM_ok {i : Nat} {own : String} {idx : Nat} {y : MethodName} (h : am_wM i own idx y = true) : am_ml own idx y := by
  unfold am_wM at h
  split at h
  · rename_i o j r hw
    simp only [Bool.and_eq_true, decide_eq_true_eq] at h
    obtain ⟨⟨⟨rfl, rfl⟩, rfl⟩, hg⟩ := h
    exact Or.inl (am_ts_in hw hg)
  · rename_i o j r host hw
    simp only [Bool.and_eq_true, decide_eq_true_eq] at h
    obtain ⟨⟨rfl, rfl⟩, rfl⟩ := h
    exact Or.inr ⟨host, am_tn_in hw rfl⟩
  · cases h
def am_mL : am_M := ((13, ⟨"AirBedLaw", "look", "(LAirBed;II[J)I"⟩, method_3_code), (5, some .int, 4), (9, 240, 4, 40), [])
def am_P1 (scr : Option (Nat × (Nat → Int32))) (lk : List Value → List am_k → am_H → Option am_O) : am_G := (fun a => am_prog[a]?, am_tys, am_nms, am_txt, scr, am_mL, lk)
/-- what is checked of a method -/
def am_chkM (a : Nat) : Bool := match am_prog[a]?, am_hint[a]? with
  | some M, some h => am_w h.2.1 (Cond.initialized M.1.2.1.cls) && decide (M.1.2.1.cls ≠ "java/lang/invoke/MethodHandle") && decide (M.1.2.1.cls ≠ "java/lang/invoke/VarHandle") && decide ((parseMethodDescriptor M.1.2.1.desc).map (fun d => d.parameters.length) = some M.2.1.2.2)
      && plainName M.1.2.1.cls && decide (am_nms M.1.1 = M.1.2.1.cls) && decide ((M.2.2.2.head?.map (fun i => i.1)) = some 0)
      && cond h.2.2.2.2 (am_w h.2.2.1 (Cond.static M.1.2.1)) (am_w h.2.2.1 (Cond.instanceMethod M.1.2.1) && (decide (M.1.2.1.name = "<init>" ∧ M.2.1.2.1 = none) || am_w h.2.2.2.1 (Cond.selects M.1.2.1.cls M.1.2.1 M.1.2.1)))
  | none, _ => true
  | _, _ => false
def am_facts (a : Nat) (M : am_M) : Prop := (∀ scr lk, am_okM (am_P1 scr lk) M) ∧ ((M.2.2.2.head?.map (fun i => i.1)) = some 0) ∧ ∃ h, am_hint[a]? = some h ∧ (h.2.2.2.2 = true → Cond.static M.1.2.1 ∈ am_ts) ∧ (h.2.2.2.2 = false → Cond.instanceMethod M.1.2.1 ∈ am_ts ∧ ((M.1.2.1.name = "<init>" ∧ M.2.1.2.1 = none) ∨ Cond.selects M.1.2.1.cls M.1.2.1 M.1.2.1 ∈ am_ts))
theorem am_chkM_ok {a : Nat} (h : am_chkM a = true) {M : am_M} (hM : am_prog[a]? = some M) (c1 : Cond.code M.1.2.1 M.1.2.2 M.2.1.1 M.2.1.2.1 ∈ am_ts) : am_facts a M := by
  unfold am_chkM at h
  rw [hM] at h
  split at h
  · rename_i M0 hn h1 h2
    cases h1
    simp only [Bool.and_eq_true, decide_eq_true_eq] at h
    obtain ⟨⟨⟨⟨⟨⟨⟨c2, c3⟩, c4⟩, c5⟩, c6⟩, c7⟩, c8⟩, c9⟩ := h
    refine ⟨fun _ _ => ⟨c1, am_w_ok c2, ⟨c3, c4, c5⟩, c6, c7⟩, c8, hn, h2, fun hs => ?_, fun hs => ?_⟩
    · rw [hs] at c9
      exact am_w_ok c9
    · rw [hs] at c9
      simp only [cond_false, Bool.and_eq_true, Bool.or_eq_true, decide_eq_true_eq] at c9
      exact ⟨am_w_ok c9.1, c9.2.imp id am_w_ok⟩
  · rename_i h1
    cases h1
  · cases h
def am_hh : List (Nat × Nat × Nat × Nat) := [(0, 10, 13, 13), (0, 10, 17, 15)]
