/-! ===== FRAMES OF THE CHECK ===== -/
theorem ab_cat_g {V : ab_V} (hL : ab_isLg V = false) {v : Value} (h : ab_g V v) : v.category = 1 := by
  unfold ab_isLg at hL
  simp only [Bool.or_eq_false_iff] at hL
  unfold ab_g at h
  split at h
  · obtain ⟨x, rfl, -⟩ := h
    rfl
  · rename_i e; rw [e] at hL; cases hL.1.1
  · rename_i e; rw [e] at hL; cases hL.1.2
  · rename_i e; rw [e] at hL; cases hL.2
  · obtain ⟨n, rfl, -⟩ := h
    rfl
theorem ab_getf_eq {p : Nat × Value → Bool} {k : Nat} (hp : ∀ w, p (k, w) = true) : ∀ (ls : am_L), am_get (ls.filter p) k = am_get ls k
  | [] => rfl
  | q :: l => by
    obtain ⟨a, w⟩ := q
    by_cases ha : a = k
    · subst ha
      rw [List.filter_cons_of_pos (hp w), am_get_self, am_get_self]
    · rw [am_get_ne ha, List.filter_cons]
      split
      · rw [am_get_ne ha]; exact ab_getf_eq hp l
      · exact ab_getf_eq hp l
theorem ab_nb {a b : Nat} (h : Nat.beq a b = false) : ¬ a = b := fun e => by subst e; rw [Nat.beq_refl] at h; cases h
theorem ab_bn {a b : Nat} (h : ¬ a = b) : Nat.beq a b = false := by
  cases hq : Nat.beq a b with
  | false => rfl
  | true => exact absurd (Nat.eq_of_beq_eq_true hq) h
/-- setting a local: what is read elsewhere -/
theorem ab_set_ne {ls : am_L} {j k : Nat} {v : Value} (h1 : ¬ k = j) (h2 : ¬ k + 1 = j) : am_get (am_set ls j v) k = am_get ls k := by
  unfold am_set
  rw [am_get_ne (fun e => h1 e.symm)]
  refine ab_getf_eq (fun w => ?_) ls
  simp [h1, h2]
theorem ab_set2_ne {ls : am_L} {j k : Nat} {v : Value} (h1 : ¬ k = j) (h2 : ¬ k + 1 = j) (h3 : ¬ k = j + 1) : am_get (am_set2 ls j v) k = am_get ls k := by
  unfold am_set2
  rw [am_get_ne (fun e => h1 e.symm)]
  refine ab_getf_eq (fun w => ?_) ls
  simp [h1, h2, h3]
theorem ab_set_in {ls : am_L} {j k : Nat} {v w : Value} (h1 : ¬ k = j) (hw : w.category = 1) (hg : am_get ls k = some w) : am_get (am_set ls j v) k = some w := by
  unfold am_set
  rw [am_get_ne (fun e => h1 e.symm)]
  refine am_get_filter hg ?_
  simp [h1, hw]
theorem ab_set2_in {ls : am_L} {j k : Nat} {v w : Value} (h1 : ¬ k = j) (h3 : ¬ k = j + 1) (hw : w.category = 1) (hg : am_get ls k = some w) : am_get (am_set2 ls j v) k = some w := by
  unfold am_set2
  rw [am_get_ne (fun e => h1 e.symm)]
  refine am_get_filter hg ?_
  simp [h1, h3, hw]
def ab_setC (ls : am_L) (j : Nat) (two : Bool) (v : Value) : am_L := cond two (am_set2 ls j v) (am_set ls j v)
theorem ab_setC_self {ls : am_L} {j : Nat} {two : Bool} {v : Value} : am_get (ab_setC ls j two v) j = some v := by
  cases two
  · exact am_get_self
  · exact am_get_self
theorem ab_setC_ne {ls : am_L} {j k : Nat} {two : Bool} {v : Value} (h1 : ¬ k = j) (h2 : ¬ k + 1 = j) (h3 : two = true → ¬ k = j + 1) : am_get (ab_setC ls j two v) k = am_get ls k := by
  cases two
  · exact ab_set_ne h1 h2
  · exact ab_set2_ne h1 h2 (h3 rfl)
theorem ab_setC_in {ls : am_L} {j k : Nat} {two : Bool} {v w : Value} (h1 : ¬ k = j) (h3 : two = true → ¬ k = j + 1) (hw : w.category = 1) (hg : am_get ls k = some w) : am_get (ab_setC ls j two v) k = some w := by
  cases two
  · exact ab_set_in h1 hw hg
  · exact ab_set2_in h1 (h3 rfl) hw hg
theorem ab_setL_ok {F : ab_F} {ls : am_L} {es : List ab_S} {st : List Value} {h : am_H} {j : Nat} {two : Bool} {V : ab_V} {v : Value} (hl : ∀ q ∈ F.1, ∃ v, am_get ls q.1 = some v ∧ ab_g q.2 v) (hs : ab_gSt ls h es st) (hk : ∀ q ∈ F.2.2, ∃ v, ab_at ls h q.1 = some v ∧ ab_g q.2 v) (hv : ab_g V v) :
    ab_gF (ab_setL F j two V es) (ab_setC ls j two v) st h := by
  refine ⟨fun q hq => ?_, ab_cut_ok (fun p hp => ?_) hs, fun q hq => ?_⟩
  · rcases List.mem_cons.mp hq with rfl | hq
    · exact ⟨v, ab_setC_self, hv⟩
    · obtain ⟨hq, hf⟩ := List.mem_filter.mp hq
      obtain ⟨w, g1, g2⟩ := hl q hq
      simp only [Bool.not_eq_true', Bool.or_eq_false_iff, Bool.and_eq_false_iff] at hf
      obtain ⟨⟨f1, f2⟩, f3⟩ := hf
      refine ⟨w, ?_, g2⟩
      have n1 := ab_nb f1
      have n2 : two = true → ¬ q.1 = j + 1 := by
        intro e
        rcases f2 with f2 | f2
        · rw [e] at f2; cases f2
        · exact ab_nb f2
      rcases f3 with f3 | f3
      · rw [ab_setC_ne n1 (ab_nb f3) n2]; exact g1
      · refine ab_setC_in n1 n2 (ab_cat_g ?_ g2) g1
        unfold ab_isLg
        simp only [Bool.or_eq_false_iff]
        exact f3
  · unfold ab_isL at hp
    obtain ⟨a, k⟩ := p
    cases a with
    | succ o => rfl
    | zero =>
      simp only [Nat.beq_refl, Bool.true_and, Bool.or_eq_false_iff, Bool.and_eq_false_iff] at hp
      obtain ⟨⟨f1, f2⟩, f3⟩ := hp
      refine ab_setC_ne (ab_nb f1) (ab_nb f3) (fun e => ?_)
      rcases f2 with f2 | f2
      · rw [e] at f2; cases f2
      · exact ab_nb f2
  · obtain ⟨hq, hf⟩ := List.mem_filter.mp hq
    obtain ⟨w, g1, g2⟩ := hk q hq
    refine ⟨w, ?_, g2⟩
    obtain ⟨⟨a, k⟩, W⟩ := q
    cases a with
    | succ o => exact g1
    | zero => simp at hf
/-- what changed, as the check has it -/
def ab_Eff (E : ab_E) (ls : am_L) (h : am_H) (ls' : am_L) (h' : am_H) : Prop := ∀ (p : ab_P) (d : Int) (y : Int32), ab_dl E p = some d → ab_at ls h p = some (.int y) → ∃ y' : Int32, ab_at ls' h' p = some (.int y') ∧ y'.toInt = y.toInt + d
theorem ab_Eff_0 {ls : am_L} {h : am_H} : ab_Eff ab_e0 ls h ls h := by
  intro p d y hd hy
  have : (0 : Int) = d := Option.some.inj hd
  subst this
  exact ⟨y, hy, by simp⟩
theorem ab_Eff_1 {ls : am_L} {h : am_H} {j : Nat} {b : Option Int} {v : Value} (hb : ∀ d y, b = some d → am_get ls j = some (.int y) → ∃ y' : Int32, v = .int y' ∧ y'.toInt = y.toInt + d) : ab_Eff (1, (0, j), b, []) ls h (am_set ls j v) h := by
  intro p d y hd hy
  obtain ⟨a, k⟩ := p
  unfold ab_dl at hd
  dsimp only at hd
  cases a with
  | succ o =>
    have : (0 : Int) = d := Option.some.inj hd
    subst this
    exact ⟨y, hy, by simp⟩
  | zero =>
    by_cases hk : k = j
    · subst hk
      rw [Nat.beq_refl, Nat.beq_refl] at hd
      have hd : b = some d := hd
      obtain ⟨y', e1, e2⟩ := hb d y hd hy
      exact ⟨y', by rw [← e1]; exact am_get_self, e2⟩
    · rw [ab_bn hk] at hd
      have : (0 : Int) = d := Option.some.inj hd
      subst this
      exact ⟨y, ab_set_in hk rfl hy, by simp⟩
theorem ab_Eff_3 {ls : am_L} {h : am_H} {j : Nat} {v : Value} : ab_Eff (3, (0, j), none, []) ls h (am_set2 ls j v) h := by
  intro p d y hd hy
  obtain ⟨a, k⟩ := p
  unfold ab_dl at hd
  dsimp only at hd
  cases a with
  | succ o =>
    have : (0 : Int) = d := Option.some.inj hd
    subst this
    exact ⟨y, hy, by simp⟩
  | zero =>
    cases hc : (Nat.beq k j || Nat.beq k (j + 1)) with
    | true => rw [hc] at hd; cases hd
    | false =>
      rw [hc] at hd
      have : (0 : Int) = d := Option.some.inj hd
      subst this
      simp only [Bool.or_eq_false_iff] at hc
      exact ⟨y, ab_set2_in (ab_nb hc.1) (ab_nb hc.2) rfl hy, by simp⟩
