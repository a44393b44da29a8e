/-! ===== WHAT ELSE HOLDS OF THE CLASS'S CELLS ===== -/
/-- where a knot of a law is a name, it is one of the six -/
def ab_J1 (a b : Nat) (h : am_H) : Prop := ∀ k, k < 64 → h a k = .int 1 → ∃ v : Int32, h b k = .int v ∧ 0 ≤ v.toInt ∧ v.toInt ≤ 5
/-- a cheek that isn't a strike is about a blower -/
def ab_J2 (a b : Nat) (h : am_H) : Prop := ∀ k, k < 24 → ¬ h a k = .int 2 → ∃ v : Int32, h b k = .int v ∧ 0 ≤ v.toInt ∧ v.toInt ≤ 3
def ab_Jc (h : am_H) : Prop := ab_J1 12 13 h ∧ ab_J1 33 34 h ∧ ab_J2 143 144 h
theorem ab_J1_fr {a b : Nat} {h h' : am_H} (ha : ∀ k, h' a k = h a k) (hb : ∀ k, h' b k = h b k) (hj : ab_J1 a b h) : ab_J1 a b h' := by
  intro k hk he
  rw [ha] at he
  rw [hb]
  exact hj k hk he
theorem ab_J2_fr {a b : Nat} {h h' : am_H} (ha : ∀ k, h' a k = h a k) (hb : ∀ k, h' b k = h b k) (hj : ab_J2 a b h) : ab_J2 a b h' := by
  intro k hk he
  rw [ha] at he
  rw [hb]
  exact hj k hk he
/-- of the other side's cells anything may be said beside it -/
def ab_XF (X : am_H → Prop) : Prop := ∀ h h' : am_H, (∀ o k, 164 ≤ o → h' o k = h o k) → X h → X h'
def ab_JX (X : am_H → Prop) (h : am_H) : Prop := ab_Jc h ∧ X h
def ab_no (o : Nat) (md : List (Nat × Nat)) : Bool := md.all (fun q => !Nat.beq q.1 o)
theorem ab_no_ok {o : Nat} {md : List (Nat × Nat)} (hn : ab_no o md = true) {h h' : am_H} (hf : ab_Fr md h h') (k : Nat) : h' o k = h o k := by
  refine hf o k ?_
  cases hi : ab_in md o k with
  | false => rfl
  | true =>
    obtain ⟨q, hq, hb⟩ := List.any_eq_true.mp hi
    have h1 := List.all_eq_true.mp hn q hq
    rw [Bool.and_eq_true] at hb
    rw [hb.1] at h1
    cases h1
def ab_low (md : List (Nat × Nat)) : Bool := md.all (fun q => Nat.blt q.1 164)
theorem ab_low_ok {md : List (Nat × Nat)} (hn : ab_low md = true) {h h' : am_H} (hf : ab_Fr md h h') : ∀ o k, 164 ≤ o → h' o k = h o k := by
  intro o k ho
  refine hf o k ?_
  cases hi : ab_in md o k with
  | false => rfl
  | true =>
    obtain ⟨q, hq, hb⟩ := List.any_eq_true.mp hi
    have h1 : q.1 < 164 := Nat.le_of_ble_eq_true (List.all_eq_true.mp hn q hq)
    rw [Bool.and_eq_true] at hb
    have := Nat.eq_of_beq_eq_true hb.1
    omega
def ab_disC (md : List (Nat × Nat)) : Bool := ab_low md && ab_no 12 md && ab_no 13 md && ab_no 33 md && ab_no 34 md && ab_no 143 md && ab_no 144 md
theorem ab_JX_fr {X : am_H → Prop} (hX : ab_XF X) {md : List (Nat × Nat)} (hd : ab_disC md = true) : ∀ h h', ab_Fr md h h' → ab_JX X h → ab_JX X h' := by
  intro h h' hf hj
  unfold ab_disC at hd
  simp only [Bool.and_eq_true] at hd
  obtain ⟨⟨⟨⟨⟨⟨d0, d1⟩, d2⟩, d3⟩, d4⟩, d5⟩, d6⟩ := hd
  exact ⟨⟨ab_J1_fr (ab_no_ok d1 hf) (ab_no_ok d2 hf) hj.1.1, ab_J1_fr (ab_no_ok d3 hf) (ab_no_ok d4 hf) hj.1.2.1, ab_J2_fr (ab_no_ok d5 hf) (ab_no_ok d6 hf) hj.1.2.2⟩, hX h h' (ab_low_ok d0 hf) hj.2⟩
/-- a pair of rows is written at one place -/
theorem ab_J1_put {a b : Nat} {h : am_H} {q : Nat} {op v : Int32} (hab : ¬ a = b) (hj : ab_J1 a b h) (hp : op = 1 → 0 ≤ v.toInt ∧ v.toInt ≤ 5) : ab_J1 a b (am_up (am_up h a q (.int op)) b q (.int v)) := by
  intro k hk he
  rw [am_up_other _ _ _ _ _ hab] at he
  by_cases hq : k = q
  · subst hq
    rw [am_up_self] at he
    rw [am_up_self]
    cases he
    exact ⟨v, rfl, hp rfl⟩
  · rw [am_up_same _ _ _ _ _ hq] at he
    rw [am_up_same _ _ _ _ _ hq, am_up_other _ _ _ _ _ (fun e => hab e.symm)]
    exact hj k hk he
theorem ab_J2_put {a b : Nat} {h : am_H} {q : Nat} {op v : Int32} (hab : ¬ a = b) (hj : ab_J2 a b h) (hp : ¬ op = 2 → 0 ≤ v.toInt ∧ v.toInt ≤ 3) : ab_J2 a b (am_up (am_up h a q (.int op)) b q (.int v)) := by
  intro k hk he
  rw [am_up_other _ _ _ _ _ hab] at he
  by_cases hq : k = q
  · subst hq
    rw [am_up_self] at he
    rw [am_up_self]
    refine ⟨v, rfl, hp (fun e => he ?_)⟩
    rw [e]
  · rw [am_up_same _ _ _ _ _ hq] at he
    rw [am_up_same _ _ _ _ _ hq, am_up_other _ _ _ _ _ (fun e => hab e.symm)]
    exact hj k hk he
