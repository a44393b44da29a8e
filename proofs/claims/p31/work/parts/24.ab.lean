/-! ===== INTERVALS: a check of methods that the kernel runs ===== -/
/-- kind, low, high, cells: 0 an int of low .. high, 1 a long, 2 a long that isn't 0, 3 the long 0, 4 a reference to one of the cells -/
abbrev ab_V : Type := Nat × Int × Int × List Nat
def ab_g (V : ab_V) (v : Value) : Prop := match V.1 with
  | 0 => ∃ x : Int32, v = .int x ∧ V.2.1 ≤ x.toInt ∧ x.toInt ≤ V.2.2.1
  | 1 => ∃ x : Int64, v = .long x
  | 2 => ∃ x : Int64, v = .long x ∧ x ≠ 0
  | 3 => v = .long 0
  | _ => ∃ n : Nat, v = .ref n ∧ n ∈ V.2.2.2
/-- V among W -/
def ab_le (V W : ab_V) : Bool := match V.1, W.1 with
  | 0, 0 => decide (W.2.1 ≤ V.2.1) && decide (V.2.2.1 ≤ W.2.2.1)
  | 1, 1 => true
  | 2, 1 => true
  | 2, 2 => true
  | 3, 1 => true
  | 3, 3 => true
  | 4, 4 => V.2.2.2.all (fun n => W.2.2.2.any (fun m => Nat.beq m n))
  | _, _ => false
theorem ab_le_ok {V W : ab_V} (h : ab_le V W = true) {v : Value} (hv : ab_g V v) : ab_g W v := by
  obtain ⟨a, l, u, c⟩ := V
  obtain ⟨b, l', u', c'⟩ := W
  unfold ab_le at h
  split at h
  · rename_i e1 e2
    dsimp only at e1 e2
    subst e1; subst e2
    simp only [Bool.and_eq_true, decide_eq_true_eq] at h
    obtain ⟨x, rfl, h1, h2⟩ := hv
    exact ⟨x, rfl, Int.le_trans h.1 h1, Int.le_trans h2 h.2⟩
  · rename_i e1 e2
    dsimp only at e1 e2
    subst e1; subst e2
    exact hv
  · rename_i e1 e2
    dsimp only at e1 e2
    subst e1; subst e2
    obtain ⟨x, rfl, -⟩ := hv
    exact ⟨x, rfl⟩
  · rename_i e1 e2
    dsimp only at e1 e2
    subst e1; subst e2
    exact hv
  · rename_i e1 e2
    dsimp only at e1 e2
    subst e1; subst e2
    exact ⟨0, hv⟩
  · rename_i e1 e2
    dsimp only at e1 e2
    subst e1; subst e2
    exact hv
  · rename_i e1 e2
    dsimp only at e1 e2
    subst e1; subst e2
    obtain ⟨n, rfl, hn⟩ := hv
    refine ⟨n, rfl, ?_⟩
    obtain ⟨m, hm, he⟩ := List.any_eq_true.mp (List.all_eq_true.mp h n hn)
    exact (Nat.eq_of_beq_eq_true he) ▸ hm
  · cases h
/-- a place: (0, j) a local, (o + 1, k) of the heap -/
abbrev ab_P : Type := Nat × Nat
def ab_at (ls : am_L) (h : am_H) (p : ab_P) : Option Value := match p.1 with
  | 0 => am_get ls p.2
  | o + 1 => some (h o p.2)
/-- on the stack: a value, how it is tied (0 not; 1 the place's number and so much; 2 it is 0 just if the place's long is; 3 the place's own value; 4 the place's number is at most this and so much), the place, how much -/
abbrev ab_S : Type := ab_V × Nat × ab_P × Int
def ab_tie (ls : am_L) (h : am_H) (e : ab_S) (v : Value) : Prop := match e.2.1 with
  | 1 => ∃ x y : Int32, v = .int x ∧ ab_at ls h e.2.2.1 = some (.int y) ∧ x.toInt = y.toInt + e.2.2.2
  | 2 => ∃ (x : Int32) (y : Int64), v = .int x ∧ ab_at ls h e.2.2.1 = some (.long y) ∧ (x = 0 ↔ y = 0)
  | 3 => ab_at ls h e.2.2.1 = some v
  | 4 => ∃ x y : Int32, v = .int x ∧ ab_at ls h e.2.2.1 = some (.int y) ∧ y.toInt ≤ x.toInt + e.2.2.2
  | _ => True
def ab_gS (ls : am_L) (h : am_H) (e : ab_S) (v : Value) : Prop := ab_g e.1 v ∧ ab_tie ls h e v
def ab_gSt (ls : am_L) (h : am_H) : List ab_S → List Value → Prop
  | [], [] => True
  | e :: es, v :: vs => ab_gS ls h e v ∧ ab_gSt ls h es vs
  | _, _ => False
/-- locals, stack, places of the heap of which more is known -/
abbrev ab_F : Type := List (Nat × ab_V) × List ab_S × List (ab_P × ab_V)
def ab_gF (F : ab_F) (ls : am_L) (st : List Value) (h : am_H) : Prop :=
  (∀ q ∈ F.1, ∃ v, am_get ls q.1 = some v ∧ ab_g q.2 v) ∧ ab_gSt ls h F.2.1 st ∧ (∀ q ∈ F.2.2, ∃ v, ab_at ls h q.1 = some v ∧ ab_g q.2 v)
/-- the heap keeps its table: hi gives what each place may hold -/
def ab_sz (k : am_k) : Nat := match k with
  | .inl ci => (am_tys ci).length
  | .inr q => q.2
def ab_Inv (hi : Nat → Nat → ab_V) (h : am_H) : Prop := ∀ (o k : Nat) (kd : am_k), am_ks0[o]? = some kd → k < ab_sz kd → ab_g (hi o k) (h o k)
/-- what a method may change: (o, 0) all of a cell, (o, k + 1) one place -/
def ab_in (md : List (Nat × Nat)) (o k : Nat) : Bool := md.any (fun q => Nat.beq q.1 o && (Nat.beq q.2 0 || Nat.beq q.2 (k + 1)))
def ab_Fr (md : List (Nat × Nat)) (h h' : am_H) : Prop := ∀ o k, ab_in md o k = false → h' o k = h o k
theorem ab_Fr_refl {md : List (Nat × Nat)} {h : am_H} : ab_Fr md h h := fun _ _ _ => rfl
theorem ab_Fr_trans {md : List (Nat × Nat)} {h h' h'' : am_H} (a : ab_Fr md h h') (b : ab_Fr md h' h'') : ab_Fr md h h'' := fun o k hk => (b o k hk).trans (a o k hk)
theorem ab_Fr_up {md : List (Nat × Nat)} {h h' : am_H} {o k : Nat} {v : Value} (hm : ab_in md o k = true) (a : ab_Fr md h h') : ab_Fr md h (am_up h' o k v) := by
  intro o' k' hk
  by_cases ho : o' = o
  · by_cases hkk : k' = k
    · subst ho; subst hkk; rw [hm] at hk; cases hk
    · subst ho; rw [am_up_same _ _ _ _ _ hkk]; exact a _ _ hk
  · rw [am_up_other _ _ _ _ _ ho]; exact a _ _ hk
theorem ab_Inv_up {hi : Nat → Nat → ab_V} {h : am_H} {o k : Nat} {v : Value} (hI : ab_Inv hi h) (hv : ab_g (hi o k) v) : ab_Inv hi (am_up h o k v) := by
  intro o' k' kd hkd hk
  by_cases ho : o' = o
  · subst ho
    by_cases hkk : k' = k
    · subst hkk; rw [am_up_self]; exact hv
    · rw [am_up_same _ _ _ _ _ hkk]; exact hI o' k' kd hkd hk
  · rw [am_up_other _ _ _ _ _ ho]; exact hI o' k' kd hkd hk
/-! ===== what is known of a place ===== -/
def ab_find (l : List (ab_P × ab_V)) (p : ab_P) : Option ab_V := match l with
  | [] => none
  | q :: r => cond (Nat.beq q.1.1 p.1 && Nat.beq q.1.2 p.2) (some q.2) (ab_find r p)
theorem ab_find_mem {p : ab_P} {V : ab_V} : ∀ {l : List (ab_P × ab_V)}, ab_find l p = some V → (p, V) ∈ l
  | [], h => by cases h
  | q :: r, h => by
    unfold ab_find at h
    cases hb : (Nat.beq q.1.1 p.1 && Nat.beq q.1.2 p.2) with
    | true =>
      rw [hb, cond_true] at h
      rw [Bool.and_eq_true] at hb
      have e1 := Nat.eq_of_beq_eq_true hb.1
      have e2 := Nat.eq_of_beq_eq_true hb.2
      obtain ⟨⟨a, b⟩, W⟩ := q
      obtain ⟨c, d⟩ := p
      dsimp only at e1 e2
      subst e1; subst e2
      cases h
      exact List.mem_cons_self
    | false =>
      rw [hb, cond_false] at h
      exact List.mem_cons_of_mem _ (ab_find_mem h)
def ab_loc (l : List (Nat × ab_V)) (j : Nat) : Option ab_V := match l with
  | [] => none
  | q :: r => cond (Nat.beq q.1 j) (some q.2) (ab_loc r j)
theorem ab_loc_mem {j : Nat} {V : ab_V} : ∀ {l : List (Nat × ab_V)}, ab_loc l j = some V → (j, V) ∈ l
  | [], h => by cases h
  | q :: r, h => by
    unfold ab_loc at h
    cases hb : Nat.beq q.1 j with
    | true =>
      rw [hb, cond_true] at h
      have e := Nat.eq_of_beq_eq_true hb
      obtain ⟨a, W⟩ := q
      dsimp only at e
      subst e
      cases h
      exact List.mem_cons_self
    | false =>
      rw [hb, cond_false] at h
      exact List.mem_cons_of_mem _ (ab_loc_mem h)
/-- ties to some places are cut -/
def ab_cut (f : ab_P → Bool) (es : List ab_S) : List ab_S := es.map (fun e => cond (f e.2.2.1) (e.1, 0, e.2.2.1, e.2.2.2) e)
theorem ab_tie_0 {ls : am_L} {h : am_H} {V : ab_V} {p : ab_P} {n : Int} {v : Value} : ab_tie ls h (V, 0, p, n) v := trivial
theorem ab_tie_same {ls ls' : am_L} {h h' : am_H} {e : ab_S} {v : Value} (hp : ab_at ls' h' e.2.2.1 = ab_at ls h e.2.2.1) (ht : ab_tie ls h e v) : ab_tie ls' h' e v := by
  unfold ab_tie at ht ⊢
  split
  · rename_i e1
    rw [e1] at ht
    rw [hp]
    exact ht
  · rename_i e1
    rw [e1] at ht
    rw [hp]
    exact ht
  · rename_i e1
    rw [e1] at ht
    rw [hp]
    exact ht
  · rename_i e1
    rw [e1] at ht
    rw [hp]
    exact ht
  · trivial
theorem ab_cut_ok {f : ab_P → Bool} {ls ls' : am_L} {h h' : am_H} (hp : ∀ p : ab_P, f p = false → ab_at ls' h' p = ab_at ls h p) : ∀ {es : List ab_S} {vs : List Value}, ab_gSt ls h es vs → ab_gSt ls' h' (ab_cut f es) vs
  | [], [], _ => trivial
  | [], _ :: _, hh => hh.elim
  | _ :: _, [], hh => hh.elim
  | e :: es, v :: vs, hh => by
    refine ⟨?_, ab_cut_ok hp hh.2⟩
    cases hf : f e.2.2.1 with
    | true =>
      show ab_gS ls' h' (cond (f e.2.2.1) (e.1, 0, e.2.2.1, e.2.2.2) e) v
      rw [hf]
      exact ⟨hh.1.1, ab_tie_0⟩
    | false =>
      show ab_gS ls' h' (cond (f e.2.2.1) (e.1, 0, e.2.2.1, e.2.2.2) e) v
      rw [hf]
      exact ⟨hh.1.1, ab_tie_same (hp _ hf) hh.1.2⟩
