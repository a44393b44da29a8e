/-! ===== THE TRANSFER IS SOUND: fields and arrays ===== -/
theorem ab_isO_ok {os : List Nat} {ci o : Nat} (h : ab_isO os ci = true) (ho : o ∈ os) : am_ks0[o]? = some (.inl ci) := by
  have h1 := List.all_eq_true.mp h o ho
  split at h1
  · rename_i c hc
    rw [hc, Nat.eq_of_beq_eq_true h1]
  · cases h1
theorem ab_ix {x : Int32} {n : Nat} (h0 : 0 ≤ x.toInt) (h1 : x.toInt < n) : ¬ (x < 0 ∨ n ≤ x.toNatClampNeg) := by
  have e : x.toNatClampNeg = x.toInt.toNat := rfl
  rintro (q | q)
  · have q1 := ab_lt_iff.mp q
    have q2 : x.toInt < 0 := q1
    omega
  · rw [e] at q
    omega
theorem ab_isR_ok {os : List Nat} {ty : FieldType} {V : ab_V} {o : Nat} {x : Int32} (h : ab_isR os ty V = true) (ho : o ∈ os) (h1 : V.2.1 ≤ x.toInt) (h2 : x.toInt ≤ V.2.2.1) : ∃ n, am_ks0[o]? = some (.inr (ty, n)) ∧ ¬ (x < 0 ∨ n ≤ x.toNatClampNeg) := by
  unfold ab_isR at h
  rw [Bool.and_eq_true, decide_eq_true_eq] at h
  have h3 := List.all_eq_true.mp h.2 o ho
  split at h3
  · rename_i t n hn
    simp only [Bool.and_eq_true, decide_eq_true_eq] at h3
    exact ⟨n, by rw [hn, h3.1], ab_ix (by omega) (by omega)⟩
  · cases h3
theorem ab_isRo_ok {os : List Nat} {V : ab_V} {o : Nat} {x : Int32} (h : ab_isRo os V = true) (ho : o ∈ os) (h1 : V.2.1 ≤ x.toInt) (h2 : x.toInt ≤ V.2.2.1) : ∃ C n, am_ks0[o]? = some (.inr (.object C, n)) ∧ ¬ (x < 0 ∨ n ≤ x.toNatClampNeg) := by
  unfold ab_isRo at h
  rw [Bool.and_eq_true, decide_eq_true_eq] at h
  have h3 := List.all_eq_true.mp h.2 o ho
  split at h3
  · rename_i C n hn
    simp only [decide_eq_true_eq] at h3
    exact ⟨C, n, hn, ab_ix (by omega) (by omega)⟩
  · cases h3
theorem ab_one_ok {V : ab_V} {k' : Nat} {x : Int32} (h : ab_one V = some k') (h1 : V.2.1 ≤ x.toInt) (h2 : x.toInt ≤ V.2.2.1) : x.toNatClampNeg = k' := by
  unfold ab_one at h
  cases hc : (decide (V.2.1 = V.2.2.1) && decide (0 ≤ V.2.1)) with
  | false => rw [hc] at h; cases h
  | true =>
    rw [hc, cond_true] at h
    simp only [Bool.and_eq_true, decide_eq_true_eq] at hc
    have e1 := Option.some.inj h
    have e : x.toInt = V.2.1 := by omega
    rw [← e1, ← e]
    rfl
theorem ab_fit_ok {ty : FieldType} {V : ab_V} {v : Value} (hf : ab_fit ty V = true) (hg : ab_g V v) : am_fit ty v = true := by
  obtain ⟨n, l, u, c⟩ := V
  unfold ab_fit at hf
  dsimp only at hf
  split at hf
  · obtain ⟨x, rfl, -⟩ := hg
    rfl
  · obtain ⟨x, rfl, h1, h2⟩ := hg
    simp only [Bool.and_eq_true, decide_eq_true_eq] at hf
    have h1 : l ≤ x.toInt := h1
    have h2 : x.toInt ≤ u := h2
    have hx : x.toInt = 0 ∨ x.toInt = 1 := by omega
    show (decide (x = 0) || decide (x = 1)) = true
    rw [Bool.or_eq_true, decide_eq_true_eq, decide_eq_true_eq]
    exact hx.imp (fun e => ab_eq_iff.mpr (e.trans (by decide))) (fun e => ab_eq_iff.mpr (e.trans (by decide)))
  · obtain ⟨x, rfl⟩ := hg
    rfl
  · obtain ⟨x, rfl, -⟩ := hg
    rfl
  · have hg : v = .long 0 := hg
    subst hg
    rfl
  · obtain ⟨x, rfl, -⟩ := hg
    rfl
  · obtain ⟨x, rfl, -⟩ := hg
    rfl
  · cases hf
section ABO3
variable {T : ab_T} {md : List (Nat × Nat)} {G : am_G} {M : am_M} {i : am_I} {ls : am_L} {st : List Value} {h : am_H} {nc ns : Nat} {F F' : ab_F} {E : ab_E} {pc len : Nat} {an : Nat × Nat × Nat} {z : Int}
theorem ab_top2 {e d : ab_S} {es : List ab_S} (hF : ab_gF F ls st h) (hst : F.2.1 = e :: d :: es) : ∃ v w st', st = v :: w :: st' ∧ ab_gS ls h e v ∧ ab_gS ls h d w ∧ ab_gSt ls h es st' := by
  obtain ⟨f1, hs, f3⟩ := hF
  rw [hst] at hs
  match st, hs with
  | [], hs => exact hs.elim
  | [_], hs => exact hs.2.elim
  | v :: w :: st', hs => exact ⟨v, w, st', rfl, hs.1, hs.2.1, hs.2.2⟩
theorem ab_top3 {e d c : ab_S} {es : List ab_S} (hF : ab_gF F ls st h) (hst : F.2.1 = e :: d :: c :: es) : ∃ v w u st', st = v :: w :: u :: st' ∧ ab_gS ls h e v ∧ ab_gS ls h d w ∧ ab_gS ls h c u ∧ ab_gSt ls h es st' := by
  obtain ⟨f1, hs, f3⟩ := hF
  rw [hst] at hs
  match st, hs with
  | [], hs => exact hs.elim
  | [_], hs => exact hs.2.elim
  | [_, _], hs => exact hs.2.2.elim
  | v :: w :: u :: st', hs => exact ⟨v, w, u, st', rfl, hs.1, hs.2.1, hs.2.2.1, hs.2.2.2⟩
theorem ab_t_getf {idx a b c : Nat} (hI : ab_Inv (ab_hi T) h) (hF : ab_gF F ls st h) (ht : (match F.2.1 with
    | e :: st => cond (Nat.beq e.1.1 4 && ab_isO e.1.2.2.2 a && Nat.blt b (am_tys a).length) (match ab_ld T F e.1.2.2.2 (some b) with
      | some e => some ((F.1, e :: st, F.2.2), ab_e0)
      | none => none) none
    | _ => none) = some (F', E)) : ab_Ok T md G M (pc, len, .getfield idx, (a, b, c), z) ls st h nc ns F' E := by
  split at ht
  · rename_i e es hst
    obtain ⟨v, st', rfl, g1, g2⟩ := ab_top1 hF hst
    cases hc : (Nat.beq e.1.1 4 && ab_isO e.1.2.2.2 a && Nat.blt b (am_tys a).length) with
    | false => rw [hc] at ht; cases ht
    | true =>
      rw [hc, cond_true] at ht
      rw [Bool.and_eq_true, Bool.and_eq_true] at hc
      obtain ⟨⟨c1, c2⟩, c3⟩ := hc
      obtain ⟨o, rfl, ho⟩ := ab_g4 c1 g1.1
      have hk := ab_isO_ok c2 ho
      split at ht
      · rename_i e' he
        cases ht
        exact ab_Ok_st (st' := h o b :: st') hI hF ⟨ab_ld_ok hI hF.2.2 he ho (fun k' e => Option.some.inj e) hk (Nat.le_of_ble_eq_true c3), g2⟩ (fun _ => rfl) (fun _ => by simp only [am_one, hk, Nat.beq_refl, cond_true])
      · cases ht
  · cases ht
theorem ab_t_putf {idx a b c : Nat} (hG : G.2.1 = am_tys) (hI : ab_Inv (ab_hi T) h) (hF : ab_gF F ls st h) (ht : (match F.2.1 with
    | e :: d :: st => cond (Nat.beq d.1.1 4 && ab_isO d.1.2.2.2 a && Nat.blt b (am_tys a).length && ab_fit ((am_tys a).getD b .int) e.1) (ab_wr T md F d.1.2.2.2 (some b) e st) none
    | _ => none) = some (F', E)) : ab_Ok T md G M (pc, len, .putfield idx, (a, b, c), z) ls st h nc ns F' E := by
  split at ht
  · rename_i e d es hst
    obtain ⟨v, w, st', rfl, g1, g2, g3⟩ := ab_top2 hF hst
    cases hc : (Nat.beq d.1.1 4 && ab_isO d.1.2.2.2 a && Nat.blt b (am_tys a).length && ab_fit ((am_tys a).getD b .int) e.1) with
    | false => rw [hc] at ht; cases ht
    | true =>
      rw [hc, cond_true] at ht
      rw [Bool.and_eq_true, Bool.and_eq_true, Bool.and_eq_true] at hc
      obtain ⟨⟨⟨c1, c2⟩, c3⟩, c4⟩ := hc
      obtain ⟨o, rfl, ho⟩ := ab_g4 c1 g2.1
      have hk := ab_isO_ok c2 ho
      have hf := ab_fit_ok c4 g1.1
      obtain ⟨w1, w2, w3, w4⟩ := ab_wr_ok (kk := b) hI hF.1 g3 hF.2.2 ht ho (fun k' e => Option.some.inj e) g1
      exact ⟨ls, st', _, fun _ => rfl, fun _ => by simp only [am_one, hG, hk, hf, Nat.beq_refl, Bool.and_self, cond_true, am_φ], w1, w2, w3, w4⟩
  · cases ht
theorem ab_aldx_ok {ty : FieldType} {g : ab_V → Bool} (hI : ab_Inv (ab_hi T) h) (hF : ab_gF F ls st h) (ht : ab_aldx T F ty g = some (F', E)) : ∃ e es x o n st', st = .int x :: .ref o :: st' ∧ am_ks0[o]? = some (.inr (ty, n)) ∧ ¬ (x < 0 ∨ n ≤ x.toNatClampNeg) ∧ ab_gS ls h e (h o x.toNatClampNeg) ∧ g e.1 = true ∧ ab_gSt ls h es st' ∧ F' = (F.1, e :: es, F.2.2) ∧ E = ab_e0 := by
  unfold ab_aldx at ht
  split at ht
  · rename_i j a es hst
    obtain ⟨v, w, st', rfl, g1, g2, g3⟩ := ab_top2 hF hst
    cases hc : (ab_is0 j && Nat.beq a.1.1 4 && ab_isR a.1.2.2.2 ty j.1) with
    | false => rw [hc] at ht; cases ht
    | true =>
      rw [hc, cond_true] at ht
      rw [Bool.and_eq_true, Bool.and_eq_true] at hc
      obtain ⟨⟨c1, c2⟩, c3⟩ := hc
      obtain ⟨x, rfl, l1, u1⟩ := ab_g0 c1 g1.1
      obtain ⟨o, rfl, ho⟩ := ab_g4 c2 g2.1
      obtain ⟨n, hk, hx⟩ := ab_isR_ok c3 ho l1 u1
      split at ht
      · rename_i e he
        cases hg : g e.1 with
        | false => rw [hg] at ht; cases ht
        | true =>
          rw [hg, cond_true] at ht
          cases ht
          refine ⟨e, es, x, o, n, st', rfl, hk, hx, ab_ld_ok hI hF.2.2 he ho (fun k' e => ab_one_ok e l1 u1) hk ?_, hg, g3, rfl, rfl⟩
          exact Nat.lt_of_not_le (fun q => hx (Or.inr q))
      · cases ht
  · cases ht
theorem ab_t_iaload (hI : ab_Inv (ab_hi T) h) (hF : ab_gF F ls st h) (ht : ab_aldx T F .int (fun V => Nat.beq V.1 0) = some (F', E)) : ab_Ok T md G M (pc, len, .iaload, an, z) ls st h nc ns F' E := by
  obtain ⟨e, es, x, o, n, st', rfl, hk, hx, g1, g2, g3, rfl, rfl⟩ := ab_aldx_ok hI hF ht
  obtain ⟨y, hv, -⟩ := ab_gI g2 g1.1
  rw [hv] at g1
  exact ab_Ok_st (st' := .int y :: st') hI hF ⟨g1, g3⟩ (fun _ => rfl) (fun _ => by simp only [am_one, am_ald, hk, decide_true, cond_true, am_ix, if_neg hx, hv, am_pushI])
theorem ab_t_baload (hI : ab_Inv (ab_hi T) h) (hF : ab_gF F ls st h) (ht : ab_aldx T F .boolean (fun V => Nat.beq V.1 0) = some (F', E)) : ab_Ok T md G M (pc, len, .baload, an, z) ls st h nc ns F' E := by
  obtain ⟨e, es, x, o, n, st', rfl, hk, hx, g1, g2, g3, rfl, rfl⟩ := ab_aldx_ok hI hF ht
  obtain ⟨y, hv, -⟩ := ab_gI g2 g1.1
  rw [hv] at g1
  exact ab_Ok_st (st' := .int y :: st') hI hF ⟨g1, g3⟩ (fun _ => rfl) (fun _ => by simp only [am_one, am_ald, hk, decide_true, cond_true, am_ix, if_neg hx, hv, am_pushI])
theorem ab_t_laload (hI : ab_Inv (ab_hi T) h) (hF : ab_gF F ls st h) (ht : ab_aldx T F .long ab_isLg = some (F', E)) : ab_Ok T md G M (pc, len, .laload, an, z) ls st h nc ns F' E := by
  obtain ⟨e, es, x, o, n, st', rfl, hk, hx, g1, g2, g3, rfl, rfl⟩ := ab_aldx_ok hI hF ht
  obtain ⟨y, hv⟩ := ab_gL g2 g1.1
  rw [hv] at g1
  exact ab_Ok_st (st' := .long y :: st') hI hF ⟨g1, g3⟩ (fun _ => rfl) (fun _ => by simp only [am_one, am_ald, hk, decide_true, cond_true, am_ix, if_neg hx, hv, am_pushL])
end ABO3
