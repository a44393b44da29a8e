/-! ===== THE TRANSFER IS SOUND: array writes, constants, the rest ===== -/
theorem ab_fitI {v : Value} (h : am_fit .int v = true) : ∃ x : Int32, v = .int x := by
  cases v <;> first | exact ⟨_, rfl⟩ | cases h
theorem ab_fitB {v : Value} (h : am_fit .boolean v = true) : ∃ x : Int32, v = .int x := by
  cases v <;> first | exact ⟨_, rfl⟩ | cases h
theorem ab_fitL {v : Value} (h : am_fit .long v = true) : ∃ x : Int64, v = .long x := by
  cases v <;> first | exact ⟨_, rfl⟩ | cases h
section ABO4
variable {T : ab_T} {md : List (Nat × Nat)} {G : am_G} {M : am_M} {i : am_I} {ls : am_L} {st : List Value} {h : am_H} {nc ns : Nat} {F F' : ab_F} {E : ab_E} {pc len : Nat} {an : Nat × Nat × Nat} {z : Int}
theorem ab_astx_ok {ty : FieldType} (hI : ab_Inv (ab_hi T) h) (hF : ab_gF F ls st h) (ht : ab_astx T md F ty = some (F', E)) : ∃ v x o n st', st = v :: .int x :: .ref o :: st' ∧ am_ks0[o]? = some (.inr (ty, n)) ∧ ¬ (x < 0 ∨ n ≤ x.toNatClampNeg) ∧ am_fit ty v = true ∧ ab_gF F' ls st' (am_up h o x.toNatClampNeg v) ∧ ab_Inv (ab_hi T) (am_up h o x.toNatClampNeg v) ∧ ab_Fr md h (am_up h o x.toNatClampNeg v) ∧ ab_Eff E ls h ls (am_up h o x.toNatClampNeg v) := by
  unfold ab_astx at ht
  split at ht
  · rename_i e j a es hst
    obtain ⟨v, w, u, st', rfl, g0, g1, g2, g3⟩ := ab_top3 hF hst
    cases hc : (ab_is0 j && Nat.beq a.1.1 4 && ab_isR a.1.2.2.2 ty j.1 && ab_fit ty e.1) with
    | false => rw [hc] at ht; cases ht
    | true =>
      rw [hc, cond_true] at ht
      rw [Bool.and_eq_true, Bool.and_eq_true, Bool.and_eq_true] at hc
      obtain ⟨⟨⟨c1, c2⟩, c3⟩, c4⟩ := hc
      obtain ⟨x, rfl, l1, u1⟩ := ab_g0 c1 g1.1
      obtain ⟨o, rfl, ho⟩ := ab_g4 c2 g2.1
      obtain ⟨n, hk, hx⟩ := ab_isR_ok c3 ho l1 u1
      exact ⟨v, x, o, n, st', rfl, hk, hx, ab_fit_ok c4 g0.1, ab_wr_ok hI hF.1 g3 hF.2.2 ht ho (fun k' e => ab_one_ok e l1 u1) g0⟩
  · cases ht
theorem ab_t_iastore (hI : ab_Inv (ab_hi T) h) (hF : ab_gF F ls st h) (ht : ab_astx T md F .int = some (F', E)) : ab_Ok T md G M (pc, len, .iastore, an, z) ls st h nc ns F' E := by
  obtain ⟨v, x, o, n, st', rfl, hk, hx, hf, w1, w2, w3, w4⟩ := ab_astx_ok hI hF ht
  obtain ⟨y, rfl⟩ := ab_fitI hf
  exact ⟨ls, st', _, fun _ => rfl, fun _ => by simp only [am_one, am_ast, hk, decide_true, cond_true, am_ix, if_neg hx, am_φ, am_pushI], w1, w2, w3, w4⟩
theorem ab_t_bastore (hI : ab_Inv (ab_hi T) h) (hF : ab_gF F ls st h) (ht : ab_astx T md F .boolean = some (F', E)) : ab_Ok T md G M (pc, len, .bastore, an, z) ls st h nc ns F' E := by
  obtain ⟨v, x, o, n, st', rfl, hk, hx, hf, w1, w2, w3, w4⟩ := ab_astx_ok hI hF ht
  obtain ⟨y, rfl⟩ := ab_fitB hf
  exact ⟨ls, st', _, fun _ => rfl, fun _ => by simp only [am_one, am_ast, hk, hf, decide_true, cond_true, am_ix, if_neg hx, am_φ, am_pushI], w1, w2, w3, w4⟩
theorem ab_t_lastore (hI : ab_Inv (ab_hi T) h) (hF : ab_gF F ls st h) (ht : ab_astx T md F .long = some (F', E)) : ab_Ok T md G M (pc, len, .lastore, an, z) ls st h nc ns F' E := by
  obtain ⟨v, x, o, n, st', rfl, hk, hx, hf, w1, w2, w3, w4⟩ := ab_astx_ok hI hF ht
  obtain ⟨y, rfl⟩ := ab_fitL hf
  exact ⟨ls, st', _, fun _ => rfl, fun _ => by simp only [am_one, am_ast, hk, decide_true, cond_true, am_ix, if_neg hx, am_φ, am_pushL], w1, w2, w3, w4⟩
theorem ab_t_aaload (hI : ab_Inv (ab_hi T) h) (hF : ab_gF F ls st h) (ht : (match F.2.1 with
    | j :: a :: st => cond (ab_is0 j && Nat.beq a.1.1 4 && ab_isRo a.1.2.2.2 j.1) (match ab_ld T F a.1.2.2.2 (ab_one j.1) with
      | some e => cond (Nat.beq e.1.1 4) (some ((F.1, e :: st, F.2.2), ab_e0)) none
      | none => none) none
    | _ => none) = some (F', E)) : ab_Ok T md G M (pc, len, .aaload, an, z) ls st h nc ns F' E := by
  split at ht
  · rename_i j a es hst
    obtain ⟨v, w, st', rfl, g1, g2, g3⟩ := ab_top2 hF hst
    cases hc : (ab_is0 j && Nat.beq a.1.1 4 && ab_isRo a.1.2.2.2 j.1) with
    | false => rw [hc] at ht; cases ht
    | true =>
      rw [hc, cond_true] at ht
      rw [Bool.and_eq_true, Bool.and_eq_true] at hc
      obtain ⟨⟨c1, c2⟩, c3⟩ := hc
      obtain ⟨x, rfl, l1, u1⟩ := ab_g0 c1 g1.1
      obtain ⟨o, rfl, ho⟩ := ab_g4 c2 g2.1
      obtain ⟨C, n, hk, hx⟩ := ab_isRo_ok c3 ho l1 u1
      split at ht
      · rename_i e he
        cases hg : Nat.beq e.1.1 4 with
        | false => rw [hg] at ht; cases ht
        | true =>
          rw [hg, cond_true] at ht
          cases ht
          have g4 := ab_ld_ok (ls := ls) (kk := x.toNatClampNeg) hI hF.2.2 he ho (fun k' e => ab_one_ok e l1 u1) hk (Nat.lt_of_not_le (fun q => hx (Or.inr q)))
          obtain ⟨y, hv, -⟩ := ab_g4 hg g4.1
          rw [hv] at g4
          exact ab_Ok_st (st' := .ref y :: st') hI hF ⟨g4, g3⟩ (fun _ => rfl) (fun _ => by simp only [am_one, am_aald, hk, am_ix, if_neg hx, hv, am_pushR])
      · cases ht
  · cases ht
theorem ab_t_iinc {j : Nat} {n : Int} (hI : ab_Inv (ab_hi T) h) (hF : ab_gF F ls st h) (ht : (match ab_loc F.1 j with
    | some V => cond (Nat.beq V.1 0 && Nat.blt j M.2.1.1 && ab_in32 n) (cond (decide (-2147483648 ≤ V.2.1 + n) && decide (V.2.2.1 + n ≤ 2147483647))
        (some (ab_setL F j false (ab_i (V.2.1 + n) (V.2.2.1 + n)) F.2.1, (1, (0, j), some n, []))) (some (ab_setL F j false ab_top F.2.1, (1, (0, j), none, [])))) none
    | none => none) = some (F', E)) : ab_Ok T md G M (pc, len, .iinc j n, an, z) ls st h nc ns F' E := by
  split at ht
  · rename_i V hV
    obtain ⟨v, g1, g2⟩ := hF.1 _ (ab_loc_mem hV)
    cases hc : (Nat.beq V.1 0 && Nat.blt j M.2.1.1 && ab_in32 n) with
    | false => rw [hc] at ht; cases ht
    | true =>
      rw [hc, cond_true] at ht
      rw [Bool.and_eq_true, Bool.and_eq_true] at hc
      obtain ⟨⟨c1, c2⟩, c3⟩ := hc
      obtain ⟨x, rfl, l1, u1⟩ := ab_gI c1 g2
      have g1 : am_get ls j = some (.int x) := g1
      have ho : ∀ cs, am_one am_φ false G am_rc0 M ((pc, len, .iinc j n, an, z) :: cs, ls, st, am_ks0, h, nc, ns) = am_go (pc, len, .iinc j n, an, z) cs (ab_setC ls j false (.int (x + Int32.ofInt n))) st am_ks0 h nc ns := fun _ => by
        simp only [am_one, g1, c2, cond_true, am_φ, am_pushI]
        rfl
      cases hd : (decide (-2147483648 ≤ V.2.1 + n) && decide (V.2.2.1 + n ≤ 2147483647)) with
      | true =>
        rw [hd, cond_true] at ht
        cases ht
        simp only [Bool.and_eq_true, decide_eq_true_eq] at hd
        have e := ab_ofInt c3
        have hs : (x + Int32.ofInt n).toInt = x.toInt + n := by
          rw [ab_iadd (by omega) (by omega), e]
        refine ⟨_, st, h, fun _ => rfl, ho, ab_setL_ok hF.1 hF.2.1 hF.2.2 (ab_i_ok (by omega) (by omega)), hI, ab_Fr_refl, ab_Eff_1 (fun d y hb hy => ⟨_, rfl, ?_⟩)⟩
        rw [g1] at hy
        cases hy
        rw [hs, Option.some.inj hb]
      | false =>
        rw [hd, cond_false] at ht
        cases ht
        exact ⟨_, st, h, fun _ => rfl, ho, ab_setL_ok hF.1 hF.2.1 hF.2.2 (ab_top_ok _), hI, ab_Fr_refl, ab_Eff_1 (fun d y hb hy => by cases hb)⟩
  · cases ht
theorem ab_t_dup2 (hI : ab_Inv (ab_hi T) h) (hF : ab_gF F ls st h) (ht : (match F.2.1 with
    | e :: d :: st => cond (ab_cat1 e && ab_cat1 d) (some ((F.1, e :: d :: e :: d :: st, F.2.2), ab_e0)) none
    | _ => none) = some (F', E)) : ab_Ok T md G M (pc, len, .dup2, an, z) ls st h nc ns F' E := by
  split at ht
  · rename_i e d es hst
    obtain ⟨v, w, st', rfl, g1, g2, g3⟩ := ab_top2 hF hst
    cases hc : (ab_cat1 e && ab_cat1 d) with
    | false => rw [hc] at ht; cases ht
    | true =>
      rw [hc, cond_true] at ht
      rw [Bool.and_eq_true] at hc
      cases ht
      exact ab_Ok_st (st' := v :: w :: v :: w :: st') hI hF ⟨g1, g2, g1, g2, g3⟩ (fun _ => rfl) (fun _ => by simp only [am_one, ab_cat1_ok hc.1 g1.1, ab_cat1_ok hc.2 g2.1, Bool.and_self, cond_true])
  · cases ht
theorem ab_t_ldc {j a c : Nat} (hI : ab_Inv (ab_hi T) h) (hF : ab_gF F ls st h) (ht : cond (ab_in32 z) (some ((F.1, ab_n (ab_i z z) :: F.2.1, F.2.2), ab_e0)) none = some (F', E)) : ab_Ok T md G M (pc, len, .ldc j, (a, 0, c), z) ls st h nc ns F' E := by
  cases hc : ab_in32 z with
  | false => rw [hc] at ht; cases ht
  | true =>
    rw [hc, cond_true] at ht
    cases ht
    exact ab_Ok_st (st' := .int (Int32.ofInt z) :: st) hI hF ⟨ab_n_ok (ab_c_ok hc), hF.2.1⟩ (fun _ => rfl) (fun _ => by simp only [am_one])
theorem ab_t_ldc2 {j : Nat} (hI : ab_Inv (ab_hi T) h) (hF : ab_gF F ls st h) (ht : cond (decide (Int64.ofInt z = 0)) (some ((F.1, ab_n (1, 0, 0, []) :: F.2.1, F.2.2), ab_e0)) (some ((F.1, ab_n (2, 0, 0, []) :: F.2.1, F.2.2), ab_e0)) = some (F', E)) : ab_Ok T md G M (pc, len, .ldc2_w j, an, z) ls st h nc ns F' E := by
  cases hc : decide (Int64.ofInt z = 0) with
  | true =>
    rw [hc, cond_true] at ht
    cases ht
    exact ab_Ok_st (st' := .long (Int64.ofInt z) :: st) hI hF ⟨ab_n_ok ⟨_, rfl⟩, hF.2.1⟩ (fun _ => rfl) (fun _ => by simp only [am_one])
  | false =>
    rw [hc, cond_false] at ht
    cases ht
    exact ab_Ok_st (st' := .long (Int64.ofInt z) :: st) hI hF ⟨ab_n_ok ⟨_, rfl, of_decide_eq_false hc⟩, hF.2.1⟩ (fun _ => rfl) (fun _ => by simp only [am_one])
end ABO4
