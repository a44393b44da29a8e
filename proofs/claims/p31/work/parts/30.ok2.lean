/-! ===== THE TRANSFER IS SOUND, more instructions (written by wip/s/mkok2.py) ===== -/
section ABO2
variable {T : ab_T} {md : List (Nat × Nat)} {G : am_G} {M : am_M} {i : am_I} {ls : am_L} {st : List Value} {h : am_H} {nc ns : Nat} {F F' : ab_F} {E : ab_E} {pc len : Nat} {an : Nat × Nat × Nat} {z : Int}
theorem ab_t_iand (hI : ab_Inv (ab_hi T) h) (hF : ab_gF F ls st h) (ht : ab_two F (fun _ _ => some (ab_n ab_top)) = some (F', E)) : ab_Ok T md G M (pc, len, .iand, an, z) ls st h nc ns F' E := by
  obtain ⟨a, b, e, es, x, y, st', rfl, g1, g2, g3, g4, g5, g6, rfl, rfl⟩ := ab_two_ok hF ht
  cases g5
  exact ab_Ok_st (st' := .int (x &&& y) :: st') hI hF ⟨ab_n_ok (ab_top_ok _), g6⟩ (fun _ => rfl) (fun _ => by simp only [am_one])
theorem ab_t_ior (hI : ab_Inv (ab_hi T) h) (hF : ab_gF F ls st h) (ht : ab_two F (fun _ _ => some (ab_n ab_top)) = some (F', E)) : ab_Ok T md G M (pc, len, .ior, an, z) ls st h nc ns F' E := by
  obtain ⟨a, b, e, es, x, y, st', rfl, g1, g2, g3, g4, g5, g6, rfl, rfl⟩ := ab_two_ok hF ht
  cases g5
  exact ab_Ok_st (st' := .int (x ||| y) :: st') hI hF ⟨ab_n_ok (ab_top_ok _), g6⟩ (fun _ => rfl) (fun _ => by simp only [am_one])
theorem ab_t_ishl (hI : ab_Inv (ab_hi T) h) (hF : ab_gF F ls st h) (ht : ab_two F (fun _ _ => some (ab_n ab_top)) = some (F', E)) : ab_Ok T md G M (pc, len, .ishl, an, z) ls st h nc ns F' E := by
  obtain ⟨a, b, e, es, x, y, st', rfl, g1, g2, g3, g4, g5, g6, rfl, rfl⟩ := ab_two_ok hF ht
  cases g5
  exact ab_Ok_st (st' := .int (x <<< (y &&& 31)) :: st') hI hF ⟨ab_n_ok (ab_top_ok _), g6⟩ (fun _ => rfl) (fun _ => by simp only [am_one])
theorem ab_t_ishr (hI : ab_Inv (ab_hi T) h) (hF : ab_gF F ls st h) (ht : ab_two F (fun _ _ => some (ab_n ab_top)) = some (F', E)) : ab_Ok T md G M (pc, len, .ishr, an, z) ls st h nc ns F' E := by
  obtain ⟨a, b, e, es, x, y, st', rfl, g1, g2, g3, g4, g5, g6, rfl, rfl⟩ := ab_two_ok hF ht
  cases g5
  exact ab_Ok_st (st' := .int (x >>> (y &&& 31)) :: st') hI hF ⟨ab_n_ok (ab_top_ok _), g6⟩ (fun _ => rfl) (fun _ => by simp only [am_one])
theorem ab_t_iushr (hI : ab_Inv (ab_hi T) h) (hF : ab_gF F ls st h) (ht : ab_two F (fun _ _ => some (ab_n ab_top)) = some (F', E)) : ab_Ok T md G M (pc, len, .iushr, an, z) ls st h nc ns F' E := by
  obtain ⟨a, b, e, es, x, y, st', rfl, g1, g2, g3, g4, g5, g6, rfl, rfl⟩ := ab_two_ok hF ht
  cases g5
  exact ab_Ok_st (st' := .int ((x.toUInt32 >>> (y.toUInt32 &&& Int32.toUInt32 31)).toInt32) :: st') hI hF ⟨ab_n_ok (ab_top_ok _), g6⟩ (fun _ => rfl) (fun _ => by simp only [am_one])
theorem ab_t_ladd (hI : ab_Inv (ab_hi T) h) (hF : ab_gF F ls st h) (ht : ab_twoL F (fun _ _ => some (ab_n (1, 0, 0, []))) = some (F', E)) : ab_Ok T md G M (pc, len, .ladd, an, z) ls st h nc ns F' E := by
  obtain ⟨a, b, e, es, x, y, st', rfl, g1, g2, g5, g6, rfl, rfl⟩ := ab_twoL_ok hF ht
  cases g5
  exact ab_Ok_st (st' := .long (x + y) :: st') hI hF ⟨ab_n_ok ⟨_, rfl⟩, g6⟩ (fun _ => rfl) (fun _ => by simp only [am_one])
theorem ab_t_lsub (hI : ab_Inv (ab_hi T) h) (hF : ab_gF F ls st h) (ht : ab_twoL F (fun _ _ => some (ab_n (1, 0, 0, []))) = some (F', E)) : ab_Ok T md G M (pc, len, .lsub, an, z) ls st h nc ns F' E := by
  obtain ⟨a, b, e, es, x, y, st', rfl, g1, g2, g5, g6, rfl, rfl⟩ := ab_twoL_ok hF ht
  cases g5
  exact ab_Ok_st (st' := .long (x - y) :: st') hI hF ⟨ab_n_ok ⟨_, rfl⟩, g6⟩ (fun _ => rfl) (fun _ => by simp only [am_one])
theorem ab_t_lmul (hI : ab_Inv (ab_hi T) h) (hF : ab_gF F ls st h) (ht : ab_twoL F (fun _ _ => some (ab_n (1, 0, 0, []))) = some (F', E)) : ab_Ok T md G M (pc, len, .lmul, an, z) ls st h nc ns F' E := by
  obtain ⟨a, b, e, es, x, y, st', rfl, g1, g2, g5, g6, rfl, rfl⟩ := ab_twoL_ok hF ht
  cases g5
  exact ab_Ok_st (st' := .long (x * y) :: st') hI hF ⟨ab_n_ok ⟨_, rfl⟩, g6⟩ (fun _ => rfl) (fun _ => by simp only [am_one])
theorem ab_t_land (hI : ab_Inv (ab_hi T) h) (hF : ab_gF F ls st h) (ht : ab_twoL F (fun _ _ => some (ab_n (1, 0, 0, []))) = some (F', E)) : ab_Ok T md G M (pc, len, .land, an, z) ls st h nc ns F' E := by
  obtain ⟨a, b, e, es, x, y, st', rfl, g1, g2, g5, g6, rfl, rfl⟩ := ab_twoL_ok hF ht
  cases g5
  exact ab_Ok_st (st' := .long (x &&& y) :: st') hI hF ⟨ab_n_ok ⟨_, rfl⟩, g6⟩ (fun _ => rfl) (fun _ => by simp only [am_one])
theorem ab_t_ldiv (hI : ab_Inv (ab_hi T) h) (hF : ab_gF F ls st h) (ht : ab_twoL F (fun _ b => cond (Nat.beq b.1.1 2) (some (ab_n (1, 0, 0, []))) none) = some (F', E)) : ab_Ok T md G M (pc, len, .ldiv, an, z) ls st h nc ns F' E := by
  obtain ⟨a, b, e, es, x, y, st', rfl, g1, g2, g5, g6, rfl, rfl⟩ := ab_twoL_ok hF ht
  cases hb : Nat.beq b.1.1 2 with
  | false => rw [hb] at g5; cases g5
  | true =>
    rw [hb, cond_true] at g5
    cases g5
    have hy := g2.1
    unfold ab_g at hy
    rw [Nat.eq_of_beq_eq_true hb] at hy
    obtain ⟨y', e1, h0⟩ := hy
    cases e1
    exact ab_Ok_st (st' := .long (x / y) :: st') hI hF ⟨ab_n_ok ⟨_, rfl⟩, g6⟩ (fun _ => rfl) (fun _ => by simp only [am_one, h0, if_false])
theorem ab_t_lrem (hI : ab_Inv (ab_hi T) h) (hF : ab_gF F ls st h) (ht : ab_twoL F (fun _ b => cond (Nat.beq b.1.1 2) (some (ab_n (1, 0, 0, []))) none) = some (F', E)) : ab_Ok T md G M (pc, len, .lrem, an, z) ls st h nc ns F' E := by
  obtain ⟨a, b, e, es, x, y, st', rfl, g1, g2, g5, g6, rfl, rfl⟩ := ab_twoL_ok hF ht
  cases hb : Nat.beq b.1.1 2 with
  | false => rw [hb] at g5; cases g5
  | true =>
    rw [hb, cond_true] at g5
    cases g5
    have hy := g2.1
    unfold ab_g at hy
    rw [Nat.eq_of_beq_eq_true hb] at hy
    obtain ⟨y', e1, h0⟩ := hy
    cases e1
    exact ab_Ok_st (st' := .long (x - x / y * y) :: st') hI hF ⟨ab_n_ok ⟨_, rfl⟩, g6⟩ (fun _ => rfl) (fun _ => by simp only [am_one, h0, if_false])
theorem ab_t_irem (hI : ab_Inv (ab_hi T) h) (hF : ab_gF F ls st h) (ht : ab_two F (fun a b => (ab_rem a.1 b.1).map ab_n) = some (F', E)) : ab_Ok T md G M (pc, len, .irem, an, z) ls st h nc ns F' E := by
  obtain ⟨a, b, e, es, x, y, st', rfl, g1, g2, g3, g4, g5, g6, rfl, rfl⟩ := ab_two_ok hF ht
  obtain ⟨x', e1, l1, u1⟩ := ab_g0 g3 g1.1
  cases e1
  obtain ⟨y', e2, l2, u2⟩ := ab_g0 g4 g2.1
  cases e2
  obtain ⟨X, hX, rfl⟩ := Option.map_eq_some_iff.mp g5
  unfold ab_rem at hX
  cases hc : decide (1 ≤ b.1.2.1) with
  | false =>
    rw [hc, cond_false] at hX
    cases hd : decide (b.1.2.2.1 ≤ -1) with
    | false => rw [hd] at hX; cases hX
    | true =>
      rw [hd, cond_true] at hX
      cases hX
      have hy : y.toInt ≤ -1 := Int.le_trans u2 (of_decide_eq_true hd)
      have h0 : ¬ y = 0 := by
        intro e
        subst e
        exact absurd hy (by decide)
      exact ab_Ok_st (st' := .int (x - x / y * y) :: st') hI hF ⟨ab_n_ok (ab_top_ok _), g6⟩ (fun _ => rfl) (fun _ => by simp only [am_one, h0, if_false])
  | true =>
    rw [hc, cond_true] at hX
    cases hX
    have hy : 1 ≤ y.toInt := Int.le_trans (of_decide_eq_true hc) l2
    have h0 : ¬ y = 0 := by
      intro e
      subst e
      exact absurd hy (by decide)
    refine ab_Ok_st (st' := .int (x - x / y * y) :: st') hI hF ⟨ab_n_ok ?_, g6⟩ (fun _ => rfl) (fun _ => by simp only [am_one, h0, if_false])
    cases hd : decide (0 ≤ a.1.2.1) with
    | false => exact ab_top_ok _
    | true =>
      have hr := ab_irem (Int.le_trans (of_decide_eq_true hd) l1) hy
      exact ab_i_ok hr.1 (by omega)
theorem ab_t_idiv (hI : ab_Inv (ab_hi T) h) (hF : ab_gF F ls st h) (ht : ab_two F (fun a b => (ab_div a.1 b.1).map ab_n) = some (F', E)) : ab_Ok T md G M (pc, len, .idiv, an, z) ls st h nc ns F' E := by
  obtain ⟨a, b, e, es, x, y, st', rfl, g1, g2, g3, g4, g5, g6, rfl, rfl⟩ := ab_two_ok hF ht
  obtain ⟨x', e1, l1, u1⟩ := ab_g0 g3 g1.1
  cases e1
  obtain ⟨y', e2, l2, u2⟩ := ab_g0 g4 g2.1
  cases e2
  obtain ⟨X, hX, rfl⟩ := Option.map_eq_some_iff.mp g5
  unfold ab_div at hX
  cases hc : decide (1 ≤ b.1.2.1) with
  | false =>
    rw [hc, cond_false] at hX
    cases hd : decide (b.1.2.2.1 ≤ -1) with
    | false => rw [hd] at hX; cases hX
    | true =>
      rw [hd, cond_true] at hX
      cases hX
      have hy : y.toInt ≤ -1 := Int.le_trans u2 (of_decide_eq_true hd)
      have h0 : ¬ y = 0 := by
        intro e
        subst e
        exact absurd hy (by decide)
      exact ab_Ok_st (st' := .int (x / y) :: st') hI hF ⟨ab_n_ok (ab_top_ok _), g6⟩ (fun _ => rfl) (fun _ => by simp only [am_one, h0, if_false])
  | true =>
    rw [hc, cond_true] at hX
    cases hX
    have hy : 1 ≤ y.toInt := Int.le_trans (of_decide_eq_true hc) l2
    have h0 : ¬ y = 0 := by
      intro e
      subst e
      exact absurd hy (by decide)
    refine ab_Ok_st (st' := .int (x / y) :: st') hI hF ⟨ab_n_ok ?_, g6⟩ (fun _ => rfl) (fun _ => by simp only [am_one, h0, if_false])
    cases hd : decide (0 ≤ a.1.2.1) with
    | false => exact ab_top_ok _
    | true =>
      have hr := ab_idiv (Int.le_trans (of_decide_eq_true hd) l1) hy
      exact ab_i_ok hr.1 (by omega)
theorem ab_top1 {e : ab_S} {es : List ab_S} (hF : ab_gF F ls st h) (hst : F.2.1 = e :: es) : ∃ v st', st = v :: st' ∧ ab_gS ls h e v ∧ ab_gSt ls h es st' := by
  obtain ⟨f1, hs, f3⟩ := hF
  rw [hst] at hs
  match st, hs with
  | [], hs => exact hs.elim
  | v :: st', hs => exact ⟨v, st', rfl, hs.1, hs.2⟩
theorem ab_cat1_ok {e : ab_S} {v : Value} (hc : ab_cat1 e = true) (hg : ab_g e.1 v) : Nat.beq v.category 1 = true := by
  unfold ab_cat1 at hc
  rw [Bool.or_eq_true] at hc
  rcases hc with hc | hc
  · obtain ⟨x, rfl, -⟩ := ab_gI hc hg
    rfl
  · obtain ⟨x, rfl, -⟩ := ab_g4 hc hg
    rfl
theorem ab_t_pop (hI : ab_Inv (ab_hi T) h) (hF : ab_gF F ls st h) (ht : (match F.2.1 with
    | e :: st => cond (ab_cat1 e) (some ((F.1, st, F.2.2), ab_e0)) none
    | _ => none) = some (F', E)) : ab_Ok T md G M (pc, len, .pop, an, z) ls st h nc ns F' E := by
  split at ht
  · rename_i e es hst
    obtain ⟨v, st', rfl, g1, g2⟩ := ab_top1 hF hst
    cases hc : (ab_cat1 e) with
    | false => rw [hc] at ht; cases ht
    | true =>
      rw [hc, cond_true] at ht
      cases ht
      exact ab_Ok_st hI hF g2 (fun _ => rfl) (fun _ => by simp only [am_one, ab_cat1_ok hc g1.1, cond_true])
  · cases ht
theorem ab_t_dup (hI : ab_Inv (ab_hi T) h) (hF : ab_gF F ls st h) (ht : (match F.2.1 with
    | e :: st => cond (ab_cat1 e) (some ((F.1, e :: e :: st, F.2.2), ab_e0)) none
    | _ => none) = some (F', E)) : ab_Ok T md G M (pc, len, .dup, an, z) ls st h nc ns F' E := by
  split at ht
  · rename_i e es hst
    obtain ⟨v, st', rfl, g1, g2⟩ := ab_top1 hF hst
    cases hc : (ab_cat1 e) with
    | false => rw [hc] at ht; cases ht
    | true =>
      rw [hc, cond_true] at ht
      cases ht
      exact ab_Ok_st (st' := v :: v :: st') hI hF ⟨g1, g1, g2⟩ (fun _ => rfl) (fun _ => by simp only [am_one, ab_cat1_ok hc g1.1, cond_true])
  · cases ht
theorem ab_t_lneg (hI : ab_Inv (ab_hi T) h) (hF : ab_gF F ls st h) (ht : (match F.2.1 with
    | e :: st => cond (ab_isLg e.1) (some ((F.1, ab_n (cond (Nat.beq e.1.1 2) (2, 0, 0, []) (1, 0, 0, [])) :: st, F.2.2), ab_e0)) none
    | _ => none) = some (F', E)) : ab_Ok T md G M (pc, len, .lneg, an, z) ls st h nc ns F' E := by
  split at ht
  · rename_i e es hst
    obtain ⟨v, st', rfl, g1, g2⟩ := ab_top1 hF hst
    cases hc : (ab_isLg e.1) with
    | false => rw [hc] at ht; cases ht
    | true =>
      rw [hc, cond_true] at ht
      cases ht
      obtain ⟨x, rfl⟩ := ab_gL hc g1.1
      refine ab_Ok_st (st' := .long (-x) :: st') hI hF ⟨ab_n_ok ?_, g2⟩ (fun _ => rfl) (fun _ => by simp only [am_one])
      cases hb : Nat.beq e.1.1 2 with
      | false => exact ⟨_, rfl⟩
      | true =>
        have hy := g1.1
        unfold ab_g at hy
        rw [Nat.eq_of_beq_eq_true hb] at hy
        obtain ⟨x', e1, h0⟩ := hy
        cases e1
        refine ⟨_, rfl, fun e2 => h0 ?_⟩
        have e3 : - -x = (0 : Int64) := by rw [e2]; rfl
        rwa [Int64.neg_neg] at e3
  · cases ht
theorem ab_t_l2i (hI : ab_Inv (ab_hi T) h) (hF : ab_gF F ls st h) (ht : (match F.2.1 with
    | e :: st => cond (ab_isLg e.1) (some ((F.1, ab_n ab_top :: st, F.2.2), ab_e0)) none
    | _ => none) = some (F', E)) : ab_Ok T md G M (pc, len, .l2i, an, z) ls st h nc ns F' E := by
  split at ht
  · rename_i e es hst
    obtain ⟨v, st', rfl, g1, g2⟩ := ab_top1 hF hst
    cases hc : (ab_isLg e.1) with
    | false => rw [hc] at ht; cases ht
    | true =>
      rw [hc, cond_true] at ht
      cases ht
      obtain ⟨x, rfl⟩ := ab_gL hc g1.1
      exact ab_Ok_st (st' := .int x.toInt32 :: st') hI hF ⟨ab_n_ok (ab_top_ok _), g2⟩ (fun _ => rfl) (fun _ => by simp only [am_one])
  · cases ht
theorem ab_ofInt {n : Int} (h : ab_in32 n = true) : (Int32.ofInt n).toInt = n := by
  unfold ab_in32 at h
  simp only [Bool.and_eq_true, decide_eq_true_eq] at h
  rw [Int32.toInt_ofInt]
  exact ab_bm h.1 h.2
theorem ab_c_ok {n : Int} (h : ab_in32 n = true) : ab_g (ab_i n n) (.int (Int32.ofInt n)) := ab_i_ok (by rw [ab_ofInt h]; exact Int.le_refl _) (by rw [ab_ofInt h]; exact Int.le_refl _)
theorem ab_t_iconst {n : Int} (hI : ab_Inv (ab_hi T) h) (hF : ab_gF F ls st h) (ht : cond (ab_in32 n) (some ((F.1, ab_n (ab_i n n) :: F.2.1, F.2.2), ab_e0)) none = some (F', E)) : ab_Ok T md G M (pc, len, .iconst n, an, z) ls st h nc ns F' E := by
  cases hc : ab_in32 n with
  | false => rw [hc] at ht; cases ht
  | true =>
    rw [hc, cond_true] at ht
    cases ht
    exact ab_Ok_st (st' := .int (Int32.ofInt n) :: st) hI hF ⟨ab_n_ok (ab_c_ok hc), hF.2.1⟩ (fun _ => rfl) (fun _ => by simp only [am_one])
end ABO2
