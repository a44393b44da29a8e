/-! ===== THE TRANSFER IS SOUND: small constants, longs, lengths ===== -/
theorem ab_bi {n : Int} (h1 : -128 ≤ n) (h2 : n ≤ 127) : ((Int8.ofInt n).toInt32).toInt = n := by
  rw [Int8.toInt_toInt32, Int8.toInt_ofInt]
  show n.bmod 256 = n
  rw [Int.bmod_def]
  omega
theorem ab_si {n : Int} (h1 : -32768 ≤ n) (h2 : n ≤ 32767) : ((Int16.ofInt n).toInt32).toInt = n := by
  rw [Int16.toInt_toInt32, Int16.toInt_ofInt]
  show n.bmod 65536 = n
  rw [Int.bmod_def]
  omega
theorem ab_i2l {x : Int32} (h : 1 ≤ x.toInt) : x.toInt64 ≠ 0 := by
  intro e
  have e1 := congrArg Int64.toInt e
  rw [Int32.toInt_toInt64] at e1
  have e2 : x.toInt = 0 := e1
  omega
theorem ab_lcmp (x y : Int64) : -1 ≤ (lg_cmp x y).toInt ∧ (lg_cmp x y).toInt ≤ 1 := by
  unfold lg_cmp
  split
  · decide
  · split <;> decide
theorem ab_lcmp0 (x : Int64) : lg_cmp x 0 = 0 ↔ x = 0 := by
  unfold lg_cmp
  split
  · rename_i hgt
    constructor
    · intro e
      exact absurd e (by decide)
    · intro e
      subst e
      exact absurd hgt (by decide)
  · split
    · rename_i e
      exact ⟨fun _ => e, fun _ => rfl⟩
    · rename_i e
      exact ⟨fun q => absurd q (by decide), fun q => absurd q e⟩
section ABO5
variable {T : ab_T} {md : List (Nat × Nat)} {G : am_G} {M : am_M} {i : am_I} {ls : am_L} {st : List Value} {h : am_H} {nc ns : Nat} {F F' : ab_F} {E : ab_E} {pc len : Nat} {an : Nat × Nat × Nat} {z : Int}
theorem ab_t_bipush {n : Int} (hI : ab_Inv (ab_hi T) h) (hF : ab_gF F ls st h) (ht : cond (decide (-128 ≤ n) && decide (n ≤ 127)) (some ((F.1, ab_n (ab_i n n) :: F.2.1, F.2.2), ab_e0)) none = some (F', E)) : ab_Ok T md G M (pc, len, .bipush n, an, z) ls st h nc ns F' E := by
  cases hc : (decide (-128 ≤ n) && decide (n ≤ 127)) with
  | false => rw [hc] at ht; cases ht
  | true =>
    rw [hc, cond_true] at ht
    cases ht
    simp only [Bool.and_eq_true, decide_eq_true_eq] at hc
    have e := ab_bi hc.1 hc.2
    exact ab_Ok_st (st' := .int (Int8.ofInt n).toInt32 :: st) hI hF ⟨ab_n_ok (ab_i_ok (by omega) (by omega)), hF.2.1⟩ (fun _ => rfl) (fun _ => by simp only [am_one])
theorem ab_t_sipush {n : Int} (hI : ab_Inv (ab_hi T) h) (hF : ab_gF F ls st h) (ht : cond (decide (-32768 ≤ n) && decide (n ≤ 32767)) (some ((F.1, ab_n (ab_i n n) :: F.2.1, F.2.2), ab_e0)) none = some (F', E)) : ab_Ok T md G M (pc, len, .sipush n, an, z) ls st h nc ns F' E := by
  cases hc : (decide (-32768 ≤ n) && decide (n ≤ 32767)) with
  | false => rw [hc] at ht; cases ht
  | true =>
    rw [hc, cond_true] at ht
    cases ht
    simp only [Bool.and_eq_true, decide_eq_true_eq] at hc
    have e := ab_si hc.1 hc.2
    exact ab_Ok_st (st' := .int (Int16.ofInt n).toInt32 :: st) hI hF ⟨ab_n_ok (ab_i_ok (by omega) (by omega)), hF.2.1⟩ (fun _ => rfl) (fun _ => by simp only [am_one])
theorem ab_t_lconst {n : Fin 2} (hI : ab_Inv (ab_hi T) h) (hF : ab_gF F ls st h) (ht : some ((F.1, ab_n (cond (Nat.beq n.val 0) (3, 0, 0, []) (2, 0, 0, [])) :: F.2.1, F.2.2), ab_e0) = some (F', E)) : ab_Ok T md G M (pc, len, .lconst n, an, z) ls st h nc ns F' E := by
  cases ht
  refine ab_Ok_st (st' := .long (Int64.ofNat (n : Nat)) :: st) hI hF ⟨ab_n_ok ?_, hF.2.1⟩ (fun _ => rfl) (fun _ => by simp only [am_one])
  match n with
  | 0 => rfl
  | 1 => exact ⟨_, rfl, by decide⟩
theorem ab_t_i2l (hI : ab_Inv (ab_hi T) h) (hF : ab_gF F ls st h) (ht : (match F.2.1 with
    | e :: st => cond (ab_is0 e) (some ((F.1, ab_n (cond (decide (1 ≤ e.1.2.1)) (2, 0, 0, []) (1, 0, 0, [])) :: st, F.2.2), ab_e0)) none
    | _ => none) = some (F', E)) : ab_Ok T md G M (pc, len, .i2l, an, z) ls st h nc ns F' E := by
  split at ht
  · rename_i e es hst
    obtain ⟨v, st', rfl, g1, g2⟩ := ab_top1 hF hst
    cases hc : ab_is0 e with
    | false => rw [hc] at ht; cases ht
    | true =>
      rw [hc, cond_true] at ht
      cases ht
      obtain ⟨x, rfl, l1, u1⟩ := ab_g0 hc g1.1
      refine ab_Ok_st (st' := .long x.toInt64 :: st') hI hF ⟨ab_n_ok ?_, g2⟩ (fun _ => rfl) (fun _ => by simp only [am_one])
      cases hd : decide (1 ≤ e.1.2.1) with
      | false => exact ⟨_, rfl⟩
      | true => exact ⟨_, rfl, ab_i2l (Int.le_trans (of_decide_eq_true hd) l1)⟩
  · cases ht
theorem ab_t_lcmp (hI : ab_Inv (ab_hi T) h) (hF : ab_gF F ls st h) (ht : ab_twoL F (fun a b => some (cond (Nat.beq a.2.1 3 && Nat.beq b.1.1 3) (ab_i (-1) 1, 2, a.2.2.1, 0) (ab_n (ab_i (-1) 1)))) = some (F', E)) : ab_Ok T md G M (pc, len, .lcmp, an, z) ls st h nc ns F' E := by
  obtain ⟨a, b, e, es, x, y, st', rfl, g1, g2, g5, g6, rfl, rfl⟩ := ab_twoL_ok hF ht
  have hb := ab_lcmp x y
  refine ab_Ok_st (st' := .int (lg_cmp x y) :: st') hI hF ⟨?_, g6⟩ (fun _ => rfl) (fun _ => by simp only [am_one])
  cases hc : (Nat.beq a.2.1 3 && Nat.beq b.1.1 3) with
  | false =>
    rw [hc, cond_false] at g5
    cases g5
    exact ab_n_ok (ab_i_ok hb.1 hb.2)
  | true =>
    rw [hc, cond_true] at g5
    rw [Bool.and_eq_true] at hc
    cases g5
    have t1 := g1.2
    unfold ab_tie at t1
    rw [Nat.eq_of_beq_eq_true hc.1] at t1
    have t2 := g2.1
    unfold ab_g at t2
    rw [Nat.eq_of_beq_eq_true hc.2] at t2
    have t2 : Value.long y = .long 0 := t2
    cases t2
    exact ⟨ab_i_ok hb.1 hb.2, lg_cmp x 0, x, rfl, t1, ab_lcmp0 x⟩
end ABO5
