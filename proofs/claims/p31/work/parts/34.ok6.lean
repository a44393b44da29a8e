/-! ===== THE TRANSFER IS SOUND: lengths, the greater and the smaller ===== -/
theorem ab_cat_ok {V : ab_S} {v : Value} (h : ab_g V.1 v) : ab_cat V = v.category := by
  unfold ab_cat
  cases hc : ab_isLg V.1 with
  | true =>
    obtain ⟨x, rfl⟩ := ab_gL hc h
    rfl
  | false => exact (ab_cat_g hc h).symm
theorem ab_cats_ok {ls : am_L} {h : am_H} : ∀ {es : List ab_S} {vs : List Value}, ab_gSt ls h es vs → ab_cats es = am_cat vs
  | [], [], _ => rfl
  | [], _ :: _, hh => hh.elim
  | _ :: _, [], hh => hh.elim
  | e :: es, v :: vs, hh => by
    have h1 := ab_cats_ok hh.2
    have h2 := ab_cat_ok hh.1.1
    show ab_cat e + ab_cats es = am_cat (v :: vs)
    rw [h1, h2]
    unfold am_cat
    rw [List.map_cons, List.sum_cons]
theorem ab_len {n : Nat} (h : n ≤ 100000) : (Int32.ofNat n).toInt = n := by
  have e : Int32.ofNat n = nI n := rfl
  rw [e, nI_toInt (by omega)]
section ABO6
variable {T : ab_T} {md : List (Nat × Nat)} {G : am_G} {M : am_M} {i : am_I} {ls : am_L} {st : List Value} {h : am_H} {nc ns : Nat} {F F' : ab_F} {E : ab_E} {pc len : Nat} {an : Nat × Nat × Nat} {z : Int}
theorem ab_math_ok {g : Int → Int → Int} (hr : (Nat.ble nc M.2.2.1.2.2.1 && Nat.ble ns M.2.2.1.2.2.2) = true) (hF : ab_gF F ls st h) (ht : ab_math M F g = some (F', E)) : ∃ (a b : ab_S) (es : List ab_S) (x y : Int32) (st' : List Value), st = .int y :: .int x :: st' ∧ a.1.2.1 ≤ x.toInt ∧ x.toInt ≤ a.1.2.2.1 ∧ b.1.2.1 ≤ y.toInt ∧ y.toInt ≤ b.1.2.2.1 ∧ (Nat.ble 1 M.2.2.1.1 && Nat.ble (am_cat st' + 13) M.2.2.1.2.1 && Nat.ble nc M.2.2.1.2.2.1 && Nat.ble ns M.2.2.1.2.2.2) = true ∧ ab_gSt ls h es st' ∧ F' = (F.1, ab_n (ab_i (g a.1.2.1 b.1.2.1) (g a.1.2.2.1 b.1.2.2.1)) :: es, F.2.2) ∧ E = ab_e0 := by
  unfold ab_math at ht
  split at ht
  · rename_i b a es hst
    obtain ⟨v, w, st', rfl, g1, g2, g3⟩ := ab_top2 hF hst
    cases hc : (ab_is0 a && ab_is0 b && (Nat.ble 1 M.2.2.1.1 && Nat.ble (ab_cats es + 13) M.2.2.1.2.1)) with
    | false => rw [hc] at ht; cases ht
    | true =>
      rw [hc, cond_true] at ht
      cases ht
      rw [Bool.and_eq_true, Bool.and_eq_true, Bool.and_eq_true] at hc
      obtain ⟨⟨c1, c2⟩, c3, c4⟩ := hc
      obtain ⟨y, rfl, l2, u2⟩ := ab_g0 c2 g1.1
      obtain ⟨x, rfl, l1, u1⟩ := ab_g0 c1 g2.1
      rw [Bool.and_eq_true] at hr
      rw [ab_cats_ok g3] at c4
      exact ⟨a, b, es, x, y, st', rfl, l1, u1, l2, u2, by rw [c3, c4, hr.1, hr.2]; rfl, g3, rfl, rfl⟩
  · cases ht
theorem ab_t_max {idx a b : Nat} (hr : (Nat.ble nc M.2.2.1.2.2.1 && Nat.ble ns M.2.2.1.2.2.2) = true) (hI : ab_Inv (ab_hi T) h) (hF : ab_gF F ls st h) (ht : ab_math M F max = some (F', E)) : ab_Ok T md G M (pc, len, .invokestatic idx, (a, b, 1), z) ls st h nc ns F' E := by
  obtain ⟨c, d, es, x, y, st', rfl, l1, u1, l2, u2, hm, g3, rfl, rfl⟩ := ab_math_ok hr hF ht
  refine ab_Ok_st (st' := .int (if x < y then y else x) :: st') hI hF ⟨ab_n_ok ?_, g3⟩ (fun _ => rfl) (fun _ => by simp only [am_one, am_math, hm, cond_true])
  split
  · rename_i hlt
    have := ab_lt_iff.mp hlt
    exact ab_i_ok (by omega) (by omega)
  · rename_i hlt
    have : ¬ x.toInt < y.toInt := fun q => hlt (ab_lt_iff.mpr q)
    exact ab_i_ok (by omega) (by omega)
theorem ab_t_min {idx a b : Nat} (hr : (Nat.ble nc M.2.2.1.2.2.1 && Nat.ble ns M.2.2.1.2.2.2) = true) (hI : ab_Inv (ab_hi T) h) (hF : ab_gF F ls st h) (ht : ab_math M F min = some (F', E)) : ab_Ok T md G M (pc, len, .invokestatic idx, (a, b, 2), z) ls st h nc ns F' E := by
  obtain ⟨c, d, es, x, y, st', rfl, l1, u1, l2, u2, hm, g3, rfl, rfl⟩ := ab_math_ok hr hF ht
  refine ab_Ok_st (st' := .int (if y < x then y else x) :: st') hI hF ⟨ab_n_ok ?_, g3⟩ (fun _ => rfl) (fun _ => by simp only [am_one, am_math, hm, cond_true])
  split
  · rename_i hlt
    have := ab_lt_iff.mp hlt
    exact ab_i_ok (by omega) (by omega)
  · rename_i hlt
    have : ¬ y.toInt < x.toInt := fun q => hlt (ab_lt_iff.mpr q)
    exact ab_i_ok (by omega) (by omega)
theorem ab_t_len (hI : ab_Inv (ab_hi T) h) (hF : ab_gF F ls st h) (ht : (match F.2.1 with
    | a :: st => match a.1.2.2.2 with
      | [o] => match am_ks0[o]? with
        | some (.inr (_, n)) => cond (Nat.beq a.1.1 4 && decide (n ≤ 100000)) (some ((F.1, ab_n (ab_i n n) :: st, F.2.2), ab_e0)) none
        | _ => none
      | _ => none
    | _ => none) = some (F', E)) : ab_Ok T md G M (pc, len, .arraylength, an, z) ls st h nc ns F' E := by
  split at ht
  · rename_i e es hst
    obtain ⟨v, st', rfl, g1, g2⟩ := ab_top1 hF hst
    split at ht
    · rename_i o ho
      split at ht
      · rename_i t n hk
        cases hc : (Nat.beq e.1.1 4 && decide (n ≤ 100000)) with
        | false => rw [hc] at ht; cases ht
        | true =>
          rw [hc, cond_true] at ht
          cases ht
          rw [Bool.and_eq_true, decide_eq_true_eq] at hc
          obtain ⟨o', rfl, hm⟩ := ab_g4 hc.1 g1.1
          rw [ho] at hm
          have e1 : o' = o := List.mem_singleton.mp hm
          subst e1
          have e2 := ab_len hc.2
          exact ab_Ok_st (st' := .int (Int32.ofNat n) :: st') hI hF ⟨ab_n_ok (ab_i_ok (by omega) (by omega)), g2⟩ (fun _ => rfl) (fun _ => by simp only [am_one, am_len, hk])
      · cases ht
    · cases ht
  · cases ht
end ABO6
