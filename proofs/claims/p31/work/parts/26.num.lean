/-! ===== NUMBERS OF THE CHECK ===== -/
theorem ab_32 (x : Int32) : -2147483648 ≤ x.toInt ∧ x.toInt ≤ 2147483647 := ⟨Int32.le_toInt x, by have := Int32.toInt_lt x; omega⟩
theorem ab_top_ok (x : Int32) : ab_g ab_top (.int x) := ⟨x, rfl, (ab_32 x).1, (ab_32 x).2⟩
theorem ab_i_ok {l u : Int} {x : Int32} (h1 : l ≤ x.toInt) (h2 : x.toInt ≤ u) : ab_g (ab_i l u) (.int x) := ⟨x, rfl, h1, h2⟩
theorem ab_bm {n : Int} (h1 : -2147483648 ≤ n) (h2 : n ≤ 2147483647) : n.bmod (2 ^ 32) = n := by
  rw [Int.bmod_def]
  omega
theorem ab_iadd {x y : Int32} (h1 : -2147483648 ≤ x.toInt + y.toInt) (h2 : x.toInt + y.toInt ≤ 2147483647) : (x + y).toInt = x.toInt + y.toInt := by
  rw [Int32.toInt_add]
  exact ab_bm h1 h2
theorem ab_isub {x y : Int32} (h1 : -2147483648 ≤ x.toInt - y.toInt) (h2 : x.toInt - y.toInt ≤ 2147483647) : (x - y).toInt = x.toInt - y.toInt := by
  rw [Int32.toInt_sub]
  exact ab_bm h1 h2
theorem ab_imul {x y : Int32} (h1 : -2147483648 ≤ x.toInt * y.toInt) (h2 : x.toInt * y.toInt ≤ 2147483647) : (x * y).toInt = x.toInt * y.toInt := by
  rw [Int32.toInt_mul]
  exact ab_bm h1 h2
theorem ab_lt_iff {x y : Int32} : x < y ↔ x.toInt < y.toInt := Int32.lt_iff_toInt_lt
theorem ab_le_iff {x y : Int32} : x ≤ y ↔ x.toInt ≤ y.toInt := Int32.le_iff_toInt_le
theorem ab_eq_iff {x y : Int32} : x = y ↔ x.toInt = y.toInt := Int32.toInt_inj.symm
theorem ab_nI {x : Int32} (h : 0 ≤ x.toInt) : x = nI x.toInt.toNat ∧ x.toInt.toNat < 2 ^ 31 := by
  have h0 : ¬ x < 0 := fun q => by have := ab_lt_iff.mp q; have : x.toInt < 0 := this; omega
  obtain ⟨j, hj, rfl⟩ := nI_of h0
  have e := nI_toInt hj
  rw [e]
  exact ⟨by simp, by simpa using hj⟩
theorem ab_irem {x y : Int32} (hx : 0 ≤ x.toInt) (hy : 1 ≤ y.toInt) : 0 ≤ (x - x / y * y).toInt ∧ (x - x / y * y).toInt ≤ x.toInt ∧ (x - x / y * y).toInt ≤ y.toInt - 1 := by
  obtain ⟨ex, lx⟩ := ab_nI hx
  obtain ⟨ey, ly⟩ := ab_nI (x := y) (by omega)
  generalize x.toInt.toNat = a at ex lx
  generalize y.toInt.toNat = b at ey ly
  subst ex; subst ey
  have hb : 0 < b := by
    rw [nI_toInt ly] at hy
    omega
  rw [pk_rem lx hb ly, nI_toInt (Nat.lt_of_le_of_lt (Nat.mod_le _ _) lx), nI_toInt lx, nI_toInt ly]
  have h1 := Nat.mod_le a b
  have h2 := Nat.mod_lt a hb
  omega
theorem ab_idiv {x y : Int32} (hx : 0 ≤ x.toInt) (hy : 1 ≤ y.toInt) : 0 ≤ (x / y).toInt ∧ (x / y).toInt ≤ x.toInt := by
  obtain ⟨ex, lx⟩ := ab_nI hx
  obtain ⟨ey, ly⟩ := ab_nI (x := y) (by omega)
  generalize x.toInt.toNat = a at ex lx
  generalize y.toInt.toNat = b at ey ly
  subst ex; subst ey
  have hb : 0 < b := by
    rw [nI_toInt ly] at hy
    omega
  have h1 := Nat.div_le_self a b
  rw [pk_div lx hb ly, nI_toInt (Nat.lt_of_le_of_lt h1 lx), nI_toInt lx]
  exact ⟨Int.natCast_nonneg _, Int.ofNat_le.mpr h1⟩
/-- a value's kind -/
theorem ab_g0 {e : ab_S} (h0 : ab_is0 e = true) {v : Value} (h : ab_g e.1 v) : ∃ x : Int32, v = .int x ∧ e.1.2.1 ≤ x.toInt ∧ x.toInt ≤ e.1.2.2.1 := by
  have e1 := Nat.eq_of_beq_eq_true h0
  unfold ab_g at h
  rw [e1] at h
  exact h
theorem ab_gL {V : ab_V} (h0 : ab_isLg V = true) {v : Value} (h : ab_g V v) : ∃ x : Int64, v = .long x := by
  unfold ab_isLg at h0
  simp only [Bool.or_eq_true] at h0
  unfold ab_g at h
  rcases h0 with (h0 | h0) | h0
  · rw [Nat.eq_of_beq_eq_true h0] at h; exact h
  · rw [Nat.eq_of_beq_eq_true h0] at h; exact ⟨h.choose, h.choose_spec.1⟩
  · rw [Nat.eq_of_beq_eq_true h0] at h; exact ⟨0, h⟩
theorem ab_g4 {V : ab_V} (h0 : Nat.beq V.1 4 = true) {v : Value} (h : ab_g V v) : ∃ n : Nat, v = .ref n ∧ n ∈ V.2.2.2 := by
  have e1 := Nat.eq_of_beq_eq_true h0
  unfold ab_g at h
  rw [e1] at h
  exact h
theorem ab_rd_ok {ls : am_L} {h : am_H} {V : ab_V} {p : ab_P} {v : Value} (hg : ab_g V v) (hp : ab_at ls h p = some v) : ab_gS ls h (ab_rd V p) v := by
  obtain ⟨a, l, u, c⟩ := V
  unfold ab_rd
  split
  · rename_i e1
    dsimp only at e1
    subst e1
    obtain ⟨x, rfl, h1, h2⟩ := hg
    exact ⟨⟨x, rfl, h1, h2⟩, x, x, rfl, hp, by simp⟩
  · exact ⟨hg, hp⟩
theorem ab_n_ok {ls : am_L} {h : am_H} {V : ab_V} {v : Value} (hg : ab_g V v) : ab_gS ls h (ab_n V) v := ⟨hg, trivial⟩
theorem ab_gI {V : ab_V} (h0 : Nat.beq V.1 0 = true) {v : Value} (h : ab_g V v) : ∃ x : Int32, v = .int x ∧ V.2.1 ≤ x.toInt ∧ x.toInt ≤ V.2.2.1 := by
  have e1 := Nat.eq_of_beq_eq_true h0
  unfold ab_g at h
  rw [e1] at h
  exact h
theorem ab_jn_ok {V W X : ab_V} (hj : ab_jn V W = some X) {v : Value} : (ab_g V v → ab_g X v) ∧ (ab_g W v → ab_g X v) := by
  unfold ab_jn at hj
  cases h1 : (Nat.beq V.1 0 && Nat.beq W.1 0) with
  | true =>
    rw [h1, cond_true] at hj
    rw [Bool.and_eq_true] at h1
    cases hj
    constructor
    · intro h
      obtain ⟨x, rfl, a1, a2⟩ := ab_gI h1.1 h
      exact ⟨x, rfl, Int.le_trans (Int.min_le_left _ _) a1, Int.le_trans a2 (Int.le_max_left _ _)⟩
    · intro h
      obtain ⟨x, rfl, a1, a2⟩ := ab_gI h1.2 h
      exact ⟨x, rfl, Int.le_trans (Int.min_le_right _ _) a1, Int.le_trans a2 (Int.le_max_right _ _)⟩
  | false =>
    rw [h1, cond_false] at hj
    cases h2 : (Nat.beq V.1 4 && Nat.beq W.1 4) with
    | true =>
      rw [h2, cond_true] at hj
      rw [Bool.and_eq_true] at h2
      cases hj
      constructor
      · intro h
        obtain ⟨n, rfl, hn⟩ := ab_g4 h2.1 h
        exact ⟨n, rfl, List.mem_append_left _ hn⟩
      · intro h
        obtain ⟨n, rfl, hn⟩ := ab_g4 h2.2 h
        exact ⟨n, rfl, List.mem_append_right _ hn⟩
    | false =>
      rw [h2, cond_false] at hj
      cases h3 : (ab_isLg V && ab_isLg W) with
      | true =>
        rw [h3, cond_true] at hj
        rw [Bool.and_eq_true] at h3
        cases hj
        exact ⟨fun h => ab_gL h3.1 h, fun h => ab_gL h3.2 h⟩
      | false => rw [h3, cond_false] at hj; cases hj
theorem ab_jns_ok {v : Value} : ∀ {Ws : List ab_V} {V X : ab_V}, ab_jns V Ws = some X → (ab_g V v ∨ ∃ W ∈ Ws, ab_g W v) → ab_g X v
  | [], V, X, hj, h => by
    cases hj
    rcases h with h | ⟨W, hW, -⟩
    · exact h
    · cases hW
  | W :: r, V, X, hj, h => by
    unfold ab_jns at hj
    split at hj
    · rename_i Y hY
      refine ab_jns_ok hj ?_
      rcases h with h | ⟨Z, hZ, h⟩
      · exact Or.inl ((ab_jn_ok hY).1 h)
      · rcases List.mem_cons.mp hZ with rfl | hZ
        · exact Or.inl ((ab_jn_ok hY).2 h)
        · exact Or.inr ⟨Z, hZ, h⟩
    · cases hj
/-! ===== sums with ties ===== -/
theorem ab_add_ok {ls : am_L} {h : am_H} {a b : ab_S} {x y : Int32} (ha : ab_gS ls h a (.int x)) (hb : ab_gS ls h b (.int y)) (a0 : ab_is0 a = true) (b0 : ab_is0 b = true) : ab_gS ls h (ab_add a b) (.int (x + y)) := by
  obtain ⟨x', e1, l1, u1⟩ := ab_g0 a0 ha.1
  cases e1
  obtain ⟨y', e2, l2, u2⟩ := ab_g0 b0 hb.1
  cases e2
  unfold ab_add
  cases hc : (decide (-2147483648 ≤ a.1.2.1 + b.1.2.1) && decide (a.1.2.2.1 + b.1.2.2.1 ≤ 2147483647)) with
  | false => exact ab_n_ok (ab_top_ok _)
  | true =>
    simp only [Bool.and_eq_true, decide_eq_true_eq] at hc
    have hs : (x + y).toInt = x.toInt + y.toInt := ab_iadd (by omega) (by omega)
    rw [cond_true]
    cases h1 : (Nat.beq a.2.1 1 && decide (b.1.2.1 = b.1.2.2.1)) with
    | true =>
      simp only [Bool.and_eq_true, decide_eq_true_eq] at h1
      have e1 := Nat.eq_of_beq_eq_true h1.1
      have ht := ha.2
      unfold ab_tie at ht
      rw [e1] at ht
      obtain ⟨x2, y2, e3, e4, e5⟩ := ht
      cases e3
      refine ⟨ab_i_ok (by omega) (by omega), x + y, y2, rfl, e4, ?_⟩
      show (x + y).toInt = y2.toInt + (a.2.2.2 + b.1.2.1)
      omega
    | false =>
      rw [cond_false]
      cases h2 : (Nat.beq b.2.1 1 && decide (a.1.2.1 = a.1.2.2.1) && !Nat.beq a.2.1 1) with
      | true =>
        rw [Bool.and_eq_true] at h2
        replace h2 := h2.1
        simp only [Bool.and_eq_true, decide_eq_true_eq] at h2
        have e1 := Nat.eq_of_beq_eq_true h2.1
        have ht := hb.2
        unfold ab_tie at ht
        rw [e1] at ht
        obtain ⟨x2, y2, e3, e4, e5⟩ := ht
        cases e3
        refine ⟨ab_i_ok (by omega) (by omega), x + y, y2, rfl, e4, ?_⟩
        show (x + y).toInt = y2.toInt + (b.2.2.2 + a.1.2.1)
        omega
      | false =>
        rw [cond_false]
        cases h3 : (Nat.beq a.2.1 1 && Nat.beq a.2.2.1.1 0) with
        | false => exact ab_n_ok (ab_i_ok (by omega) (by omega))
        | true =>
          rw [Bool.and_eq_true] at h3
          have e1 := Nat.eq_of_beq_eq_true h3.1
          have ht := ha.2
          unfold ab_tie at ht
          rw [e1] at ht
          obtain ⟨x2, y2, e3, e4, e5⟩ := ht
          cases e3
          refine ⟨ab_i_ok (by omega) (by omega), x + y, y2, rfl, e4, ?_⟩
          show y2.toInt ≤ (x + y).toInt + (- b.1.2.1 - a.2.2.2)
          omega
theorem ab_sub_ok {ls : am_L} {h : am_H} {a b : ab_S} {x y : Int32} (ha : ab_gS ls h a (.int x)) (hb : ab_gS ls h b (.int y)) (a0 : ab_is0 a = true) (b0 : ab_is0 b = true) : ab_gS ls h (ab_sub a b) (.int (x - y)) := by
  obtain ⟨x', e1, l1, u1⟩ := ab_g0 a0 ha.1
  cases e1
  obtain ⟨y', e2, l2, u2⟩ := ab_g0 b0 hb.1
  cases e2
  unfold ab_sub
  cases hc : (decide (-2147483648 ≤ a.1.2.1 - b.1.2.2.1) && decide (a.1.2.2.1 - b.1.2.1 ≤ 2147483647)) with
  | false => exact ab_n_ok (ab_top_ok _)
  | true =>
    simp only [Bool.and_eq_true, decide_eq_true_eq] at hc
    have hs : (x - y).toInt = x.toInt - y.toInt := ab_isub (by omega) (by omega)
    rw [cond_true]
    cases h1 : (Nat.beq a.2.1 1 && decide (b.1.2.1 = b.1.2.2.1)) with
    | true =>
      simp only [Bool.and_eq_true, decide_eq_true_eq] at h1
      have e1 := Nat.eq_of_beq_eq_true h1.1
      have ht := ha.2
      unfold ab_tie at ht
      rw [e1] at ht
      obtain ⟨x2, y2, e3, e4, e5⟩ := ht
      cases e3
      refine ⟨ab_i_ok (by omega) (by omega), x - y, y2, rfl, e4, ?_⟩
      show (x - y).toInt = y2.toInt + (a.2.2.2 - b.1.2.1)
      omega
    | false => exact ab_n_ok (ab_i_ok (by omega) (by omega))
theorem ab_mul_ok {V W : ab_V} {x y : Int32} (h1 : V.2.1 ≤ x.toInt) (h2 : x.toInt ≤ V.2.2.1) (h3 : W.2.1 ≤ y.toInt) (h4 : y.toInt ≤ W.2.2.1) : ab_g (ab_mul V W) (.int (x * y)) := by
  unfold ab_mul
  cases hc : (decide (0 ≤ V.2.1) && decide (0 ≤ W.2.1)) with
  | false => exact ab_top_ok _
  | true =>
    simp only [Bool.and_eq_true, decide_eq_true_eq] at hc
    rw [cond_true]
    unfold ab_r
    cases hr : (decide (-2147483648 ≤ V.2.1 * W.2.1) && decide (V.2.2.1 * W.2.2.1 ≤ 2147483647)) with
    | false => exact ab_top_ok _
    | true =>
      simp only [Bool.and_eq_true, decide_eq_true_eq] at hr
      have m1 : V.2.1 * W.2.1 ≤ x.toInt * y.toInt := Int.mul_le_mul h1 h3 hc.2 (Int.le_trans hc.1 h1)
      have m2 : x.toInt * y.toInt ≤ V.2.2.1 * W.2.2.1 := Int.mul_le_mul h2 h4 (Int.le_trans hc.2 h3) (Int.le_trans (Int.le_trans hc.1 h1) h2)
      have hs : (x * y).toInt = x.toInt * y.toInt := ab_imul (by omega) (by omega)
      exact ab_i_ok (by omega) (by omega)
