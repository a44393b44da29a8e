/-! ===== BRANCHES: what is left of two numbers that were compared ===== -/
def ab_neg (c : ClassFile.Cond) : ClassFile.Cond := match c with
  | .eq => .ne
  | .ne => .eq
  | .lt => .ge
  | .ge => .lt
  | .gt => .le
  | .le => .gt
theorem ab_neg_ok {c : ClassFile.Cond} {x y : Int32} (h : am_cmp c x y = false) : am_cmp (ab_neg c) x y = true := by
  cases c <;> simp only [am_cmp, ab_neg, decide_eq_false_iff_not, decide_eq_true_eq] at h ⊢
  · exact h
  · exact Classical.not_not.mp h
  · rw [Int32.lt_iff_toInt_lt] at h; rw [Int32.le_iff_toInt_le]; omega
  · rw [Int32.le_iff_toInt_le] at h; rw [Int32.lt_iff_toInt_lt]; omega
  · rw [Int32.lt_iff_toInt_lt] at h; rw [Int32.le_iff_toInt_le]; omega
  · rw [Int32.le_iff_toInt_le] at h; rw [Int32.lt_iff_toInt_lt]; omega
def ab_lim (c : ClassFile.Cond) (al au bl bu : Int) : List (Int × Int × Int × Int) := match c with
  | .lt => [(al, min au (bu - 1), max bl (al + 1), bu)]
  | .le => [(al, min au bu, max bl al, bu)]
  | .gt => [(max al (bl + 1), au, bl, min bu (au - 1))]
  | .ge => [(max al bl, au, bl, min bu au)]
  | .eq => [(max al bl, min au bu, max al bl, min au bu)]
  | .ne => cond (decide (bl = bu)) [(al, min au (bl - 1), bl, bu), (max al (bl + 1), au, bl, bu)]
      (cond (decide (al = au)) [(al, au, bl, min bu (al - 1)), (al, au, max bl (al + 1), bu)] [(al, au, bl, bu)])
theorem ab_lim_ok {c : ClassFile.Cond} {x y : Int32} {al au bl bu : Int} (hc : am_cmp c x y = true) (h1 : al ≤ x.toInt) (h2 : x.toInt ≤ au) (h3 : bl ≤ y.toInt) (h4 : y.toInt ≤ bu) : ∃ q : Int × Int × Int × Int, q ∈ ab_lim c al au bl bu ∧ q.1 ≤ x.toInt ∧ x.toInt ≤ q.2.1 ∧ q.2.2.1 ≤ y.toInt ∧ y.toInt ≤ q.2.2.2 := by
  cases c <;> simp only [am_cmp, decide_eq_true_eq] at hc <;> unfold ab_lim
  · subst hc
    exact ⟨_, List.mem_singleton.mpr rfl, by dsimp only; omega, by dsimp only; omega, by dsimp only; omega, by dsimp only; omega⟩
  · have hne : ¬ x.toInt = y.toInt := fun e => hc (Int32.toInt_inj.mp e)
    dsimp only
    cases hb : decide (bl = bu) with
    | true =>
      rw [cond_true]
      have hb := of_decide_eq_true hb
      by_cases hl : x.toInt < y.toInt
      · exact ⟨_, List.mem_cons_self, by dsimp only; omega, by dsimp only; omega, by dsimp only; omega, by dsimp only; omega⟩
      · exact ⟨_, List.mem_cons_of_mem _ List.mem_cons_self, by dsimp only; omega, by dsimp only; omega, by dsimp only; omega, by dsimp only; omega⟩
    | false =>
      rw [cond_false]
      cases ha : decide (al = au) with
      | true =>
        rw [cond_true]
        have ha := of_decide_eq_true ha
        by_cases hl : y.toInt < x.toInt
        · exact ⟨_, List.mem_cons_self, by dsimp only; omega, by dsimp only; omega, by dsimp only; omega, by dsimp only; omega⟩
        · exact ⟨_, List.mem_cons_of_mem _ List.mem_cons_self, by dsimp only; omega, by dsimp only; omega, by dsimp only; omega, by dsimp only; omega⟩
      | false =>
        rw [cond_false]
        exact ⟨_, List.mem_singleton.mpr rfl, h1, h2, h3, h4⟩
  · rw [Int32.lt_iff_toInt_lt] at hc
    exact ⟨_, List.mem_singleton.mpr rfl, by dsimp only; omega, by dsimp only; omega, by dsimp only; omega, by dsimp only; omega⟩
  · rw [Int32.le_iff_toInt_le] at hc
    exact ⟨_, List.mem_singleton.mpr rfl, by dsimp only; omega, by dsimp only; omega, by dsimp only; omega, by dsimp only; omega⟩
  · rw [Int32.lt_iff_toInt_lt] at hc
    exact ⟨_, List.mem_singleton.mpr rfl, by dsimp only; omega, by dsimp only; omega, by dsimp only; omega, by dsimp only; omega⟩
  · rw [Int32.le_iff_toInt_le] at hc
    exact ⟨_, List.mem_singleton.mpr rfl, by dsimp only; omega, by dsimp only; omega, by dsimp only; omega, by dsimp only; omega⟩
/-- through a tie, its place is narrowed -/
def ab_nt (F : ab_F) (e : ab_S) (l u : Int) : ab_F := match e.2.1 with
  | 1 => ab_nar F e.2.2.1 (l - e.2.2.2) (u - e.2.2.2)
  | 4 => ab_nar F e.2.2.1 (-2147483648) (u + e.2.2.2)
  | _ => F
theorem ab_nt_ok {ls : am_L} {st : List Value} {h : am_H} {F : ab_F} {e : ab_S} {x : Int32} {l u : Int} (hF : ab_gF F ls st h) (ht : ab_tie ls h e (.int x)) (h1 : l ≤ x.toInt) (h2 : x.toInt ≤ u) : ab_gF (ab_nt F e l u) ls st h := by
  unfold ab_nt
  split
  · rename_i e1
    unfold ab_tie at ht
    rw [e1] at ht
    obtain ⟨x', y, g1, g2, g3⟩ := ht
    cases g1
    exact ab_nar_ok hF g2 (by omega) (by omega)
  · rename_i e1
    unfold ab_tie at ht
    rw [e1] at ht
    obtain ⟨x', y, g1, g2, g3⟩ := ht
    cases g1
    exact ab_nar_ok hF g2 (ab_32 y).1 (by omega)
  · exact hF
/-- a long against 0 -/
def ab_n2 (c : ClassFile.Cond) (F : ab_F) (a : ab_S) (bl bu : Int) : ab_F := match a.2.1 with
  | 2 => cond (decide (bl = 0) && decide (bu = 0)) (match c with
      | .eq => ab_narL F a.2.2.1 false
      | .ne => ab_narL F a.2.2.1 true
      | _ => F) F
  | _ => F
theorem ab_n2_ok {c : ClassFile.Cond} {ls : am_L} {st : List Value} {h : am_H} {F : ab_F} {a : ab_S} {x y : Int32} {bl bu : Int} (hF : ab_gF F ls st h) (ht : ab_tie ls h a (.int x)) (hc : am_cmp c x y = true) (h3 : bl ≤ y.toInt) (h4 : y.toInt ≤ bu) : ab_gF (ab_n2 c F a bl bu) ls st h := by
  unfold ab_n2
  split
  · rename_i e1
    unfold ab_tie at ht
    rw [e1] at ht
    obtain ⟨x', w, g1, g2, g3⟩ := ht
    cases g1
    cases hb : (decide (bl = 0) && decide (bu = 0)) with
    | false => exact hF
    | true =>
      rw [cond_true]
      simp only [Bool.and_eq_true, decide_eq_true_eq] at hb
      have hy : y = 0 := Int32.toInt_inj.mp (by
        have : (0 : Int32).toInt = 0 := by decide
        rw [this]
        omega)
      subst hy
      cases c
      · simp only [am_cmp, decide_eq_true_eq] at hc
        exact ab_narL_ok hF g2 ⟨(fun e => by cases e), fun e => absurd (g3.mp hc) e⟩
      · simp only [am_cmp, decide_eq_true_eq] at hc
        exact ab_narL_ok hF g2 ⟨fun _ e => hc (g3.mpr e), fun _ => rfl⟩
      all_goals exact hF
  · exact hF
/-- a local of which no number is left -/
def ab_dead (F : ab_F) : Bool := F.1.any (fun q => Nat.beq q.2.1 0 && decide (q.2.2.2.1 < q.2.2.1))
theorem ab_dead_ok {ls : am_L} {st : List Value} {h : am_H} {F : ab_F} (hF : ab_gF F ls st h) : ab_dead F = false := by
  cases hd : ab_dead F with
  | false => rfl
  | true =>
    obtain ⟨q, hq, hb⟩ := List.any_eq_true.mp hd
    rw [Bool.and_eq_true] at hb
    obtain ⟨v, g1, g2⟩ := hF.1 q hq
    obtain ⟨x, rfl, l1, u1⟩ := ab_gI hb.1 g2
    have := of_decide_eq_true hb.2
    omega
def ab_sd (c : ClassFile.Cond) (F : ab_F) (a b : ab_S) (q : Int × Int × Int × Int) : Option ab_F :=
  cond (decide (q.1 ≤ q.2.1) && decide (q.2.2.1 ≤ q.2.2.2)) (match ab_n2 c (ab_nt (ab_nt F a q.1 q.2.1) b q.2.2.1 q.2.2.2) a q.2.2.1 q.2.2.2 with
    | G => cond (ab_dead G) none (some G)) none
def ab_sds (c : ClassFile.Cond) (F : ab_F) (a b : ab_S) : List ab_F := (ab_lim c a.1.2.1 a.1.2.2.1 b.1.2.1 b.1.2.2.1).filterMap (ab_sd c F a b)
theorem ab_sds_ok {c : ClassFile.Cond} {ls : am_L} {st : List Value} {h : am_H} {F : ab_F} {a b : ab_S} {x y : Int32} (hF : ab_gF F ls st h) (ha : ab_gS ls h a (.int x)) (hb : ab_gS ls h b (.int y)) (ia : ab_is0 a = true) (ib : ab_is0 b = true) (hc : am_cmp c x y = true) : ∃ F' ∈ ab_sds c F a b, ab_gF F' ls st h := by
  obtain ⟨x', e1, l1, u1⟩ := ab_g0 ia ha.1
  cases e1
  obtain ⟨y', e2, l2, u2⟩ := ab_g0 ib hb.1
  cases e2
  obtain ⟨q, hq, q1, q2, q3, q4⟩ := ab_lim_ok hc l1 u1 l2 u2
  have hG := ab_n2_ok (c := c) (ab_nt_ok (ab_nt_ok hF ha.2 q1 q2) hb.2 q3 q4) ha.2 hc q3 q4
  refine ⟨_, List.mem_filterMap.mpr ⟨q, hq, ?_⟩, hG⟩
  unfold ab_sd
  rw [decide_eq_true (show q.1 ≤ q.2.1 by omega), decide_eq_true (show q.2.2.1 ≤ q.2.2.2 by omega)]
  simp only [Bool.and_self, cond_true, ab_dead_ok hG, cond_false]
