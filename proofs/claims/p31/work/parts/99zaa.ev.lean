set_option maxHeartbeats 400000
/-! ===== WHAT A LAW COMES TO (wip/r/gen99sk.py) ===== -/
/-- a number in its bounds -/
def lwL (z : Int) : Option Int := if -1000000000000 ≤ z ∧ z ≤ 1000000000000 then some z else none
def lwT (p : Prop) [Decidable p] : Option Int := some (if p then 1 else 0)
/-- two values joined, by the class's signs -/
def jZ (o : Int32) (a b : Int) : Option Int := if o = 3 then lwT (¬ a = 0 ∨ ¬ b = 0) else if o = 4 then lwT (¬ a = 0 ∧ ¬ b = 0) else if o = 6 then lwT (a < b) else if o = 7 then lwT (a ≤ b) else if o = 8 then lwT (a = b) else if o = 9 then lwT (¬ a = b) else if o = 10 then lwT (b ≤ a) else if o = 12 then lwL (a + b) else if o = 13 then lwL (a - b) else if o = 14 then lwL (a * b) else if o = 15 then (if b = 0 then none else some (a.tdiv b)) else lwT (b < a)
/-- two values compared, by the model's signs -/
def cZ (k : Int32) (a b : Int) : Option Int := if k = 5 then lwT (a < b) else if k = 6 then lwT (a ≤ b) else if k = 7 then lwT (a = b) else if k = 8 then lwT (¬ a = b) else if k = 9 then lwT (b ≤ a) else lwT (b < a)
/-- two values joined, by the model's signs -/
def mZ (k : Int32) (a b : Int) : Option Int := if k = 3 then lwT (¬ a = 0 ∧ ¬ b = 0) else if k = 4 then lwT (¬ a = 0 ∨ ¬ b = 0) else if k = 11 then lwL (a + b) else if k = 12 then lwL (a - b) else if k = 13 then lwL (a * b) else if k = 14 then (if b = 0 then none else some (a.tdiv b)) else cZ k a b
/-- what the class's join answers: the value, or what lies behind the bounds -/
def okW (q : Option Int) (w : Int) : Prop := match q with
  | some z => w = z
  | none => w < -1000000000000 ∨ 1000000000000 < w
theorem okW_L {z : Int} : okW (lwL z) z := by
  unfold lwL
  split
  · exact (rfl : z = z)
  · show z < -1000000000000 ∨ 1000000000000 < z
    omega
theorem okW_0 {z w : Int} (hz_z : z < -1000000000000 ∨ 1000000000000 < z) (hw_z : w < -1000000000000 ∨ 1000000000000 < w) : okW (lwL z) w := by
  unfold lwL
  rw [if_neg (by omega)]
  exact hw_z
theorem lwT_1 {p : Prop} [Decidable p] (h : p) : lwT p = some 1 := by
  unfold lwT
  rw [if_pos h]
theorem lwT_0 {p : Prop} [Decidable p] (h : ¬ p) : lwT p = some 0 := by
  unfold lwT
  rw [if_neg h]
theorem okW_1 {p : Prop} [Decidable p] (h : p) : okW (lwT p) (1 : Int64).toInt := by
  rw [lwT_1 h]
  show (1 : Int64).toInt = 1
  decide
theorem okW_2 {p : Prop} [Decidable p] (h : ¬ p) : okW (lwT p) (0 : Int64).toInt := by
  rw [lwT_0 h]
  show (0 : Int64).toInt = 0
  decide
theorem jZ_3 {a b : Int} : jZ 3 a b = (lwT (¬ a = 0 ∨ ¬ b = 0)) := by
  unfold jZ
  exact (if_pos rfl)
theorem jZ_4 {a b : Int} : jZ 4 a b = (lwT (¬ a = 0 ∧ ¬ b = 0)) := by
  unfold jZ
  exact (if_neg (by decide)).trans ((if_pos rfl))
theorem jZ_6 {a b : Int} : jZ 6 a b = (lwT (a < b)) := by
  unfold jZ
  exact (if_neg (by decide)).trans ((if_neg (by decide)).trans ((if_pos rfl)))
theorem jZ_7 {a b : Int} : jZ 7 a b = (lwT (a ≤ b)) := by
  unfold jZ
  exact (if_neg (by decide)).trans ((if_neg (by decide)).trans ((if_neg (by decide)).trans ((if_pos rfl))))
theorem jZ_8 {a b : Int} : jZ 8 a b = (lwT (a = b)) := by
  unfold jZ
  exact (if_neg (by decide)).trans ((if_neg (by decide)).trans ((if_neg (by decide)).trans ((if_neg (by decide)).trans ((if_pos rfl)))))
theorem jZ_9 {a b : Int} : jZ 9 a b = (lwT (¬ a = b)) := by
  unfold jZ
  exact (if_neg (by decide)).trans ((if_neg (by decide)).trans ((if_neg (by decide)).trans ((if_neg (by decide)).trans ((if_neg (by decide)).trans ((if_pos rfl))))))
theorem jZ_10 {a b : Int} : jZ 10 a b = (lwT (b ≤ a)) := by
  unfold jZ
  exact (if_neg (by decide)).trans ((if_neg (by decide)).trans ((if_neg (by decide)).trans ((if_neg (by decide)).trans ((if_neg (by decide)).trans ((if_neg (by decide)).trans ((if_pos rfl)))))))
theorem jZ_12 {a b : Int} : jZ 12 a b = (lwL (a + b)) := by
  unfold jZ
  exact (if_neg (by decide)).trans ((if_neg (by decide)).trans ((if_neg (by decide)).trans ((if_neg (by decide)).trans ((if_neg (by decide)).trans ((if_neg (by decide)).trans ((if_neg (by decide)).trans ((if_pos rfl))))))))
theorem jZ_13 {a b : Int} : jZ 13 a b = (lwL (a - b)) := by
  unfold jZ
  exact (if_neg (by decide)).trans ((if_neg (by decide)).trans ((if_neg (by decide)).trans ((if_neg (by decide)).trans ((if_neg (by decide)).trans ((if_neg (by decide)).trans ((if_neg (by decide)).trans ((if_neg (by decide)).trans ((if_pos rfl)))))))))
theorem jZ_14 {a b : Int} : jZ 14 a b = (lwL (a * b)) := by
  unfold jZ
  exact (if_neg (by decide)).trans ((if_neg (by decide)).trans ((if_neg (by decide)).trans ((if_neg (by decide)).trans ((if_neg (by decide)).trans ((if_neg (by decide)).trans ((if_neg (by decide)).trans ((if_neg (by decide)).trans ((if_neg (by decide)).trans ((if_pos rfl))))))))))
theorem jZ_15 {a b : Int} : jZ 15 a b = (if b = 0 then none else some (a.tdiv b)) := by
  unfold jZ
  exact (if_neg (by decide)).trans ((if_neg (by decide)).trans ((if_neg (by decide)).trans ((if_neg (by decide)).trans ((if_neg (by decide)).trans ((if_neg (by decide)).trans ((if_neg (by decide)).trans ((if_neg (by decide)).trans ((if_neg (by decide)).trans ((if_neg (by decide)).trans ((if_pos rfl)))))))))))
theorem jZ_z {o : Int32} {a b : Int} (n3_z : ¬ o = 3) (n4_z : ¬ o = 4) (n6_z : ¬ o = 6) (n7_z : ¬ o = 7) (n8_z : ¬ o = 8) (n9_z : ¬ o = 9) (n10_z : ¬ o = 10) (n12_z : ¬ o = 12) (n13_z : ¬ o = 13) (n14_z : ¬ o = 14) (n15_z : ¬ o = 15) : jZ o a b = lwT (b < a) := by
  unfold jZ
  exact (if_neg n3_z).trans ((if_neg n4_z).trans ((if_neg n6_z).trans ((if_neg n7_z).trans ((if_neg n8_z).trans ((if_neg n9_z).trans ((if_neg n10_z).trans ((if_neg n12_z).trans ((if_neg n13_z).trans ((if_neg n14_z).trans (if_neg n15_z))))))))))
theorem cZ_5 {a b : Int} : cZ 5 a b = (lwT (a < b)) := by
  unfold cZ
  exact (if_pos rfl)
theorem cZ_6 {a b : Int} : cZ 6 a b = (lwT (a ≤ b)) := by
  unfold cZ
  exact (if_neg (by decide)).trans ((if_pos rfl))
theorem cZ_7 {a b : Int} : cZ 7 a b = (lwT (a = b)) := by
  unfold cZ
  exact (if_neg (by decide)).trans ((if_neg (by decide)).trans ((if_pos rfl)))
theorem cZ_8 {a b : Int} : cZ 8 a b = (lwT (¬ a = b)) := by
  unfold cZ
  exact (if_neg (by decide)).trans ((if_neg (by decide)).trans ((if_neg (by decide)).trans ((if_pos rfl))))
theorem cZ_9 {a b : Int} : cZ 9 a b = (lwT (b ≤ a)) := by
  unfold cZ
  exact (if_neg (by decide)).trans ((if_neg (by decide)).trans ((if_neg (by decide)).trans ((if_neg (by decide)).trans ((if_pos rfl)))))
theorem cZ_z {k : Int32} {a b : Int} (n5_z : ¬ k = 5) (n6_z : ¬ k = 6) (n7_z : ¬ k = 7) (n8_z : ¬ k = 8) (n9_z : ¬ k = 9) : cZ k a b = lwT (b < a) := by
  unfold cZ
  exact (if_neg n5_z).trans ((if_neg n6_z).trans ((if_neg n7_z).trans ((if_neg n8_z).trans (if_neg n9_z))))
theorem mZ_3 {a b : Int} : mZ 3 a b = (lwT (¬ a = 0 ∧ ¬ b = 0)) := by
  unfold mZ
  exact (if_pos rfl)
theorem mZ_4 {a b : Int} : mZ 4 a b = (lwT (¬ a = 0 ∨ ¬ b = 0)) := by
  unfold mZ
  exact (if_neg (by decide)).trans ((if_pos rfl))
theorem mZ_11 {a b : Int} : mZ 11 a b = (lwL (a + b)) := by
  unfold mZ
  exact (if_neg (by decide)).trans ((if_neg (by decide)).trans ((if_pos rfl)))
theorem mZ_12 {a b : Int} : mZ 12 a b = (lwL (a - b)) := by
  unfold mZ
  exact (if_neg (by decide)).trans ((if_neg (by decide)).trans ((if_neg (by decide)).trans ((if_pos rfl))))
theorem mZ_13 {a b : Int} : mZ 13 a b = (lwL (a * b)) := by
  unfold mZ
  exact (if_neg (by decide)).trans ((if_neg (by decide)).trans ((if_neg (by decide)).trans ((if_neg (by decide)).trans ((if_pos rfl)))))
theorem mZ_14 {a b : Int} : mZ 14 a b = (if b = 0 then none else some (a.tdiv b)) := by
  unfold mZ
  exact (if_neg (by decide)).trans ((if_neg (by decide)).trans ((if_neg (by decide)).trans ((if_neg (by decide)).trans ((if_neg (by decide)).trans ((if_pos rfl))))))
theorem mZ_z {k : Int32} {a b : Int} (n3_z : ¬ k = 3) (n4_z : ¬ k = 4) (n11_z : ¬ k = 11) (n12_z : ¬ k = 12) (n13_z : ¬ k = 13) (n14_z : ¬ k = 14) : mZ k a b = cZ k a b := by
  unfold mZ
  exact (if_neg n3_z).trans ((if_neg n4_z).trans ((if_neg n11_z).trans ((if_neg n12_z).trans ((if_neg n13_z).trans (if_neg n14_z)))))
theorem tm_in {A b : Int} (hA : 0 < A) (h1_z : -(1000000000000 / A) ≤ b) (h2_z : b ≤ 1000000000000 / A) : -1000000000000 ≤ A * b ∧ A * b ≤ 1000000000000 := by
  have e : A * (1000000000000 / A) ≤ 1000000000000 := Int.mul_ediv_self_le (by omega)
  have a1_z : A * b ≤ A * (1000000000000 / A) := Int.mul_le_mul_of_nonneg_left h2_z (by omega)
  have a2_z : A * (-(1000000000000 / A)) ≤ A * b := Int.mul_le_mul_of_nonneg_left h1_z (by omega)
  rw [Int.mul_neg] at a2_z
  exact ⟨by omega, by omega⟩
theorem tm_out {A b : Int} (hA : 0 < A) (h : 1000000000000 / A < b ∨ b < -(1000000000000 / A)) : A * b < -1000000000000 ∨ 1000000000000 < A * b := by
  have e : 1000000000000 < A * (1000000000000 / A) + A := Int.lt_mul_ediv_self_add hA
  have f : A * (1000000000000 / A + 1) = A * (1000000000000 / A) + A := by rw [Int.mul_add, Int.mul_one]
  rcases h with h | h
  · have a1_z : A * (1000000000000 / A + 1) ≤ A * b := Int.mul_le_mul_of_nonneg_left (by omega) (by omega)
    exact Or.inr (by omega)
  · have a1_z : A * (1000000000000 / A + 1) ≤ A * (-b) := Int.mul_le_mul_of_nonneg_left (by omega) (by omega)
    rw [Int.mul_neg] at a1_z
    exact Or.inl (by omega)
theorem lw_M : (1000000000000 : Int64).toInt = 1000000000000 := by decide +kernel
theorem lw_m : (-1000000000000 : Int64).toInt = -1000000000000 := by decide +kernel
theorem lw_E : (-9223372036854775808 : Int64).toInt = -9223372036854775808 := by decide +kernel
theorem lw_z : (0 : Int64).toInt = 0 := by decide
/-- a value in its bounds -/
def lB (z : Int) : Prop := -1000000000000 ≤ z ∧ z ≤ 1000000000000
theorem lw_add {a b : Int64} (A : lB a.toInt) (B : lB b.toInt) : (a + b).toInt = a.toInt + b.toInt := by
  unfold lB at A B
  rw [Int64.toInt_add]
  exact ab_bm64 (by omega) (by omega)
theorem lw_sub {a b : Int64} (A : lB a.toInt) (B : lB b.toInt) : (a - b).toInt = a.toInt - b.toInt := by
  unfold lB at A B
  rw [Int64.toInt_sub]
  exact ab_bm64 (by omega) (by omega)
theorem lw_neg {a : Int64} (A : lB a.toInt) : (-a).toInt = -a.toInt := by
  unfold lB at A
  rw [Int64.toInt_neg]
  exact ab_bm64 (by omega) (by omega)
theorem lw_mul {a b : Int64} (h : lB (a.toInt * b.toInt)) : (a * b).toInt = a.toInt * b.toInt := by
  unfold lB at h
  rw [Int64.toInt_mul]
  exact ab_bm64 (by omega) (by omega)
theorem lw_div {a b : Int64} (A : lB a.toInt) : (a / b).toInt = a.toInt.tdiv b.toInt := by
  unfold lB at A
  rw [Int64.toInt_div]
  have q := Int.natAbs_tdiv_le_natAbs a.toInt b.toInt
  exact ab_bm64 (by omega) (by omega)
/-- the most that the other one may be -/
theorem lw_most {c : Int64} (hc_z : 0 < c.toInt) : (1000000000000 / c).toInt = 1000000000000 / c.toInt := by
  rw [lw_div (by rw [lw_M]; exact ⟨by omega, by omega⟩), lw_M]
  exact Int.tdiv_eq_ediv_of_nonneg (by decide)
theorem lw_mr {A : Int} (hA : 0 < A) (h9_z : A ≤ 1000000000000) : 1 ≤ 1000000000000 / A ∧ 1000000000000 / A ≤ 1000000000000 := by
  refine ⟨(Int.le_ediv_iff_mul_le hA).mpr (by omega), ?_⟩
  exact Int.ediv_le_self A (by decide)
theorem lgc_c (a b : Int64) : (b.toInt < a.toInt ∧ lg_cmp a b = 1) ∨ (a.toInt = b.toInt ∧ lg_cmp a b = 0) ∨ (a.toInt < b.toInt ∧ lg_cmp a b = -1) := by
  unfold lg_cmp
  split
  · rename_i q
    exact Or.inl ⟨Int64.lt_iff_toInt_lt.mp q, rfl⟩
  · rename_i q
    have q2_z : ¬ b.toInt < a.toInt := fun z => q (Int64.lt_iff_toInt_lt.mpr z)
    split
    · rename_i e
      exact Or.inr (Or.inl ⟨congrArg Int64.toInt e, rfl⟩)
    · rename_i e
      have e2_z : ¬ a.toInt = b.toInt := fun z => e (Int64.toInt_inj.mp z)
      exact Or.inr (Or.inr ⟨by omega, rfl⟩)
theorem lgc_v (a b : Int64) : (b.toInt < a.toInt ∧ (lg_cmp a b).toInt = 1) ∨ (a.toInt = b.toInt ∧ (lg_cmp a b).toInt = 0) ∨ (a.toInt < b.toInt ∧ (lg_cmp a b).toInt = -1) := by
  rcases lgc_c a b with ⟨h, e⟩ | ⟨h, e⟩ | ⟨h, e⟩
  · exact Or.inl ⟨h, by rw [e]; decide⟩
  · exact Or.inr (Or.inl ⟨h, by rw [e]; decide⟩)
  · exact Or.inr (Or.inr ⟨h, by rw [e]; decide⟩)
theorem lgc_gt {a b : Int64} (h : (0 : Int32).toInt < (lg_cmp a b).toInt) : b.toInt < a.toInt := by
  have z : (0 : Int32).toInt = 0 := by decide
  rcases lgc_v a b with ⟨q, e⟩ | ⟨q, e⟩ | ⟨q, e⟩ <;> omega
theorem lgc_lt {a b : Int64} (h : (lg_cmp a b).toInt < (0 : Int32).toInt) : a.toInt < b.toInt := by
  have z : (0 : Int32).toInt = 0 := by decide
  rcases lgc_v a b with ⟨q, e⟩ | ⟨q, e⟩ | ⟨q, e⟩ <;> omega
theorem lgc_le {a b : Int64} (h : (lg_cmp a b).toInt ≤ (0 : Int32).toInt) : a.toInt ≤ b.toInt := by
  have z : (0 : Int32).toInt = 0 := by decide
  rcases lgc_v a b with ⟨q, e⟩ | ⟨q, e⟩ | ⟨q, e⟩ <;> omega
theorem lgc_ge {a b : Int64} (h : (0 : Int32).toInt ≤ (lg_cmp a b).toInt) : b.toInt ≤ a.toInt := by
  have z : (0 : Int32).toInt = 0 := by decide
  rcases lgc_v a b with ⟨q, e⟩ | ⟨q, e⟩ | ⟨q, e⟩ <;> omega
theorem lgc_eq {a b : Int64} (h : lg_cmp a b = 0 ∧ (lg_cmp a b).toInt = (0 : Int32).toInt) : a.toInt = b.toInt := by
  have z : (0 : Int32).toInt = 0 := by decide
  obtain ⟨-, h⟩ := h
  rcases lgc_v a b with ⟨q, e⟩ | ⟨q, e⟩ | ⟨q, e⟩ <;> omega
theorem lgc_ne {a b : Int64} (h : ¬ lg_cmp a b = 0 ∧ ¬ (lg_cmp a b).toInt = (0 : Int32).toInt) : ¬ a.toInt = b.toInt := by
  have z : (0 : Int32).toInt = 0 := by decide
  obtain ⟨-, h⟩ := h
  rcases lgc_v a b with ⟨q, e⟩ | ⟨q, e⟩ | ⟨q, e⟩ <;> omega
theorem jZ_b {o : Int32} {a b z : Int} (A : lB a) (e : jZ o a b = some z) : lB z := by
  have hT : ∀ {p : Prop} [Decidable p], lwT p = some z → lB z := by
    intro p _ h
    by_cases c : p
    · rw [lwT_1 c] at h
      cases h
      exact ⟨by decide, by decide⟩
    · rw [lwT_0 c] at h
      cases h
      exact ⟨by decide, by decide⟩
  have hL : ∀ {x : Int}, lwL x = some z → lB z := by
    intro x h
    unfold lwL at h
    split at h
    · rename_i q
      cases h
      exact q
    · cases h
  have hD : (if b = 0 then none else some (a.tdiv b)) = some z → lB z := by
    intro h
    split at h
    · cases h
    · cases h
      have q := Int.natAbs_tdiv_le_natAbs a b
      unfold lB at A ⊢
      omega
  unfold jZ at e
  by_cases c3_z : o = 3
  · rw [if_pos c3_z] at e
    exact hT e
  rw [if_neg c3_z] at e
  by_cases c4_z : o = 4
  · rw [if_pos c4_z] at e
    exact hT e
  rw [if_neg c4_z] at e
  by_cases c6_z : o = 6
  · rw [if_pos c6_z] at e
    exact hT e
  rw [if_neg c6_z] at e
  by_cases c7_z : o = 7
  · rw [if_pos c7_z] at e
    exact hT e
  rw [if_neg c7_z] at e
  by_cases c8_z : o = 8
  · rw [if_pos c8_z] at e
    exact hT e
  rw [if_neg c8_z] at e
  by_cases c9_z : o = 9
  · rw [if_pos c9_z] at e
    exact hT e
  rw [if_neg c9_z] at e
  by_cases c10_z : o = 10
  · rw [if_pos c10_z] at e
    exact hT e
  rw [if_neg c10_z] at e
  by_cases c12_z : o = 12
  · rw [if_pos c12_z] at e
    exact hL e
  rw [if_neg c12_z] at e
  by_cases c13_z : o = 13
  · rw [if_pos c13_z] at e
    exact hL e
  rw [if_neg c13_z] at e
  by_cases c14_z : o = 14
  · rw [if_pos c14_z] at e
    exact hL e
  rw [if_neg c14_z] at e
  by_cases c15_z : o = 15
  · rw [if_pos c15_z] at e
    exact hD e
  rw [if_neg c15_z] at e
  exact hT e
theorem jn_67 {n : Nat} {r : Option Value} {h h' : am_H} {o : Int32} {a b : Int64} (A : lB a.toInt) (B : lB b.toInt) (hc_z : rn n am_m67 0 (lv_args 0 [.int o, .long a, .long b]) [] h r h') : ∃ w : Int64, r = some (.long w) ∧ h' = h ∧ okW (jZ o a.toInt b.toInt) w.toInt := by
  have z0_z : (0 : Int32).toInt = 0 := by decide
  have zM := lw_M
  have zm := lw_m
  have zz := lw_z
  have g0_z : am_get (lv_args 0 [.int o, .long a, .long b]) 0 = some (.int o) := rfl
  have g1_z : am_get (lv_args 0 [.int o, .long a, .long b]) 1 = some (.long a) := rfl
  have g3_z : am_get (lv_args 0 [.int o, .long a, .long b]) 3 = some (.long b) := rfl
  replace hc_z := rn_iload_n (am_cur_of (i := (0, 1, .iload_n 0, (0, 0, 0), 0)) (by decide +kernel)) g0_z hc_z
  by_cases v1_z : o = 3
  · replace hc_z := rn_swI (off := 146) (a := 52) (am_cur_of (i := (1, 67, .tableswitch 242 3 15 #[146, 164, 242, 182, 194, 206, 218, 230, 242, 67, 71, 75, 130], (0, 0, 0), 0)) (by decide +kernel)) (by rw [v1_z]; decide) (by rw [v1_z]; decide) (by decide +kernel) hc_z
    replace hc_z := rn_lload_n (am_cur_of (i := (147, 1, .lload_n 1, (0, 0, 0), 0)) (by decide +kernel)) g1_z hc_z
    replace hc_z := rn_lconst (w := 0) (am_cur_of (i := (148, 1, .lconst 0, (0, 0, 0), 0)) (by decide +kernel)) rfl hc_z
    replace hc_z := rn_lcmp (w := lg_cmp a 0) (am_cur_of (i := (149, 1, .lcmp, (0, 0, 0), 0)) (by decide +kernel)) rfl hc_z
    replace hc_z := rn_if (am_cur_of (i := (150, 3, .ifCond .ne 9, (60, 0, 0), 0)) (by decide +kernel)) hc_z
    rcases hc_z with ⟨b2_z, hc_z⟩ | ⟨b2_z, hc_z⟩
    · replace b2_z : ¬ (lg_cmp a 0) = (0 : Int32) ∧ ¬ (lg_cmp a 0).toInt = (0 : Int32).toInt := b2_z
      replace b2_z := lgc_ne b2_z
      replace hc_z := rn_lconst (w := 1) (am_cur_of (i := (159, 1, .lconst 1, (0, 0, 0), 0)) (by decide +kernel)) rfl hc_z
      replace hc_z := rn_goto (am_cur_of (i := (160, 3, .goto 4, (63, 0, 0), 0)) (by decide +kernel)) hc_z
      replace hc_z := rn_lret (am_cur_of (i := (164, 1, .lreturn, (0, 0, 0), 0)) (by decide +kernel)) hc_z
      obtain ⟨e3_z, e4_z⟩ := hc_z
      refine ⟨_, e3_z, e4_z, ?_⟩
      rw [v1_z, jZ_3]
      exact okW_1 (by omega)
    · replace b2_z : (lg_cmp a 0) = (0 : Int32) ∧ (lg_cmp a 0).toInt = (0 : Int32).toInt := b2_z
      replace b2_z := lgc_eq b2_z
      replace hc_z := rn_lload_n (am_cur_of (i := (153, 1, .lload_n 3, (0, 0, 0), 0)) (by decide +kernel)) g3_z hc_z
      replace hc_z := rn_lconst (w := 0) (am_cur_of (i := (154, 1, .lconst 0, (0, 0, 0), 0)) (by decide +kernel)) rfl hc_z
      replace hc_z := rn_lcmp (w := lg_cmp b 0) (am_cur_of (i := (155, 1, .lcmp, (0, 0, 0), 0)) (by decide +kernel)) rfl hc_z
      replace hc_z := rn_if (am_cur_of (i := (156, 3, .ifCond .eq 7, (62, 0, 0), 0)) (by decide +kernel)) hc_z
      rcases hc_z with ⟨b5_z, hc_z⟩ | ⟨b5_z, hc_z⟩
      · replace b5_z : (lg_cmp b 0) = (0 : Int32) ∧ (lg_cmp b 0).toInt = (0 : Int32).toInt := b5_z
        replace b5_z := lgc_eq b5_z
        replace hc_z := rn_lconst (w := 0) (am_cur_of (i := (163, 1, .lconst 0, (0, 0, 0), 0)) (by decide +kernel)) rfl hc_z
        replace hc_z := rn_lret (am_cur_of (i := (164, 1, .lreturn, (0, 0, 0), 0)) (by decide +kernel)) hc_z
        obtain ⟨e6_z, e7_z⟩ := hc_z
        refine ⟨_, e6_z, e7_z, ?_⟩
        rw [v1_z, jZ_3]
        exact okW_2 (by omega)
      · replace b5_z : ¬ (lg_cmp b 0) = (0 : Int32) ∧ ¬ (lg_cmp b 0).toInt = (0 : Int32).toInt := b5_z
        replace b5_z := lgc_ne b5_z
        replace hc_z := rn_lconst (w := 1) (am_cur_of (i := (159, 1, .lconst 1, (0, 0, 0), 0)) (by decide +kernel)) rfl hc_z
        replace hc_z := rn_goto (am_cur_of (i := (160, 3, .goto 4, (63, 0, 0), 0)) (by decide +kernel)) hc_z
        replace hc_z := rn_lret (am_cur_of (i := (164, 1, .lreturn, (0, 0, 0), 0)) (by decide +kernel)) hc_z
        obtain ⟨e8_z, e9_z⟩ := hc_z
        refine ⟨_, e8_z, e9_z, ?_⟩
        rw [v1_z, jZ_3]
        exact okW_1 (by omega)
  by_cases v10_z : o = 4
  · replace hc_z := rn_swI (off := 164) (a := 64) (am_cur_of (i := (1, 67, .tableswitch 242 3 15 #[146, 164, 242, 182, 194, 206, 218, 230, 242, 67, 71, 75, 130], (0, 0, 0), 0)) (by decide +kernel)) (by rw [v10_z]; decide) (by rw [v10_z]; decide) (by decide +kernel) hc_z
    replace hc_z := rn_lload_n (am_cur_of (i := (165, 1, .lload_n 1, (0, 0, 0), 0)) (by decide +kernel)) g1_z hc_z
    replace hc_z := rn_lconst (w := 0) (am_cur_of (i := (166, 1, .lconst 0, (0, 0, 0), 0)) (by decide +kernel)) rfl hc_z
    replace hc_z := rn_lcmp (w := lg_cmp a 0) (am_cur_of (i := (167, 1, .lcmp, (0, 0, 0), 0)) (by decide +kernel)) rfl hc_z
    replace hc_z := rn_if (am_cur_of (i := (168, 3, .ifCond .eq 13, (74, 0, 0), 0)) (by decide +kernel)) hc_z
    rcases hc_z with ⟨b11_z, hc_z⟩ | ⟨b11_z, hc_z⟩
    · replace b11_z : (lg_cmp a 0) = (0 : Int32) ∧ (lg_cmp a 0).toInt = (0 : Int32).toInt := b11_z
      replace b11_z := lgc_eq b11_z
      replace hc_z := rn_lconst (w := 0) (am_cur_of (i := (181, 1, .lconst 0, (0, 0, 0), 0)) (by decide +kernel)) rfl hc_z
      replace hc_z := rn_lret (am_cur_of (i := (182, 1, .lreturn, (0, 0, 0), 0)) (by decide +kernel)) hc_z
      obtain ⟨e12_z, e13_z⟩ := hc_z
      refine ⟨_, e12_z, e13_z, ?_⟩
      rw [v10_z, jZ_4]
      exact okW_2 (by omega)
    · replace b11_z : ¬ (lg_cmp a 0) = (0 : Int32) ∧ ¬ (lg_cmp a 0).toInt = (0 : Int32).toInt := b11_z
      replace b11_z := lgc_ne b11_z
      replace hc_z := rn_lload_n (am_cur_of (i := (171, 1, .lload_n 3, (0, 0, 0), 0)) (by decide +kernel)) g3_z hc_z
      replace hc_z := rn_lconst (w := 0) (am_cur_of (i := (172, 1, .lconst 0, (0, 0, 0), 0)) (by decide +kernel)) rfl hc_z
      replace hc_z := rn_lcmp (w := lg_cmp b 0) (am_cur_of (i := (173, 1, .lcmp, (0, 0, 0), 0)) (by decide +kernel)) rfl hc_z
      replace hc_z := rn_if (am_cur_of (i := (174, 3, .ifCond .eq 7, (74, 0, 0), 0)) (by decide +kernel)) hc_z
      rcases hc_z with ⟨b14_z, hc_z⟩ | ⟨b14_z, hc_z⟩
      · replace b14_z : (lg_cmp b 0) = (0 : Int32) ∧ (lg_cmp b 0).toInt = (0 : Int32).toInt := b14_z
        replace b14_z := lgc_eq b14_z
        replace hc_z := rn_lconst (w := 0) (am_cur_of (i := (181, 1, .lconst 0, (0, 0, 0), 0)) (by decide +kernel)) rfl hc_z
        replace hc_z := rn_lret (am_cur_of (i := (182, 1, .lreturn, (0, 0, 0), 0)) (by decide +kernel)) hc_z
        obtain ⟨e15_z, e16_z⟩ := hc_z
        refine ⟨_, e15_z, e16_z, ?_⟩
        rw [v10_z, jZ_4]
        exact okW_2 (by omega)
      · replace b14_z : ¬ (lg_cmp b 0) = (0 : Int32) ∧ ¬ (lg_cmp b 0).toInt = (0 : Int32).toInt := b14_z
        replace b14_z := lgc_ne b14_z
        replace hc_z := rn_lconst (w := 1) (am_cur_of (i := (177, 1, .lconst 1, (0, 0, 0), 0)) (by decide +kernel)) rfl hc_z
        replace hc_z := rn_goto (am_cur_of (i := (178, 3, .goto 4, (75, 0, 0), 0)) (by decide +kernel)) hc_z
        replace hc_z := rn_lret (am_cur_of (i := (182, 1, .lreturn, (0, 0, 0), 0)) (by decide +kernel)) hc_z
        obtain ⟨e17_z, e18_z⟩ := hc_z
        refine ⟨_, e17_z, e18_z, ?_⟩
        rw [v10_z, jZ_4]
        exact okW_1 (by omega)
  by_cases v19_z : o = 6
  · replace hc_z := rn_swI (off := 182) (a := 76) (am_cur_of (i := (1, 67, .tableswitch 242 3 15 #[146, 164, 242, 182, 194, 206, 218, 230, 242, 67, 71, 75, 130], (0, 0, 0), 0)) (by decide +kernel)) (by rw [v19_z]; decide) (by rw [v19_z]; decide) (by decide +kernel) hc_z
    replace hc_z := rn_lload_n (am_cur_of (i := (183, 1, .lload_n 1, (0, 0, 0), 0)) (by decide +kernel)) g1_z hc_z
    replace hc_z := rn_lload_n (am_cur_of (i := (184, 1, .lload_n 3, (0, 0, 0), 0)) (by decide +kernel)) g3_z hc_z
    replace hc_z := rn_lcmp (w := lg_cmp a b) (am_cur_of (i := (185, 1, .lcmp, (0, 0, 0), 0)) (by decide +kernel)) rfl hc_z
    replace hc_z := rn_if (am_cur_of (i := (186, 3, .ifCond .ge 7, (82, 0, 0), 0)) (by decide +kernel)) hc_z
    rcases hc_z with ⟨b20_z, hc_z⟩ | ⟨b20_z, hc_z⟩
    · replace b20_z : (0 : Int32).toInt ≤ (lg_cmp a b).toInt := b20_z
      replace b20_z := lgc_ge b20_z
      replace hc_z := rn_lconst (w := 0) (am_cur_of (i := (193, 1, .lconst 0, (0, 0, 0), 0)) (by decide +kernel)) rfl hc_z
      replace hc_z := rn_lret (am_cur_of (i := (194, 1, .lreturn, (0, 0, 0), 0)) (by decide +kernel)) hc_z
      obtain ⟨e21_z, e22_z⟩ := hc_z
      refine ⟨_, e21_z, e22_z, ?_⟩
      rw [v19_z, jZ_6]
      exact okW_2 (by omega)
    · replace b20_z : (lg_cmp a b).toInt < (0 : Int32).toInt := b20_z
      replace b20_z := lgc_lt b20_z
      replace hc_z := rn_lconst (w := 1) (am_cur_of (i := (189, 1, .lconst 1, (0, 0, 0), 0)) (by decide +kernel)) rfl hc_z
      replace hc_z := rn_goto (am_cur_of (i := (190, 3, .goto 4, (83, 0, 0), 0)) (by decide +kernel)) hc_z
      replace hc_z := rn_lret (am_cur_of (i := (194, 1, .lreturn, (0, 0, 0), 0)) (by decide +kernel)) hc_z
      obtain ⟨e23_z, e24_z⟩ := hc_z
      refine ⟨_, e23_z, e24_z, ?_⟩
      rw [v19_z, jZ_6]
      exact okW_1 (by omega)
  by_cases v25_z : o = 7
  · replace hc_z := rn_swI (off := 194) (a := 84) (am_cur_of (i := (1, 67, .tableswitch 242 3 15 #[146, 164, 242, 182, 194, 206, 218, 230, 242, 67, 71, 75, 130], (0, 0, 0), 0)) (by decide +kernel)) (by rw [v25_z]; decide) (by rw [v25_z]; decide) (by decide +kernel) hc_z
    replace hc_z := rn_lload_n (am_cur_of (i := (195, 1, .lload_n 1, (0, 0, 0), 0)) (by decide +kernel)) g1_z hc_z
    replace hc_z := rn_lload_n (am_cur_of (i := (196, 1, .lload_n 3, (0, 0, 0), 0)) (by decide +kernel)) g3_z hc_z
    replace hc_z := rn_lcmp (w := lg_cmp a b) (am_cur_of (i := (197, 1, .lcmp, (0, 0, 0), 0)) (by decide +kernel)) rfl hc_z
    replace hc_z := rn_if (am_cur_of (i := (198, 3, .ifCond .gt 7, (90, 0, 0), 0)) (by decide +kernel)) hc_z
    rcases hc_z with ⟨b26_z, hc_z⟩ | ⟨b26_z, hc_z⟩
    · replace b26_z : (0 : Int32).toInt < (lg_cmp a b).toInt := b26_z
      replace b26_z := lgc_gt b26_z
      replace hc_z := rn_lconst (w := 0) (am_cur_of (i := (205, 1, .lconst 0, (0, 0, 0), 0)) (by decide +kernel)) rfl hc_z
      replace hc_z := rn_lret (am_cur_of (i := (206, 1, .lreturn, (0, 0, 0), 0)) (by decide +kernel)) hc_z
      obtain ⟨e27_z, e28_z⟩ := hc_z
      refine ⟨_, e27_z, e28_z, ?_⟩
      rw [v25_z, jZ_7]
      exact okW_2 (by omega)
    · replace b26_z : (lg_cmp a b).toInt ≤ (0 : Int32).toInt := b26_z
      replace b26_z := lgc_le b26_z
      replace hc_z := rn_lconst (w := 1) (am_cur_of (i := (201, 1, .lconst 1, (0, 0, 0), 0)) (by decide +kernel)) rfl hc_z
      replace hc_z := rn_goto (am_cur_of (i := (202, 3, .goto 4, (91, 0, 0), 0)) (by decide +kernel)) hc_z
      replace hc_z := rn_lret (am_cur_of (i := (206, 1, .lreturn, (0, 0, 0), 0)) (by decide +kernel)) hc_z
      obtain ⟨e29_z, e30_z⟩ := hc_z
      refine ⟨_, e29_z, e30_z, ?_⟩
      rw [v25_z, jZ_7]
      exact okW_1 (by omega)
  by_cases v31_z : o = 8
  · replace hc_z := rn_swI (off := 206) (a := 92) (am_cur_of (i := (1, 67, .tableswitch 242 3 15 #[146, 164, 242, 182, 194, 206, 218, 230, 242, 67, 71, 75, 130], (0, 0, 0), 0)) (by decide +kernel)) (by rw [v31_z]; decide) (by rw [v31_z]; decide) (by decide +kernel) hc_z
    replace hc_z := rn_lload_n (am_cur_of (i := (207, 1, .lload_n 1, (0, 0, 0), 0)) (by decide +kernel)) g1_z hc_z
    replace hc_z := rn_lload_n (am_cur_of (i := (208, 1, .lload_n 3, (0, 0, 0), 0)) (by decide +kernel)) g3_z hc_z
    replace hc_z := rn_lcmp (w := lg_cmp a b) (am_cur_of (i := (209, 1, .lcmp, (0, 0, 0), 0)) (by decide +kernel)) rfl hc_z
    replace hc_z := rn_if (am_cur_of (i := (210, 3, .ifCond .ne 7, (98, 0, 0), 0)) (by decide +kernel)) hc_z
    rcases hc_z with ⟨b32_z, hc_z⟩ | ⟨b32_z, hc_z⟩
    · replace b32_z : ¬ (lg_cmp a b) = (0 : Int32) ∧ ¬ (lg_cmp a b).toInt = (0 : Int32).toInt := b32_z
      replace b32_z := lgc_ne b32_z
      replace hc_z := rn_lconst (w := 0) (am_cur_of (i := (217, 1, .lconst 0, (0, 0, 0), 0)) (by decide +kernel)) rfl hc_z
      replace hc_z := rn_lret (am_cur_of (i := (218, 1, .lreturn, (0, 0, 0), 0)) (by decide +kernel)) hc_z
      obtain ⟨e33_z, e34_z⟩ := hc_z
      refine ⟨_, e33_z, e34_z, ?_⟩
      rw [v31_z, jZ_8]
      exact okW_2 (by omega)
    · replace b32_z : (lg_cmp a b) = (0 : Int32) ∧ (lg_cmp a b).toInt = (0 : Int32).toInt := b32_z
      replace b32_z := lgc_eq b32_z
      replace hc_z := rn_lconst (w := 1) (am_cur_of (i := (213, 1, .lconst 1, (0, 0, 0), 0)) (by decide +kernel)) rfl hc_z
      replace hc_z := rn_goto (am_cur_of (i := (214, 3, .goto 4, (99, 0, 0), 0)) (by decide +kernel)) hc_z
      replace hc_z := rn_lret (am_cur_of (i := (218, 1, .lreturn, (0, 0, 0), 0)) (by decide +kernel)) hc_z
      obtain ⟨e35_z, e36_z⟩ := hc_z
      refine ⟨_, e35_z, e36_z, ?_⟩
      rw [v31_z, jZ_8]
      exact okW_1 (by omega)
  by_cases v37_z : o = 9
  · replace hc_z := rn_swI (off := 218) (a := 100) (am_cur_of (i := (1, 67, .tableswitch 242 3 15 #[146, 164, 242, 182, 194, 206, 218, 230, 242, 67, 71, 75, 130], (0, 0, 0), 0)) (by decide +kernel)) (by rw [v37_z]; decide) (by rw [v37_z]; decide) (by decide +kernel) hc_z
    replace hc_z := rn_lload_n (am_cur_of (i := (219, 1, .lload_n 1, (0, 0, 0), 0)) (by decide +kernel)) g1_z hc_z
    replace hc_z := rn_lload_n (am_cur_of (i := (220, 1, .lload_n 3, (0, 0, 0), 0)) (by decide +kernel)) g3_z hc_z
    replace hc_z := rn_lcmp (w := lg_cmp a b) (am_cur_of (i := (221, 1, .lcmp, (0, 0, 0), 0)) (by decide +kernel)) rfl hc_z
    replace hc_z := rn_if (am_cur_of (i := (222, 3, .ifCond .eq 7, (106, 0, 0), 0)) (by decide +kernel)) hc_z
    rcases hc_z with ⟨b38_z, hc_z⟩ | ⟨b38_z, hc_z⟩
    · replace b38_z : (lg_cmp a b) = (0 : Int32) ∧ (lg_cmp a b).toInt = (0 : Int32).toInt := b38_z
      replace b38_z := lgc_eq b38_z
      replace hc_z := rn_lconst (w := 0) (am_cur_of (i := (229, 1, .lconst 0, (0, 0, 0), 0)) (by decide +kernel)) rfl hc_z
      replace hc_z := rn_lret (am_cur_of (i := (230, 1, .lreturn, (0, 0, 0), 0)) (by decide +kernel)) hc_z
      obtain ⟨e39_z, e40_z⟩ := hc_z
      refine ⟨_, e39_z, e40_z, ?_⟩
      rw [v37_z, jZ_9]
      exact okW_2 (by omega)
    · replace b38_z : ¬ (lg_cmp a b) = (0 : Int32) ∧ ¬ (lg_cmp a b).toInt = (0 : Int32).toInt := b38_z
      replace b38_z := lgc_ne b38_z
      replace hc_z := rn_lconst (w := 1) (am_cur_of (i := (225, 1, .lconst 1, (0, 0, 0), 0)) (by decide +kernel)) rfl hc_z
      replace hc_z := rn_goto (am_cur_of (i := (226, 3, .goto 4, (107, 0, 0), 0)) (by decide +kernel)) hc_z
      replace hc_z := rn_lret (am_cur_of (i := (230, 1, .lreturn, (0, 0, 0), 0)) (by decide +kernel)) hc_z
      obtain ⟨e41_z, e42_z⟩ := hc_z
      refine ⟨_, e41_z, e42_z, ?_⟩
      rw [v37_z, jZ_9]
      exact okW_1 (by omega)
  by_cases v43_z : o = 10
  · replace hc_z := rn_swI (off := 230) (a := 108) (am_cur_of (i := (1, 67, .tableswitch 242 3 15 #[146, 164, 242, 182, 194, 206, 218, 230, 242, 67, 71, 75, 130], (0, 0, 0), 0)) (by decide +kernel)) (by rw [v43_z]; decide) (by rw [v43_z]; decide) (by decide +kernel) hc_z
    replace hc_z := rn_lload_n (am_cur_of (i := (231, 1, .lload_n 1, (0, 0, 0), 0)) (by decide +kernel)) g1_z hc_z
    replace hc_z := rn_lload_n (am_cur_of (i := (232, 1, .lload_n 3, (0, 0, 0), 0)) (by decide +kernel)) g3_z hc_z
    replace hc_z := rn_lcmp (w := lg_cmp a b) (am_cur_of (i := (233, 1, .lcmp, (0, 0, 0), 0)) (by decide +kernel)) rfl hc_z
    replace hc_z := rn_if (am_cur_of (i := (234, 3, .ifCond .lt 7, (114, 0, 0), 0)) (by decide +kernel)) hc_z
    rcases hc_z with ⟨b44_z, hc_z⟩ | ⟨b44_z, hc_z⟩
    · replace b44_z : (lg_cmp a b).toInt < (0 : Int32).toInt := b44_z
      replace b44_z := lgc_lt b44_z
      replace hc_z := rn_lconst (w := 0) (am_cur_of (i := (241, 1, .lconst 0, (0, 0, 0), 0)) (by decide +kernel)) rfl hc_z
      replace hc_z := rn_lret (am_cur_of (i := (242, 1, .lreturn, (0, 0, 0), 0)) (by decide +kernel)) hc_z
      obtain ⟨e45_z, e46_z⟩ := hc_z
      refine ⟨_, e45_z, e46_z, ?_⟩
      rw [v43_z, jZ_10]
      exact okW_2 (by omega)
    · replace b44_z : (0 : Int32).toInt ≤ (lg_cmp a b).toInt := b44_z
      replace b44_z := lgc_ge b44_z
      replace hc_z := rn_lconst (w := 1) (am_cur_of (i := (237, 1, .lconst 1, (0, 0, 0), 0)) (by decide +kernel)) rfl hc_z
      replace hc_z := rn_goto (am_cur_of (i := (238, 3, .goto 4, (115, 0, 0), 0)) (by decide +kernel)) hc_z
      replace hc_z := rn_lret (am_cur_of (i := (242, 1, .lreturn, (0, 0, 0), 0)) (by decide +kernel)) hc_z
      obtain ⟨e47_z, e48_z⟩ := hc_z
      refine ⟨_, e47_z, e48_z, ?_⟩
      rw [v43_z, jZ_10]
      exact okW_1 (by omega)
  by_cases v49_z : o = 12
  · replace hc_z := rn_swI (off := 67) (a := 2) (am_cur_of (i := (1, 67, .tableswitch 242 3 15 #[146, 164, 242, 182, 194, 206, 218, 230, 242, 67, 71, 75, 130], (0, 0, 0), 0)) (by decide +kernel)) (by rw [v49_z]; decide) (by rw [v49_z]; decide) (by decide +kernel) hc_z
    replace hc_z := rn_lload_n (am_cur_of (i := (68, 1, .lload_n 1, (0, 0, 0), 0)) (by decide +kernel)) g1_z hc_z
    replace hc_z := rn_lload_n (am_cur_of (i := (69, 1, .lload_n 3, (0, 0, 0), 0)) (by decide +kernel)) g3_z hc_z
    replace hc_z := rn_ladd (w := a + b) (am_cur_of (i := (70, 1, .ladd, (0, 0, 0), 0)) (by decide +kernel)) rfl hc_z
    replace hc_z := rn_lret (am_cur_of (i := (71, 1, .lreturn, (0, 0, 0), 0)) (by decide +kernel)) hc_z
    obtain ⟨e50_z, e51_z⟩ := hc_z
    refine ⟨_, e50_z, e51_z, ?_⟩
    rw [v49_z, jZ_12]
    rw [lw_add A B]
    exact okW_L
  by_cases v52_z : o = 13
  · replace hc_z := rn_swI (off := 71) (a := 6) (am_cur_of (i := (1, 67, .tableswitch 242 3 15 #[146, 164, 242, 182, 194, 206, 218, 230, 242, 67, 71, 75, 130], (0, 0, 0), 0)) (by decide +kernel)) (by rw [v52_z]; decide) (by rw [v52_z]; decide) (by decide +kernel) hc_z
    replace hc_z := rn_lload_n (am_cur_of (i := (72, 1, .lload_n 1, (0, 0, 0), 0)) (by decide +kernel)) g1_z hc_z
    replace hc_z := rn_lload_n (am_cur_of (i := (73, 1, .lload_n 3, (0, 0, 0), 0)) (by decide +kernel)) g3_z hc_z
    replace hc_z := rn_lsub (w := a - b) (am_cur_of (i := (74, 1, .lsub, (0, 0, 0), 0)) (by decide +kernel)) rfl hc_z
    replace hc_z := rn_lret (am_cur_of (i := (75, 1, .lreturn, (0, 0, 0), 0)) (by decide +kernel)) hc_z
    obtain ⟨e53_z, e54_z⟩ := hc_z
    refine ⟨_, e53_z, e54_z, ?_⟩
    rw [v52_z, jZ_13]
    rw [lw_sub A B]
    exact okW_L
  by_cases v55_z : o = 14
  · replace hc_z := rn_swI (off := 75) (a := 10) (am_cur_of (i := (1, 67, .tableswitch 242 3 15 #[146, 164, 242, 182, 194, 206, 218, 230, 242, 67, 71, 75, 130], (0, 0, 0), 0)) (by decide +kernel)) (by rw [v55_z]; decide) (by rw [v55_z]; decide) (by decide +kernel) hc_z
    replace hc_z := rn_lload_n (am_cur_of (i := (76, 1, .lload_n 1, (0, 0, 0), 0)) (by decide +kernel)) g1_z hc_z
    replace hc_z := rn_lconst (w := 0) (am_cur_of (i := (77, 1, .lconst 0, (0, 0, 0), 0)) (by decide +kernel)) rfl hc_z
    replace hc_z := rn_lcmp (w := lg_cmp a 0) (am_cur_of (i := (78, 1, .lcmp, (0, 0, 0), 0)) (by decide +kernel)) rfl hc_z
    replace hc_z := rn_if (am_cur_of (i := (79, 3, .ifCond .ne 9, (16, 0, 0), 0)) (by decide +kernel)) hc_z
    rcases hc_z with ⟨b56_z, hc_z⟩ | ⟨b56_z, hc_z⟩
    · replace b56_z : ¬ (lg_cmp a 0) = (0 : Int32) ∧ ¬ (lg_cmp a 0).toInt = (0 : Int32).toInt := b56_z
      replace b56_z := lgc_ne b56_z
      replace hc_z := rn_ldc2 (w := 1000000000000) (am_cur_of (i := (88, 3, .ldc2_w 48, (0, 0, 933), 1000000000000)) (by decide +kernel)) (by decide) hc_z
      replace hc_z := rn_lload_n (am_cur_of (i := (91, 1, .lload_n 1, (0, 0, 0), 0)) (by decide +kernel)) g1_z hc_z
      replace hc_z := rn_lconst (w := 0) (am_cur_of (i := (92, 1, .lconst 0, (0, 0, 0), 0)) (by decide +kernel)) rfl hc_z
      replace hc_z := rn_lcmp (w := lg_cmp a 0) (am_cur_of (i := (93, 1, .lcmp, (0, 0, 0), 0)) (by decide +kernel)) rfl hc_z
      replace hc_z := rn_if (am_cur_of (i := (94, 3, .ifCond .ge 8, (24, 0, 0), 0)) (by decide +kernel)) hc_z
      rcases hc_z with ⟨b57_z, hc_z⟩ | ⟨b57_z, hc_z⟩
      · replace b57_z : (0 : Int32).toInt ≤ (lg_cmp a 0).toInt := b57_z
        replace b57_z := lgc_ge b57_z
        replace hc_z := rn_lload_n (am_cur_of (i := (102, 1, .lload_n 1, (0, 0, 0), 0)) (by decide +kernel)) g1_z hc_z
        replace hc_z := rn_ldiv (w := 1000000000000 / a) (am_cur_of (i := (103, 1, .ldiv, (0, 0, 0), 0)) (by decide +kernel)) rfl hc_z
        obtain ⟨d58_z, hc_z⟩ := hc_z
        replace hc_z := rn_lstore (am_cur_of (i := (104, 2, .lstore 5, (0, 0, 0), 0)) (by decide +kernel)) hc_z
        obtain ⟨_, s59_z, s60_z, g5_z, hc_z⟩ := hc_z
        replace g0_z := s59_z 0 _ (by decide) (by decide) rfl g0_z
        replace g1_z := s60_z 1 _ (by decide) (by decide) (by decide) g1_z
        replace g3_z := s60_z 3 _ (by decide) (by decide) (by decide) g3_z
        clear s59_z s60_z
        replace hc_z := rn_lload_n (am_cur_of (i := (106, 1, .lload_n 3, (0, 0, 0), 0)) (by decide +kernel)) g3_z hc_z
        replace hc_z := rn_lload (am_cur_of (i := (107, 2, .lload 5, (0, 0, 0), 0)) (by decide +kernel)) g5_z hc_z
        replace hc_z := rn_lcmp (w := lg_cmp b (1000000000000 / a)) (am_cur_of (i := (109, 1, .lcmp, (0, 0, 0), 0)) (by decide +kernel)) rfl hc_z
        replace hc_z := rn_if (am_cur_of (i := (110, 3, .ifCond .gt 11, (36, 0, 0), 0)) (by decide +kernel)) hc_z
        rcases hc_z with ⟨b61_z, hc_z⟩ | ⟨b61_z, hc_z⟩
        · replace b61_z : (0 : Int32).toInt < (lg_cmp b (1000000000000 / a)).toInt := b61_z
          replace b61_z := lgc_gt b61_z
          replace hc_z := rn_ldc2 (w := (-9223372036854775808)) (am_cur_of (i := (121, 3, .ldc2_w 42, (0, 0, 929), (-9223372036854775808))) (by decide +kernel)) (by decide) hc_z
          replace hc_z := rn_goto (am_cur_of (i := (124, 3, .goto 6, (41, 0, 0), 0)) (by decide +kernel)) hc_z
          replace hc_z := rn_lret (am_cur_of (i := (130, 1, .lreturn, (0, 0, 0), 0)) (by decide +kernel)) hc_z
          obtain ⟨e62_z, e63_z⟩ := hc_z
          refine ⟨_, e62_z, e63_z, ?_⟩
          rw [v55_z, jZ_14]
          have cp_z : 0 < a.toInt := by omega
          have em := lw_most cp_z
          have mr := lw_mr cp_z (by unfold lB at A; omega)
          have ex : (-(1000000000000 / a)).toInt = -(1000000000000 / a.toInt) := by
            rw [lw_neg (by rw [em]; exact ⟨by omega, by omega⟩), em]
          have q := tm_out (b := b.toInt) cp_z (by omega)
          exact okW_0 (by omega) (Or.inl (by rw [lw_E]; decide))
        · replace b61_z : (lg_cmp b (1000000000000 / a)).toInt ≤ (0 : Int32).toInt := b61_z
          replace b61_z := lgc_le b61_z
          replace hc_z := rn_lload_n (am_cur_of (i := (113, 1, .lload_n 3, (0, 0, 0), 0)) (by decide +kernel)) g3_z hc_z
          replace hc_z := rn_lload (am_cur_of (i := (114, 2, .lload 5, (0, 0, 0), 0)) (by decide +kernel)) g5_z hc_z
          replace hc_z := rn_lneg (w := -(1000000000000 / a)) (am_cur_of (i := (116, 1, .lneg, (0, 0, 0), 0)) (by decide +kernel)) rfl hc_z
          replace hc_z := rn_lcmp (w := lg_cmp b (-(1000000000000 / a))) (am_cur_of (i := (117, 1, .lcmp, (0, 0, 0), 0)) (by decide +kernel)) rfl hc_z
          replace hc_z := rn_if (am_cur_of (i := (118, 3, .ifCond .ge 9, (38, 0, 0), 0)) (by decide +kernel)) hc_z
          rcases hc_z with ⟨b64_z, hc_z⟩ | ⟨b64_z, hc_z⟩
          · replace b64_z : (0 : Int32).toInt ≤ (lg_cmp b (-(1000000000000 / a))).toInt := b64_z
            replace b64_z := lgc_ge b64_z
            replace hc_z := rn_lload_n (am_cur_of (i := (127, 1, .lload_n 1, (0, 0, 0), 0)) (by decide +kernel)) g1_z hc_z
            replace hc_z := rn_lload_n (am_cur_of (i := (128, 1, .lload_n 3, (0, 0, 0), 0)) (by decide +kernel)) g3_z hc_z
            replace hc_z := rn_lmul (w := a * b) (am_cur_of (i := (129, 1, .lmul, (0, 0, 0), 0)) (by decide +kernel)) rfl hc_z
            replace hc_z := rn_lret (am_cur_of (i := (130, 1, .lreturn, (0, 0, 0), 0)) (by decide +kernel)) hc_z
            obtain ⟨e65_z, e66_z⟩ := hc_z
            refine ⟨_, e65_z, e66_z, ?_⟩
            rw [v55_z, jZ_14]
            have cp_z : 0 < a.toInt := by omega
            have em := lw_most cp_z
            have mr := lw_mr cp_z (by unfold lB at A; omega)
            have ex : (-(1000000000000 / a)).toInt = -(1000000000000 / a.toInt) := by
              rw [lw_neg (by rw [em]; exact ⟨by omega, by omega⟩), em]
            have q := tm_in (b := b.toInt) cp_z (by omega) (by omega)
            rw [lw_mul (by unfold lB; omega)]
            exact okW_L
          · replace b64_z : (lg_cmp b (-(1000000000000 / a))).toInt < (0 : Int32).toInt := b64_z
            replace b64_z := lgc_lt b64_z
            replace hc_z := rn_ldc2 (w := (-9223372036854775808)) (am_cur_of (i := (121, 3, .ldc2_w 42, (0, 0, 929), (-9223372036854775808))) (by decide +kernel)) (by decide) hc_z
            replace hc_z := rn_goto (am_cur_of (i := (124, 3, .goto 6, (41, 0, 0), 0)) (by decide +kernel)) hc_z
            replace hc_z := rn_lret (am_cur_of (i := (130, 1, .lreturn, (0, 0, 0), 0)) (by decide +kernel)) hc_z
            obtain ⟨e67_z, e68_z⟩ := hc_z
            refine ⟨_, e67_z, e68_z, ?_⟩
            rw [v55_z, jZ_14]
            have cp_z : 0 < a.toInt := by omega
            have em := lw_most cp_z
            have mr := lw_mr cp_z (by unfold lB at A; omega)
            have ex : (-(1000000000000 / a)).toInt = -(1000000000000 / a.toInt) := by
              rw [lw_neg (by rw [em]; exact ⟨by omega, by omega⟩), em]
            have q := tm_out (b := b.toInt) cp_z (by omega)
            exact okW_0 (by omega) (Or.inl (by rw [lw_E]; decide))
      · replace b57_z : (lg_cmp a 0).toInt < (0 : Int32).toInt := b57_z
        replace b57_z := lgc_lt b57_z
        replace hc_z := rn_lload_n (am_cur_of (i := (97, 1, .lload_n 1, (0, 0, 0), 0)) (by decide +kernel)) g1_z hc_z
        replace hc_z := rn_lneg (w := -a) (am_cur_of (i := (98, 1, .lneg, (0, 0, 0), 0)) (by decide +kernel)) rfl hc_z
        replace hc_z := rn_goto (am_cur_of (i := (99, 3, .goto 4, (25, 0, 0), 0)) (by decide +kernel)) hc_z
        replace hc_z := rn_ldiv (w := 1000000000000 / (-a)) (am_cur_of (i := (103, 1, .ldiv, (0, 0, 0), 0)) (by decide +kernel)) rfl hc_z
        obtain ⟨d69_z, hc_z⟩ := hc_z
        replace hc_z := rn_lstore (am_cur_of (i := (104, 2, .lstore 5, (0, 0, 0), 0)) (by decide +kernel)) hc_z
        obtain ⟨_, s70_z, s71_z, g5_z, hc_z⟩ := hc_z
        replace g0_z := s70_z 0 _ (by decide) (by decide) rfl g0_z
        replace g1_z := s71_z 1 _ (by decide) (by decide) (by decide) g1_z
        replace g3_z := s71_z 3 _ (by decide) (by decide) (by decide) g3_z
        clear s70_z s71_z
        replace hc_z := rn_lload_n (am_cur_of (i := (106, 1, .lload_n 3, (0, 0, 0), 0)) (by decide +kernel)) g3_z hc_z
        replace hc_z := rn_lload (am_cur_of (i := (107, 2, .lload 5, (0, 0, 0), 0)) (by decide +kernel)) g5_z hc_z
        replace hc_z := rn_lcmp (w := lg_cmp b (1000000000000 / (-a))) (am_cur_of (i := (109, 1, .lcmp, (0, 0, 0), 0)) (by decide +kernel)) rfl hc_z
        replace hc_z := rn_if (am_cur_of (i := (110, 3, .ifCond .gt 11, (36, 0, 0), 0)) (by decide +kernel)) hc_z
        rcases hc_z with ⟨b72_z, hc_z⟩ | ⟨b72_z, hc_z⟩
        · replace b72_z : (0 : Int32).toInt < (lg_cmp b (1000000000000 / (-a))).toInt := b72_z
          replace b72_z := lgc_gt b72_z
          replace hc_z := rn_ldc2 (w := (-9223372036854775808)) (am_cur_of (i := (121, 3, .ldc2_w 42, (0, 0, 929), (-9223372036854775808))) (by decide +kernel)) (by decide) hc_z
          replace hc_z := rn_goto (am_cur_of (i := (124, 3, .goto 6, (41, 0, 0), 0)) (by decide +kernel)) hc_z
          replace hc_z := rn_lret (am_cur_of (i := (130, 1, .lreturn, (0, 0, 0), 0)) (by decide +kernel)) hc_z
          obtain ⟨e73_z, e74_z⟩ := hc_z
          refine ⟨_, e73_z, e74_z, ?_⟩
          rw [v55_z, jZ_14]
          have cp_z : 0 < (-a).toInt := by rw [lw_neg A]; omega
          have em := lw_most cp_z
          have en := lw_neg A
          have eb : (-a).toInt * b.toInt = -(a.toInt * b.toInt) := by rw [en, Int.neg_mul]
          have mr := lw_mr cp_z (by rw [en]; unfold lB at A; omega)
          have ex : (-(1000000000000 / (-a))).toInt = -(1000000000000 / (-a).toInt) := by
            rw [lw_neg (by rw [em]; exact ⟨by omega, by omega⟩), em]
          have q := tm_out (b := b.toInt) cp_z (by omega)
          exact okW_0 (by omega) (Or.inl (by rw [lw_E]; decide))
        · replace b72_z : (lg_cmp b (1000000000000 / (-a))).toInt ≤ (0 : Int32).toInt := b72_z
          replace b72_z := lgc_le b72_z
          replace hc_z := rn_lload_n (am_cur_of (i := (113, 1, .lload_n 3, (0, 0, 0), 0)) (by decide +kernel)) g3_z hc_z
          replace hc_z := rn_lload (am_cur_of (i := (114, 2, .lload 5, (0, 0, 0), 0)) (by decide +kernel)) g5_z hc_z
          replace hc_z := rn_lneg (w := -(1000000000000 / (-a))) (am_cur_of (i := (116, 1, .lneg, (0, 0, 0), 0)) (by decide +kernel)) rfl hc_z
          replace hc_z := rn_lcmp (w := lg_cmp b (-(1000000000000 / (-a)))) (am_cur_of (i := (117, 1, .lcmp, (0, 0, 0), 0)) (by decide +kernel)) rfl hc_z
          replace hc_z := rn_if (am_cur_of (i := (118, 3, .ifCond .ge 9, (38, 0, 0), 0)) (by decide +kernel)) hc_z
          rcases hc_z with ⟨b75_z, hc_z⟩ | ⟨b75_z, hc_z⟩
          · replace b75_z : (0 : Int32).toInt ≤ (lg_cmp b (-(1000000000000 / (-a)))).toInt := b75_z
            replace b75_z := lgc_ge b75_z
            replace hc_z := rn_lload_n (am_cur_of (i := (127, 1, .lload_n 1, (0, 0, 0), 0)) (by decide +kernel)) g1_z hc_z
            replace hc_z := rn_lload_n (am_cur_of (i := (128, 1, .lload_n 3, (0, 0, 0), 0)) (by decide +kernel)) g3_z hc_z
            replace hc_z := rn_lmul (w := a * b) (am_cur_of (i := (129, 1, .lmul, (0, 0, 0), 0)) (by decide +kernel)) rfl hc_z
            replace hc_z := rn_lret (am_cur_of (i := (130, 1, .lreturn, (0, 0, 0), 0)) (by decide +kernel)) hc_z
            obtain ⟨e76_z, e77_z⟩ := hc_z
            refine ⟨_, e76_z, e77_z, ?_⟩
            rw [v55_z, jZ_14]
            have cp_z : 0 < (-a).toInt := by rw [lw_neg A]; omega
            have em := lw_most cp_z
            have en := lw_neg A
            have eb : (-a).toInt * b.toInt = -(a.toInt * b.toInt) := by rw [en, Int.neg_mul]
            have mr := lw_mr cp_z (by rw [en]; unfold lB at A; omega)
            have ex : (-(1000000000000 / (-a))).toInt = -(1000000000000 / (-a).toInt) := by
              rw [lw_neg (by rw [em]; exact ⟨by omega, by omega⟩), em]
            have q := tm_in (b := b.toInt) cp_z (by omega) (by omega)
            rw [lw_mul (by unfold lB; omega)]
            exact okW_L
          · replace b75_z : (lg_cmp b (-(1000000000000 / (-a)))).toInt < (0 : Int32).toInt := b75_z
            replace b75_z := lgc_lt b75_z
            replace hc_z := rn_ldc2 (w := (-9223372036854775808)) (am_cur_of (i := (121, 3, .ldc2_w 42, (0, 0, 929), (-9223372036854775808))) (by decide +kernel)) (by decide) hc_z
            replace hc_z := rn_goto (am_cur_of (i := (124, 3, .goto 6, (41, 0, 0), 0)) (by decide +kernel)) hc_z
            replace hc_z := rn_lret (am_cur_of (i := (130, 1, .lreturn, (0, 0, 0), 0)) (by decide +kernel)) hc_z
            obtain ⟨e78_z, e79_z⟩ := hc_z
            refine ⟨_, e78_z, e79_z, ?_⟩
            rw [v55_z, jZ_14]
            have cp_z : 0 < (-a).toInt := by rw [lw_neg A]; omega
            have em := lw_most cp_z
            have en := lw_neg A
            have eb : (-a).toInt * b.toInt = -(a.toInt * b.toInt) := by rw [en, Int.neg_mul]
            have mr := lw_mr cp_z (by rw [en]; unfold lB at A; omega)
            have ex : (-(1000000000000 / (-a))).toInt = -(1000000000000 / (-a).toInt) := by
              rw [lw_neg (by rw [em]; exact ⟨by omega, by omega⟩), em]
            have q := tm_out (b := b.toInt) cp_z (by omega)
            exact okW_0 (by omega) (Or.inl (by rw [lw_E]; decide))
    · replace b56_z : (lg_cmp a 0) = (0 : Int32) ∧ (lg_cmp a 0).toInt = (0 : Int32).toInt := b56_z
      replace b56_z := lgc_eq b56_z
      replace hc_z := rn_ldc2 (w := 1000000000000) (am_cur_of (i := (82, 3, .ldc2_w 48, (0, 0, 933), 1000000000000)) (by decide +kernel)) (by decide) hc_z
      replace hc_z := rn_goto (am_cur_of (i := (85, 3, .goto 19, (26, 0, 0), 0)) (by decide +kernel)) hc_z
      replace hc_z := rn_lstore (am_cur_of (i := (104, 2, .lstore 5, (0, 0, 0), 0)) (by decide +kernel)) hc_z
      obtain ⟨_, s80_z, s81_z, g5_z, hc_z⟩ := hc_z
      replace g0_z := s80_z 0 _ (by decide) (by decide) rfl g0_z
      replace g1_z := s81_z 1 _ (by decide) (by decide) (by decide) g1_z
      replace g3_z := s81_z 3 _ (by decide) (by decide) (by decide) g3_z
      clear s80_z s81_z
      replace hc_z := rn_lload_n (am_cur_of (i := (106, 1, .lload_n 3, (0, 0, 0), 0)) (by decide +kernel)) g3_z hc_z
      replace hc_z := rn_lload (am_cur_of (i := (107, 2, .lload 5, (0, 0, 0), 0)) (by decide +kernel)) g5_z hc_z
      replace hc_z := rn_lcmp (w := lg_cmp b 1000000000000) (am_cur_of (i := (109, 1, .lcmp, (0, 0, 0), 0)) (by decide +kernel)) rfl hc_z
      replace hc_z := rn_if (am_cur_of (i := (110, 3, .ifCond .gt 11, (36, 0, 0), 0)) (by decide +kernel)) hc_z
      rcases hc_z with ⟨b82_z, hc_z⟩ | ⟨b82_z, hc_z⟩
      · replace b82_z : (0 : Int32).toInt < (lg_cmp b 1000000000000).toInt := b82_z
        replace b82_z := lgc_gt b82_z
        replace hc_z := rn_ldc2 (w := (-9223372036854775808)) (am_cur_of (i := (121, 3, .ldc2_w 42, (0, 0, 929), (-9223372036854775808))) (by decide +kernel)) (by decide) hc_z
        replace hc_z := rn_goto (am_cur_of (i := (124, 3, .goto 6, (41, 0, 0), 0)) (by decide +kernel)) hc_z
        replace hc_z := rn_lret (am_cur_of (i := (130, 1, .lreturn, (0, 0, 0), 0)) (by decide +kernel)) hc_z
        obtain ⟨e83_z, e84_z⟩ := hc_z
        refine ⟨_, e83_z, e84_z, ?_⟩
        rw [v55_z, jZ_14]
        exfalso
        unfold lB at B
        omega
      · replace b82_z : (lg_cmp b 1000000000000).toInt ≤ (0 : Int32).toInt := b82_z
        replace b82_z := lgc_le b82_z
        replace hc_z := rn_lload_n (am_cur_of (i := (113, 1, .lload_n 3, (0, 0, 0), 0)) (by decide +kernel)) g3_z hc_z
        replace hc_z := rn_lload (am_cur_of (i := (114, 2, .lload 5, (0, 0, 0), 0)) (by decide +kernel)) g5_z hc_z
        replace hc_z := rn_lneg (w := -1000000000000) (am_cur_of (i := (116, 1, .lneg, (0, 0, 0), 0)) (by decide +kernel)) rfl hc_z
        replace hc_z := rn_lcmp (w := lg_cmp b (-1000000000000)) (am_cur_of (i := (117, 1, .lcmp, (0, 0, 0), 0)) (by decide +kernel)) rfl hc_z
        replace hc_z := rn_if (am_cur_of (i := (118, 3, .ifCond .ge 9, (38, 0, 0), 0)) (by decide +kernel)) hc_z
        rcases hc_z with ⟨b85_z, hc_z⟩ | ⟨b85_z, hc_z⟩
        · replace b85_z : (0 : Int32).toInt ≤ (lg_cmp b (-1000000000000)).toInt := b85_z
          replace b85_z := lgc_ge b85_z
          replace hc_z := rn_lload_n (am_cur_of (i := (127, 1, .lload_n 1, (0, 0, 0), 0)) (by decide +kernel)) g1_z hc_z
          replace hc_z := rn_lload_n (am_cur_of (i := (128, 1, .lload_n 3, (0, 0, 0), 0)) (by decide +kernel)) g3_z hc_z
          replace hc_z := rn_lmul (w := a * b) (am_cur_of (i := (129, 1, .lmul, (0, 0, 0), 0)) (by decide +kernel)) rfl hc_z
          replace hc_z := rn_lret (am_cur_of (i := (130, 1, .lreturn, (0, 0, 0), 0)) (by decide +kernel)) hc_z
          obtain ⟨e86_z, e87_z⟩ := hc_z
          refine ⟨_, e86_z, e87_z, ?_⟩
          rw [v55_z, jZ_14]
          have e0_z : a.toInt * b.toInt = 0 := by
            rw [show a.toInt = 0 by omega, Int.zero_mul]
          rw [lw_mul (by rw [e0_z]; exact ⟨by decide, by decide⟩)]
          exact okW_L
        · replace b85_z : (lg_cmp b (-1000000000000)).toInt < (0 : Int32).toInt := b85_z
          replace b85_z := lgc_lt b85_z
          replace hc_z := rn_ldc2 (w := (-9223372036854775808)) (am_cur_of (i := (121, 3, .ldc2_w 42, (0, 0, 929), (-9223372036854775808))) (by decide +kernel)) (by decide) hc_z
          replace hc_z := rn_goto (am_cur_of (i := (124, 3, .goto 6, (41, 0, 0), 0)) (by decide +kernel)) hc_z
          replace hc_z := rn_lret (am_cur_of (i := (130, 1, .lreturn, (0, 0, 0), 0)) (by decide +kernel)) hc_z
          obtain ⟨e88_z, e89_z⟩ := hc_z
          refine ⟨_, e88_z, e89_z, ?_⟩
          rw [v55_z, jZ_14]
          exfalso
          unfold lB at B
          omega
  by_cases v90_z : o = 15
  · replace hc_z := rn_swI (off := 130) (a := 42) (am_cur_of (i := (1, 67, .tableswitch 242 3 15 #[146, 164, 242, 182, 194, 206, 218, 230, 242, 67, 71, 75, 130], (0, 0, 0), 0)) (by decide +kernel)) (by rw [v90_z]; decide) (by rw [v90_z]; decide) (by decide +kernel) hc_z
    replace hc_z := rn_lload_n (am_cur_of (i := (131, 1, .lload_n 3, (0, 0, 0), 0)) (by decide +kernel)) g3_z hc_z
    replace hc_z := rn_lconst (w := 0) (am_cur_of (i := (132, 1, .lconst 0, (0, 0, 0), 0)) (by decide +kernel)) rfl hc_z
    replace hc_z := rn_lcmp (w := lg_cmp b 0) (am_cur_of (i := (133, 1, .lcmp, (0, 0, 0), 0)) (by decide +kernel)) rfl hc_z
    replace hc_z := rn_if (am_cur_of (i := (134, 3, .ifCond .ne 9, (48, 0, 0), 0)) (by decide +kernel)) hc_z
    rcases hc_z with ⟨b91_z, hc_z⟩ | ⟨b91_z, hc_z⟩
    · replace b91_z : ¬ (lg_cmp b 0) = (0 : Int32) ∧ ¬ (lg_cmp b 0).toInt = (0 : Int32).toInt := b91_z
      replace b91_z := lgc_ne b91_z
      replace hc_z := rn_lload_n (am_cur_of (i := (143, 1, .lload_n 1, (0, 0, 0), 0)) (by decide +kernel)) g1_z hc_z
      replace hc_z := rn_lload_n (am_cur_of (i := (144, 1, .lload_n 3, (0, 0, 0), 0)) (by decide +kernel)) g3_z hc_z
      replace hc_z := rn_ldiv (w := a / b) (am_cur_of (i := (145, 1, .ldiv, (0, 0, 0), 0)) (by decide +kernel)) rfl hc_z
      obtain ⟨d92_z, hc_z⟩ := hc_z
      replace hc_z := rn_lret (am_cur_of (i := (146, 1, .lreturn, (0, 0, 0), 0)) (by decide +kernel)) hc_z
      obtain ⟨e93_z, e94_z⟩ := hc_z
      refine ⟨_, e93_z, e94_z, ?_⟩
      rw [v90_z, jZ_15]
      rw [if_neg (by omega), lw_div A]
      exact (rfl : a.toInt.tdiv b.toInt = _)
    · replace b91_z : (lg_cmp b 0) = (0 : Int32) ∧ (lg_cmp b 0).toInt = (0 : Int32).toInt := b91_z
      replace b91_z := lgc_eq b91_z
      replace hc_z := rn_ldc2 (w := (-9223372036854775808)) (am_cur_of (i := (137, 3, .ldc2_w 42, (0, 0, 929), (-9223372036854775808))) (by decide +kernel)) (by decide) hc_z
      replace hc_z := rn_goto (am_cur_of (i := (140, 3, .goto 6, (51, 0, 0), 0)) (by decide +kernel)) hc_z
      replace hc_z := rn_lret (am_cur_of (i := (146, 1, .lreturn, (0, 0, 0), 0)) (by decide +kernel)) hc_z
      obtain ⟨e95_z, e96_z⟩ := hc_z
      refine ⟨_, e95_z, e96_z, ?_⟩
      rw [v90_z, jZ_15]
      rw [if_pos (by omega)]
      exact Or.inl (by rw [lw_E]; decide)
  have hsw : ∀ m, m < 13 → (m = 0 ∨ m = 1 ∨ m = 3 ∨ m = 4 ∨ m = 5 ∨ m = 6 ∨ m = 7 ∨ m = 9 ∨ m = 10 ∨ m = 11 ∨ m = 12 ∨ (#[146, 164, 242, 182, 194, 206, 218, 230, 242, 67, 71, 75, 130] : Array Int)[m]? = some 242) := by decide
  have wv1_z : ¬ o.toInt = 3 := fun q => v1_z (Int32.toInt_inj.mp (q.trans (by decide)))
  have wv10_z : ¬ o.toInt = 4 := fun q => v10_z (Int32.toInt_inj.mp (q.trans (by decide)))
  have wv19_z : ¬ o.toInt = 6 := fun q => v19_z (Int32.toInt_inj.mp (q.trans (by decide)))
  have wv25_z : ¬ o.toInt = 7 := fun q => v25_z (Int32.toInt_inj.mp (q.trans (by decide)))
  have wv31_z : ¬ o.toInt = 8 := fun q => v31_z (Int32.toInt_inj.mp (q.trans (by decide)))
  have wv37_z : ¬ o.toInt = 9 := fun q => v37_z (Int32.toInt_inj.mp (q.trans (by decide)))
  have wv43_z : ¬ o.toInt = 10 := fun q => v43_z (Int32.toInt_inj.mp (q.trans (by decide)))
  have wv49_z : ¬ o.toInt = 12 := fun q => v49_z (Int32.toInt_inj.mp (q.trans (by decide)))
  have wv52_z : ¬ o.toInt = 13 := fun q => v52_z (Int32.toInt_inj.mp (q.trans (by decide)))
  have wv55_z : ¬ o.toInt = 14 := fun q => v55_z (Int32.toInt_inj.mp (q.trans (by decide)))
  have wv90_z : ¬ o.toInt = 15 := fun q => v90_z (Int32.toInt_inj.mp (q.trans (by decide)))
  have hx_z : o.toInt < 3 ∨ 15 < o.toInt ∨ (#[146, 164, 242, 182, 194, 206, 218, 230, 242, 67, 71, 75, 130] : Array Int)[(o.toInt - 3).toNat]? = some 242 := by
    by_cases q1_z : o.toInt < 3
    · exact Or.inl q1_z
    · by_cases q2_z : 15 < o.toInt
      · exact Or.inr (Or.inl q2_z)
      · refine Or.inr (Or.inr ?_)
        rcases hsw (o.toInt - 3).toNat (by omega) with qq | qq | qq | qq | qq | qq | qq | qq | qq | qq | qq | qq <;> first | exact qq | (exfalso; omega)
  replace hc_z := rn_swX (a := 116) (am_cur_of (i := (1, 67, .tableswitch 242 3 15 #[146, 164, 242, 182, 194, 206, 218, 230, 242, 67, 71, 75, 130], (0, 0, 0), 0)) (by decide +kernel)) hx_z (by decide +kernel) hc_z
  replace hc_z := rn_lload_n (am_cur_of (i := (243, 1, .lload_n 1, (0, 0, 0), 0)) (by decide +kernel)) g1_z hc_z
  replace hc_z := rn_lload_n (am_cur_of (i := (244, 1, .lload_n 3, (0, 0, 0), 0)) (by decide +kernel)) g3_z hc_z
  replace hc_z := rn_lcmp (w := lg_cmp a b) (am_cur_of (i := (245, 1, .lcmp, (0, 0, 0), 0)) (by decide +kernel)) rfl hc_z
  replace hc_z := rn_if (am_cur_of (i := (246, 3, .ifCond .le 7, (122, 0, 0), 0)) (by decide +kernel)) hc_z
  rcases hc_z with ⟨b97_z, hc_z⟩ | ⟨b97_z, hc_z⟩
  · replace b97_z : (lg_cmp a b).toInt ≤ (0 : Int32).toInt := b97_z
    replace b97_z := lgc_le b97_z
    replace hc_z := rn_lconst (w := 0) (am_cur_of (i := (253, 1, .lconst 0, (0, 0, 0), 0)) (by decide +kernel)) rfl hc_z
    replace hc_z := rn_lret (am_cur_of (i := (254, 1, .lreturn, (0, 0, 0), 0)) (by decide +kernel)) hc_z
    obtain ⟨e98_z, e99_z⟩ := hc_z
    refine ⟨_, e98_z, e99_z, ?_⟩
    rw [jZ_z v1_z v10_z v19_z v25_z v31_z v37_z v43_z v49_z v52_z v55_z v90_z]
    exact okW_2 (by omega)
  · replace b97_z : (0 : Int32).toInt < (lg_cmp a b).toInt := b97_z
    replace b97_z := lgc_gt b97_z
    replace hc_z := rn_lconst (w := 1) (am_cur_of (i := (249, 1, .lconst 1, (0, 0, 0), 0)) (by decide +kernel)) rfl hc_z
    replace hc_z := rn_goto (am_cur_of (i := (250, 3, .goto 4, (123, 0, 0), 0)) (by decide +kernel)) hc_z
    replace hc_z := rn_lret (am_cur_of (i := (254, 1, .lreturn, (0, 0, 0), 0)) (by decide +kernel)) hc_z
    obtain ⟨e100_z, e101_z⟩ := hc_z
    refine ⟨_, e100_z, e101_z, ?_⟩
    rw [jZ_z v1_z v10_z v19_z v25_z v31_z v37_z v43_z v49_z v52_z v55_z v90_z]
    exact okW_1 (by omega)
