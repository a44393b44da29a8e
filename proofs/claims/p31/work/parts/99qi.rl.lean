/-! ===== THE TOKENS OF BOTH SIDES ARE ALIKE (wip/r/gen99qi.py) ===== -/
theorem rt_so {a b : Int32} : (a ||| b) <<< (5 &&& 31 : Int32) = (a <<< (5 &&& 31 : Int32)) ||| (b <<< (5 &&& 31 : Int32)) := by
  apply Int32.toBitVec_inj.mp
  show (a.toBitVec ||| b.toBitVec) <<< ((5 &&& 31 : Int32).toBitVec.smod 32) = (a.toBitVec <<< ((5 &&& 31 : Int32).toBitVec.smod 32)) ||| (b.toBitVec <<< ((5 &&& 31 : Int32).toBitVec.smod 32))
  rw [show (5 &&& 31 : Int32).toBitVec.smod 32 = 5#32 by decide, BitVec.shiftLeft_eq', BitVec.shiftLeft_eq', BitVec.shiftLeft_eq']
  exact BitVec.shiftLeft_or_distrib ..
theorem rt_ss {a : Int32} {m k : Int32} {m' k' : BitVec 32} (hm_z : m.toBitVec.smod 32 = m') (hk_z : k.toBitVec.smod 32 = k') (e : k'.toNat = m'.toNat + 5) : (a <<< m) <<< (5 &&& 31 : Int32) = a <<< k := by
  apply Int32.toBitVec_inj.mp
  show (a.toBitVec <<< (m.toBitVec.smod 32)) <<< ((5 &&& 31 : Int32).toBitVec.smod 32) = a.toBitVec <<< (k.toBitVec.smod 32)
  rw [hm_z, hk_z, show (5 &&& 31 : Int32).toBitVec.smod 32 = 5#32 by decide, BitVec.shiftLeft_eq', BitVec.shiftLeft_eq', BitVec.shiftLeft_eq', e, BitVec.shiftLeft_add]
  rfl
theorem rt_s0 {a : Int32} : a <<< (Int32.ofNat 0 &&& 31) = a := by
  apply Int32.toBitVec_inj.mp
  show a.toBitVec <<< ((Int32.ofNat 0 &&& 31 : Int32).toBitVec.smod 32) = a.toBitVec
  rw [show (Int32.ofNat 0 &&& 31 : Int32).toBitVec.smod 32 = 0#32 by decide, BitVec.shiftLeft_eq']
  exact BitVec.shiftLeft_zero ..
theorem rt_z5 : (0 : Int32) <<< (5 &&& 31 : Int32) = 0 := by decide
theorem rt_0o {a : Int32} : 0 ||| a = a := by
  apply Int32.toBitVec_inj.mp
  exact BitVec.zero_or
theorem rt_o0 {a : Int32} : a ||| 0 = a := by
  apply Int32.toBitVec_inj.mp
  exact BitVec.or_zero
theorem rt_96 {a : Int32} : a - 97 + 1 = a - 96 := by
  apply Int32.toBitVec_inj.mp
  show a.toBitVec - 97#32 + 1#32 = a.toBitVec - 96#32
  rw [BitVec.sub_eq_add_neg, BitVec.sub_eq_add_neg, BitVec.add_assoc]
  rfl
theorem rt_lm {T : Nat → Int32} {p L : Nat} (hL : L ≤ 6) : rt_lt T p L = rt_mp T p (p + L) 6 := by
  have s0_z : ∀ a : Int32, a <<< (Int32.ofNat 0 &&& 31) = a := fun a => rt_s0
  have s2_z : ∀ a : Int32, (a <<< (5 &&& 31 : Int32)) <<< (5 &&& 31 : Int32) = a <<< (Int32.ofNat 10 &&& 31) := fun a => rt_ss (m' := 5#32) (k' := 10#32) (by decide) (by decide) (by decide)
  have s3_z : ∀ a : Int32, (a <<< (Int32.ofNat 10 &&& 31)) <<< (5 &&& 31 : Int32) = a <<< (Int32.ofNat 15 &&& 31) := fun a => rt_ss (m' := 10#32) (k' := 15#32) (by decide) (by decide) (by decide)
  have s4_z : ∀ a : Int32, (a <<< (Int32.ofNat 15 &&& 31)) <<< (5 &&& 31 : Int32) = a <<< (Int32.ofNat 20 &&& 31) := fun a => rt_ss (m' := 15#32) (k' := 20#32) (by decide) (by decide) (by decide)
  have s5_z : ∀ a : Int32, (a <<< (Int32.ofNat 20 &&& 31)) <<< (5 &&& 31 : Int32) = a <<< (Int32.ofNat 25 &&& 31) := fun a => rt_ss (m' := 20#32) (k' := 25#32) (by decide) (by decide) (by decide)
  match L, hL with
  | 0, _ =>
    show rt_lt T p 0 = rt_mp T p (p + 0) 6
    have c : ∀ j, (if p + j < p + 0 then T (p + j) - 96 else 0) = (if j < 0 then T (p + j) - 96 else 0) := fun j => by
      by_cases q : j < 0
      · rw [if_pos q, if_pos (by omega)]
      · rw [if_neg q, if_neg (by omega)]
    simp only [rt_lt, rt_mp, c, rt_96]
    simp only [show (0 : Nat) ≤ 5 by decide, show (1 : Nat) ≤ 5 by decide, show (2 : Nat) ≤ 5 by decide, show (3 : Nat) ≤ 5 by decide, show (4 : Nat) ≤ 5 by decide, show (5 : Nat) ≤ 5 by decide, show ((0 : Nat) < 0) = False by decide, show ((1 : Nat) < 0) = False by decide, show ((2 : Nat) < 0) = False by decide, show ((3 : Nat) < 0) = False by decide, show ((4 : Nat) < 0) = False by decide, show ((5 : Nat) < 0) = False by decide, if_true, if_false, rt_z5, rt_0o, rt_o0, rt_so]
    try simp only [s2_z, s3_z, s4_z, s5_z, s0_z, Nat.reduceAdd, Nat.reduceSub, Nat.reduceMul, rt_o0]
    try rfl
  | 1, _ =>
    show rt_lt T p 1 = rt_mp T p (p + 1) 6
    have c : ∀ j, (if p + j < p + 1 then T (p + j) - 96 else 0) = (if j < 1 then T (p + j) - 96 else 0) := fun j => by
      by_cases q : j < 1
      · rw [if_pos q, if_pos (by omega)]
      · rw [if_neg q, if_neg (by omega)]
    simp only [rt_lt, rt_mp, c, rt_96]
    simp only [show (0 : Nat) ≤ 5 by decide, show (1 : Nat) ≤ 5 by decide, show (2 : Nat) ≤ 5 by decide, show (3 : Nat) ≤ 5 by decide, show (4 : Nat) ≤ 5 by decide, show (5 : Nat) ≤ 5 by decide, show ((0 : Nat) < 1) = True by decide, show ((1 : Nat) < 1) = False by decide, show ((2 : Nat) < 1) = False by decide, show ((3 : Nat) < 1) = False by decide, show ((4 : Nat) < 1) = False by decide, show ((5 : Nat) < 1) = False by decide, if_true, if_false, rt_z5, rt_0o, rt_o0, rt_so]
    try simp only [s2_z, s3_z, s4_z, s5_z, s0_z, Nat.reduceAdd, Nat.reduceSub, Nat.reduceMul, rt_o0]
    try rfl
  | 2, _ =>
    show rt_lt T p 2 = rt_mp T p (p + 2) 6
    have c : ∀ j, (if p + j < p + 2 then T (p + j) - 96 else 0) = (if j < 2 then T (p + j) - 96 else 0) := fun j => by
      by_cases q : j < 2
      · rw [if_pos q, if_pos (by omega)]
      · rw [if_neg q, if_neg (by omega)]
    simp only [rt_lt, rt_mp, c, rt_96]
    simp only [show (0 : Nat) ≤ 5 by decide, show (1 : Nat) ≤ 5 by decide, show (2 : Nat) ≤ 5 by decide, show (3 : Nat) ≤ 5 by decide, show (4 : Nat) ≤ 5 by decide, show (5 : Nat) ≤ 5 by decide, show ((0 : Nat) < 2) = True by decide, show ((1 : Nat) < 2) = True by decide, show ((2 : Nat) < 2) = False by decide, show ((3 : Nat) < 2) = False by decide, show ((4 : Nat) < 2) = False by decide, show ((5 : Nat) < 2) = False by decide, if_true, if_false, rt_z5, rt_0o, rt_o0, rt_so]
    try simp only [s2_z, s3_z, s4_z, s5_z, s0_z, Nat.reduceAdd, Nat.reduceSub, Nat.reduceMul, rt_o0]
    try rfl
  | 3, _ =>
    show rt_lt T p 3 = rt_mp T p (p + 3) 6
    have c : ∀ j, (if p + j < p + 3 then T (p + j) - 96 else 0) = (if j < 3 then T (p + j) - 96 else 0) := fun j => by
      by_cases q : j < 3
      · rw [if_pos q, if_pos (by omega)]
      · rw [if_neg q, if_neg (by omega)]
    simp only [rt_lt, rt_mp, c, rt_96]
    simp only [show (0 : Nat) ≤ 5 by decide, show (1 : Nat) ≤ 5 by decide, show (2 : Nat) ≤ 5 by decide, show (3 : Nat) ≤ 5 by decide, show (4 : Nat) ≤ 5 by decide, show (5 : Nat) ≤ 5 by decide, show ((0 : Nat) < 3) = True by decide, show ((1 : Nat) < 3) = True by decide, show ((2 : Nat) < 3) = True by decide, show ((3 : Nat) < 3) = False by decide, show ((4 : Nat) < 3) = False by decide, show ((5 : Nat) < 3) = False by decide, if_true, if_false, rt_z5, rt_0o, rt_o0, rt_so]
    try simp only [s2_z, s3_z, s4_z, s5_z, s0_z, Nat.reduceAdd, Nat.reduceSub, Nat.reduceMul, rt_o0]
    try rfl
  | 4, _ =>
    show rt_lt T p 4 = rt_mp T p (p + 4) 6
    have c : ∀ j, (if p + j < p + 4 then T (p + j) - 96 else 0) = (if j < 4 then T (p + j) - 96 else 0) := fun j => by
      by_cases q : j < 4
      · rw [if_pos q, if_pos (by omega)]
      · rw [if_neg q, if_neg (by omega)]
    simp only [rt_lt, rt_mp, c, rt_96]
    simp only [show (0 : Nat) ≤ 5 by decide, show (1 : Nat) ≤ 5 by decide, show (2 : Nat) ≤ 5 by decide, show (3 : Nat) ≤ 5 by decide, show (4 : Nat) ≤ 5 by decide, show (5 : Nat) ≤ 5 by decide, show ((0 : Nat) < 4) = True by decide, show ((1 : Nat) < 4) = True by decide, show ((2 : Nat) < 4) = True by decide, show ((3 : Nat) < 4) = True by decide, show ((4 : Nat) < 4) = False by decide, show ((5 : Nat) < 4) = False by decide, if_true, if_false, rt_z5, rt_0o, rt_o0, rt_so]
    try simp only [s2_z, s3_z, s4_z, s5_z, s0_z, Nat.reduceAdd, Nat.reduceSub, Nat.reduceMul, rt_o0]
    try rfl
  | 5, _ =>
    show rt_lt T p 5 = rt_mp T p (p + 5) 6
    have c : ∀ j, (if p + j < p + 5 then T (p + j) - 96 else 0) = (if j < 5 then T (p + j) - 96 else 0) := fun j => by
      by_cases q : j < 5
      · rw [if_pos q, if_pos (by omega)]
      · rw [if_neg q, if_neg (by omega)]
    simp only [rt_lt, rt_mp, c, rt_96]
    simp only [show (0 : Nat) ≤ 5 by decide, show (1 : Nat) ≤ 5 by decide, show (2 : Nat) ≤ 5 by decide, show (3 : Nat) ≤ 5 by decide, show (4 : Nat) ≤ 5 by decide, show (5 : Nat) ≤ 5 by decide, show ((0 : Nat) < 5) = True by decide, show ((1 : Nat) < 5) = True by decide, show ((2 : Nat) < 5) = True by decide, show ((3 : Nat) < 5) = True by decide, show ((4 : Nat) < 5) = True by decide, show ((5 : Nat) < 5) = False by decide, if_true, if_false, rt_z5, rt_0o, rt_o0, rt_so]
    try simp only [s2_z, s3_z, s4_z, s5_z, s0_z, Nat.reduceAdd, Nat.reduceSub, Nat.reduceMul, rt_o0]
    try rfl
  | 6, _ =>
    show rt_lt T p 6 = rt_mp T p (p + 6) 6
    have c : ∀ j, (if p + j < p + 6 then T (p + j) - 96 else 0) = (if j < 6 then T (p + j) - 96 else 0) := fun j => by
      by_cases q : j < 6
      · rw [if_pos q, if_pos (by omega)]
      · rw [if_neg q, if_neg (by omega)]
    simp only [rt_lt, rt_mp, c, rt_96]
    simp only [show (0 : Nat) ≤ 5 by decide, show (1 : Nat) ≤ 5 by decide, show (2 : Nat) ≤ 5 by decide, show (3 : Nat) ≤ 5 by decide, show (4 : Nat) ≤ 5 by decide, show (5 : Nat) ≤ 5 by decide, show ((0 : Nat) < 6) = True by decide, show ((1 : Nat) < 6) = True by decide, show ((2 : Nat) < 6) = True by decide, show ((3 : Nat) < 6) = True by decide, show ((4 : Nat) < 6) = True by decide, show ((5 : Nat) < 6) = True by decide, if_true, if_false, rt_z5, rt_0o, rt_o0, rt_so]
    try simp only [s2_z, s3_z, s4_z, s5_z, s0_z, Nat.reduceAdd, Nat.reduceSub, Nat.reduceMul, rt_o0]
    try rfl
/-- the model's packed letters as a number by 32 -/
theorem rt_mpx {T : Nat → Int32} {p e : Nat} (hs_z : ∀ q, p ≤ q → q < e → rd_sm (T q) = true) : ∀ j, j ≤ 6 → (rt_mp T p e j).toInt = rd_pk T e p j ∧ 0 ≤ rd_pk T e p j ∧ rd_pk T e p j < 32 ^ j := by
  have hx_z : ∀ k, 0 ≤ rd_x T e (p + k) ∧ rd_x T e (p + k) ≤ 31 := by
    intro k
    unfold rd_x
    split
    · rename_i hk_z
      have := rd_sm_iff.mp (hs_z (p + k) (by omega) hk_z)
      omega
    · omega
  intro j
  induction j with
  | zero => intro _; exact ⟨rfl, Int.le_refl _, by show (0 : Int) < 32 ^ 0; decide⟩
  | succ j ih_z =>
    intro hj_z
    obtain ⟨a, b, c⟩ := ih_z (by omega)
    have hb_z := rd_pk_b (T := T) (e := e) (p := p) (j + 1) (fun k _ => hx_z k)
    refine ⟨?_, hb_z.1, hb_z.2⟩
    have hc_z : (32 : Int) ^ j ≤ 32 ^ 5 := by
      match j, hj_z with
      | 0, _ => decide
      | 1, _ => decide
      | 2, _ => decide
      | 3, _ => decide
      | 4, _ => decide
      | 5, _ => decide
    have h5_z : (32 : Int) ^ 5 = 33554432 := by decide
    have hd_z : ∃ d : Int32, (if p + j < e then T (p + j) - 96 else 0) = d ∧ d.toInt = rd_x T e (p + j) := by
      refine ⟨_, rfl, ?_⟩
      unfold rd_x
      by_cases q : p + j < e
      · rw [if_pos q, if_pos q]
        have := rd_sm_iff.mp (hs_z (p + j) (by omega) q)
        have z96_z : (96 : Int32).toInt = 96 := by decide
        rw [ab_isub (by omega) (by omega), z96_z]
      · rw [if_neg q, if_neg q]
        rfl
    obtain ⟨d, ed_z, hd_z⟩ := hd_z
    show ((rt_mp T p e j <<< (5 &&& 31 : Int32)) ||| (if p + j < e then T (p + j) - 96 else 0)).toInt = 32 * rd_pk T e p j + rd_x T e (p + j)
    rw [ed_z, show (5 &&& 31 : Int32) = 5 by decide, rd_pack1 (by omega) (by omega) (by have := hx_z j; omega) (by have := hx_z j; omega), a, hd_z]
theorem rt_i32 {x y : Int32} (h : x.toInt = y.toInt) : x = y := Int32.toInt_inj.mp h
/-- a word's letters and its packed number tell the same -/
theorem rt_wx0 {T : Nat → Int32} {p e : Nat} (hs_z : ∀ q, p ≤ q → q < e → rd_sm (T q) = true) (hpe : p ≤ e) (h6_z : e ≤ p + 6) : rt_w 0 = rt_mp T p e 6 ↔ rt_is T p e 0 := by
  obtain ⟨a, -⟩ := rt_mpx hs_z 6 (Nat.le_refl _)
  have u : rd_pk T e p 6 = 32 * (32 * (32 * (32 * (32 * (32 * 0 + rd_x T e (p + 0)) + rd_x T e (p + 1)) + rd_x T e (p + 2)) + rd_x T e (p + 3)) + rd_x T e (p + 4)) + rd_x T e (p + 5) := rfl
  have w : (rt_w 0).toInt = 72482816 := by decide
  have x0_z : (p + 0 < e ∧ rd_x T e (p + 0) = (T (p + 0)).toInt - 96 ∧ 97 ≤ (T (p + 0)).toInt ∧ (T (p + 0)).toInt ≤ 122) ∨ (¬ p + 0 < e ∧ rd_x T e (p + 0) = 0) := by
    by_cases q : p + 0 < e
    · have := rd_sm_iff.mp (hs_z (p + 0) (by omega) q)
      exact Or.inl ⟨q, if_pos q, this⟩
    · exact Or.inr ⟨q, if_neg q⟩
  have x1_z : (p + 1 < e ∧ rd_x T e (p + 1) = (T (p + 1)).toInt - 96 ∧ 97 ≤ (T (p + 1)).toInt ∧ (T (p + 1)).toInt ≤ 122) ∨ (¬ p + 1 < e ∧ rd_x T e (p + 1) = 0) := by
    by_cases q : p + 1 < e
    · have := rd_sm_iff.mp (hs_z (p + 1) (by omega) q)
      exact Or.inl ⟨q, if_pos q, this⟩
    · exact Or.inr ⟨q, if_neg q⟩
  have x2_z : (p + 2 < e ∧ rd_x T e (p + 2) = (T (p + 2)).toInt - 96 ∧ 97 ≤ (T (p + 2)).toInt ∧ (T (p + 2)).toInt ≤ 122) ∨ (¬ p + 2 < e ∧ rd_x T e (p + 2) = 0) := by
    by_cases q : p + 2 < e
    · have := rd_sm_iff.mp (hs_z (p + 2) (by omega) q)
      exact Or.inl ⟨q, if_pos q, this⟩
    · exact Or.inr ⟨q, if_neg q⟩
  have x3_z : (p + 3 < e ∧ rd_x T e (p + 3) = (T (p + 3)).toInt - 96 ∧ 97 ≤ (T (p + 3)).toInt ∧ (T (p + 3)).toInt ≤ 122) ∨ (¬ p + 3 < e ∧ rd_x T e (p + 3) = 0) := by
    by_cases q : p + 3 < e
    · have := rd_sm_iff.mp (hs_z (p + 3) (by omega) q)
      exact Or.inl ⟨q, if_pos q, this⟩
    · exact Or.inr ⟨q, if_neg q⟩
  have x4_z : (p + 4 < e ∧ rd_x T e (p + 4) = (T (p + 4)).toInt - 96 ∧ 97 ≤ (T (p + 4)).toInt ∧ (T (p + 4)).toInt ≤ 122) ∨ (¬ p + 4 < e ∧ rd_x T e (p + 4) = 0) := by
    by_cases q : p + 4 < e
    · have := rd_sm_iff.mp (hs_z (p + 4) (by omega) q)
      exact Or.inl ⟨q, if_pos q, this⟩
    · exact Or.inr ⟨q, if_neg q⟩
  have x5_z : (p + 5 < e ∧ rd_x T e (p + 5) = (T (p + 5)).toInt - 96 ∧ 97 ≤ (T (p + 5)).toInt ∧ (T (p + 5)).toInt ≤ 122) ∨ (¬ p + 5 < e ∧ rd_x T e (p + 5) = 0) := by
    by_cases q : p + 5 < e
    · have := rd_sm_iff.mp (hs_z (p + 5) (by omega) q)
      exact Or.inl ⟨q, if_pos q, this⟩
    · exact Or.inr ⟨q, if_neg q⟩
  constructor
  · intro hq_z
    have hn_z : rd_pk T e p 6 = 72482816 := by rw [← a, ← hq_z, w]
    rw [u] at hn_z
    have d5_z : rd_x T e (p + 5) = 0 := by omega
    have d4_z : rd_x T e (p + 4) = 0 := by omega
    have d3_z : rd_x T e (p + 3) = 0 := by omega
    have d2_z : rd_x T e (p + 2) = 4 := by omega
    have d1_z : rd_x T e (p + 1) = 5 := by omega
    have d0_z : rd_x T e (p + 0) = 2 := by omega
    refine ⟨by show p + 3 = e; omega, fun j hj_z => ?_⟩
    have hj_z : j < 3 := hj_z
    match j, hj_z with
    | 0, _ =>
      show ab_words 0 = T (p + 0)
      have z : (ab_words 0).toInt = 98 := by decide
      exact rt_i32 (by omega)
    | 1, _ =>
      show ab_words 1 = T (p + 1)
      have z : (ab_words 1).toInt = 101 := by decide
      exact rt_i32 (by omega)
    | 2, _ =>
      show ab_words 2 = T (p + 2)
      have z : (ab_words 2).toInt = 100 := by decide
      exact rt_i32 (by omega)
  · intro hq_z
    have hl_z : p + 3 = e := hq_z.1
    have c0_z : ab_words 0 = T (p + 0) := hq_z.2 0 (by decide)
    have z0_z : (ab_words 0).toInt = 98 := by decide
    rw [c0_z] at z0_z
    have c1_z : ab_words 1 = T (p + 1) := hq_z.2 1 (by decide)
    have z1_z : (ab_words 1).toInt = 101 := by decide
    rw [c1_z] at z1_z
    have c2_z : ab_words 2 = T (p + 2) := hq_z.2 2 (by decide)
    have z2_z : (ab_words 2).toInt = 100 := by decide
    rw [c2_z] at z2_z
    apply rt_i32
    rw [a, u, w]
    omega
theorem rt_wx1 {T : Nat → Int32} {p e : Nat} (hs_z : ∀ q, p ≤ q → q < e → rd_sm (T q) = true) (hpe : p ≤ e) (h6_z : e ≤ p + 6) : rt_w 1 = rt_mp T p e 6 ↔ rt_is T p e 1 := by
  obtain ⟨a, -⟩ := rt_mpx hs_z 6 (Nat.le_refl _)
  have u : rd_pk T e p 6 = 32 * (32 * (32 * (32 * (32 * (32 * 0 + rd_x T e (p + 0)) + rd_x T e (p + 1)) + rd_x T e (p + 2)) + rd_x T e (p + 3)) + rd_x T e (p + 4)) + rd_x T e (p + 5) := rfl
  have w : (rt_w 1).toInt = 80207026 := by decide
  have x0_z : (p + 0 < e ∧ rd_x T e (p + 0) = (T (p + 0)).toInt - 96 ∧ 97 ≤ (T (p + 0)).toInt ∧ (T (p + 0)).toInt ≤ 122) ∨ (¬ p + 0 < e ∧ rd_x T e (p + 0) = 0) := by
    by_cases q : p + 0 < e
    · have := rd_sm_iff.mp (hs_z (p + 0) (by omega) q)
      exact Or.inl ⟨q, if_pos q, this⟩
    · exact Or.inr ⟨q, if_neg q⟩
  have x1_z : (p + 1 < e ∧ rd_x T e (p + 1) = (T (p + 1)).toInt - 96 ∧ 97 ≤ (T (p + 1)).toInt ∧ (T (p + 1)).toInt ≤ 122) ∨ (¬ p + 1 < e ∧ rd_x T e (p + 1) = 0) := by
    by_cases q : p + 1 < e
    · have := rd_sm_iff.mp (hs_z (p + 1) (by omega) q)
      exact Or.inl ⟨q, if_pos q, this⟩
    · exact Or.inr ⟨q, if_neg q⟩
  have x2_z : (p + 2 < e ∧ rd_x T e (p + 2) = (T (p + 2)).toInt - 96 ∧ 97 ≤ (T (p + 2)).toInt ∧ (T (p + 2)).toInt ≤ 122) ∨ (¬ p + 2 < e ∧ rd_x T e (p + 2) = 0) := by
    by_cases q : p + 2 < e
    · have := rd_sm_iff.mp (hs_z (p + 2) (by omega) q)
      exact Or.inl ⟨q, if_pos q, this⟩
    · exact Or.inr ⟨q, if_neg q⟩
  have x3_z : (p + 3 < e ∧ rd_x T e (p + 3) = (T (p + 3)).toInt - 96 ∧ 97 ≤ (T (p + 3)).toInt ∧ (T (p + 3)).toInt ≤ 122) ∨ (¬ p + 3 < e ∧ rd_x T e (p + 3) = 0) := by
    by_cases q : p + 3 < e
    · have := rd_sm_iff.mp (hs_z (p + 3) (by omega) q)
      exact Or.inl ⟨q, if_pos q, this⟩
    · exact Or.inr ⟨q, if_neg q⟩
  have x4_z : (p + 4 < e ∧ rd_x T e (p + 4) = (T (p + 4)).toInt - 96 ∧ 97 ≤ (T (p + 4)).toInt ∧ (T (p + 4)).toInt ≤ 122) ∨ (¬ p + 4 < e ∧ rd_x T e (p + 4) = 0) := by
    by_cases q : p + 4 < e
    · have := rd_sm_iff.mp (hs_z (p + 4) (by omega) q)
      exact Or.inl ⟨q, if_pos q, this⟩
    · exact Or.inr ⟨q, if_neg q⟩
  have x5_z : (p + 5 < e ∧ rd_x T e (p + 5) = (T (p + 5)).toInt - 96 ∧ 97 ≤ (T (p + 5)).toInt ∧ (T (p + 5)).toInt ≤ 122) ∨ (¬ p + 5 < e ∧ rd_x T e (p + 5) = 0) := by
    by_cases q : p + 5 < e
    · have := rd_sm_iff.mp (hs_z (p + 5) (by omega) q)
      exact Or.inl ⟨q, if_pos q, this⟩
    · exact Or.inr ⟨q, if_neg q⟩
  constructor
  · intro hq_z
    have hn_z : rd_pk T e p 6 = 80207026 := by rw [← a, ← hq_z, w]
    rw [u] at hn_z
    have d5_z : rd_x T e (p + 5) = 18 := by omega
    have d4_z : rd_x T e (p + 4) = 5 := by omega
    have d3_z : rd_x T e (p + 3) = 23 := by omega
    have d2_z : rd_x T e (p + 2) = 15 := by omega
    have d1_z : rd_x T e (p + 1) = 12 := by omega
    have d0_z : rd_x T e (p + 0) = 2 := by omega
    refine ⟨by show p + 6 = e; omega, fun j hj_z => ?_⟩
    have hj_z : j < 6 := hj_z
    match j, hj_z with
    | 0, _ =>
      show ab_words 4 = T (p + 0)
      have z : (ab_words 4).toInt = 98 := by decide
      exact rt_i32 (by omega)
    | 1, _ =>
      show ab_words 5 = T (p + 1)
      have z : (ab_words 5).toInt = 108 := by decide
      exact rt_i32 (by omega)
    | 2, _ =>
      show ab_words 6 = T (p + 2)
      have z : (ab_words 6).toInt = 111 := by decide
      exact rt_i32 (by omega)
    | 3, _ =>
      show ab_words 7 = T (p + 3)
      have z : (ab_words 7).toInt = 119 := by decide
      exact rt_i32 (by omega)
    | 4, _ =>
      show ab_words 8 = T (p + 4)
      have z : (ab_words 8).toInt = 101 := by decide
      exact rt_i32 (by omega)
    | 5, _ =>
      show ab_words 9 = T (p + 5)
      have z : (ab_words 9).toInt = 114 := by decide
      exact rt_i32 (by omega)
  · intro hq_z
    have hl_z : p + 6 = e := hq_z.1
    have c0_z : ab_words 4 = T (p + 0) := hq_z.2 0 (by decide)
    have z0_z : (ab_words 4).toInt = 98 := by decide
    rw [c0_z] at z0_z
    have c1_z : ab_words 5 = T (p + 1) := hq_z.2 1 (by decide)
    have z1_z : (ab_words 5).toInt = 108 := by decide
    rw [c1_z] at z1_z
    have c2_z : ab_words 6 = T (p + 2) := hq_z.2 2 (by decide)
    have z2_z : (ab_words 6).toInt = 111 := by decide
    rw [c2_z] at z2_z
    have c3_z : ab_words 7 = T (p + 3) := hq_z.2 3 (by decide)
    have z3_z : (ab_words 7).toInt = 119 := by decide
    rw [c3_z] at z3_z
    have c4_z : ab_words 8 = T (p + 4) := hq_z.2 4 (by decide)
    have z4_z : (ab_words 8).toInt = 101 := by decide
    rw [c4_z] at z4_z
    have c5_z : ab_words 9 = T (p + 5) := hq_z.2 5 (by decide)
    have z5_z : (ab_words 9).toInt = 114 := by decide
    rw [c5_z] at z5_z
    apply rt_i32
    rw [a, u, w]
    omega
theorem rt_wx2 {T : Nat → Int32} {p e : Nat} (hs_z : ∀ q, p ≤ q → q < e → rd_sm (T q) = true) (hpe : p ≤ e) (h6_z : e ≤ p + 6) : rt_w 2 = rt_mp T p e 6 ↔ rt_is T p e 2 := by
  obtain ⟨a, -⟩ := rt_mpx hs_z 6 (Nat.le_refl _)
  have u : rd_pk T e p 6 = 32 * (32 * (32 * (32 * (32 * (32 * 0 + rd_x T e (p + 0)) + rd_x T e (p + 1)) + rd_x T e (p + 2)) + rd_x T e (p + 3)) + rd_x T e (p + 4)) + rd_x T e (p + 5) := rfl
  have w : (rt_w 2).toInt = 693712896 := by decide
  have x0_z : (p + 0 < e ∧ rd_x T e (p + 0) = (T (p + 0)).toInt - 96 ∧ 97 ≤ (T (p + 0)).toInt ∧ (T (p + 0)).toInt ≤ 122) ∨ (¬ p + 0 < e ∧ rd_x T e (p + 0) = 0) := by
    by_cases q : p + 0 < e
    · have := rd_sm_iff.mp (hs_z (p + 0) (by omega) q)
      exact Or.inl ⟨q, if_pos q, this⟩
    · exact Or.inr ⟨q, if_neg q⟩
  have x1_z : (p + 1 < e ∧ rd_x T e (p + 1) = (T (p + 1)).toInt - 96 ∧ 97 ≤ (T (p + 1)).toInt ∧ (T (p + 1)).toInt ≤ 122) ∨ (¬ p + 1 < e ∧ rd_x T e (p + 1) = 0) := by
    by_cases q : p + 1 < e
    · have := rd_sm_iff.mp (hs_z (p + 1) (by omega) q)
      exact Or.inl ⟨q, if_pos q, this⟩
    · exact Or.inr ⟨q, if_neg q⟩
  have x2_z : (p + 2 < e ∧ rd_x T e (p + 2) = (T (p + 2)).toInt - 96 ∧ 97 ≤ (T (p + 2)).toInt ∧ (T (p + 2)).toInt ≤ 122) ∨ (¬ p + 2 < e ∧ rd_x T e (p + 2) = 0) := by
    by_cases q : p + 2 < e
    · have := rd_sm_iff.mp (hs_z (p + 2) (by omega) q)
      exact Or.inl ⟨q, if_pos q, this⟩
    · exact Or.inr ⟨q, if_neg q⟩
  have x3_z : (p + 3 < e ∧ rd_x T e (p + 3) = (T (p + 3)).toInt - 96 ∧ 97 ≤ (T (p + 3)).toInt ∧ (T (p + 3)).toInt ≤ 122) ∨ (¬ p + 3 < e ∧ rd_x T e (p + 3) = 0) := by
    by_cases q : p + 3 < e
    · have := rd_sm_iff.mp (hs_z (p + 3) (by omega) q)
      exact Or.inl ⟨q, if_pos q, this⟩
    · exact Or.inr ⟨q, if_neg q⟩
  have x4_z : (p + 4 < e ∧ rd_x T e (p + 4) = (T (p + 4)).toInt - 96 ∧ 97 ≤ (T (p + 4)).toInt ∧ (T (p + 4)).toInt ≤ 122) ∨ (¬ p + 4 < e ∧ rd_x T e (p + 4) = 0) := by
    by_cases q : p + 4 < e
    · have := rd_sm_iff.mp (hs_z (p + 4) (by omega) q)
      exact Or.inl ⟨q, if_pos q, this⟩
    · exact Or.inr ⟨q, if_neg q⟩
  have x5_z : (p + 5 < e ∧ rd_x T e (p + 5) = (T (p + 5)).toInt - 96 ∧ 97 ≤ (T (p + 5)).toInt ∧ (T (p + 5)).toInt ≤ 122) ∨ (¬ p + 5 < e ∧ rd_x T e (p + 5) = 0) := by
    by_cases q : p + 5 < e
    · have := rd_sm_iff.mp (hs_z (p + 5) (by omega) q)
      exact Or.inl ⟨q, if_pos q, this⟩
    · exact Or.inr ⟨q, if_neg q⟩
  constructor
  · intro hq_z
    have hn_z : rd_pk T e p 6 = 693712896 := by rw [← a, ← hq_z, w]
    rw [u] at hn_z
    have d5_z : rd_x T e (p + 5) = 0 := by omega
    have d4_z : rd_x T e (p + 4) = 0 := by omega
    have d3_z : rd_x T e (p + 3) = 14 := by omega
    have d2_z : rd_x T e (p + 2) = 18 := by omega
    have d1_z : rd_x T e (p + 1) = 21 := by omega
    have d0_z : rd_x T e (p + 0) = 20 := by omega
    refine ⟨by show p + 4 = e; omega, fun j hj_z => ?_⟩
    have hj_z : j < 4 := hj_z
    match j, hj_z with
    | 0, _ =>
      show ab_words 11 = T (p + 0)
      have z : (ab_words 11).toInt = 116 := by decide
      exact rt_i32 (by omega)
    | 1, _ =>
      show ab_words 12 = T (p + 1)
      have z : (ab_words 12).toInt = 117 := by decide
      exact rt_i32 (by omega)
    | 2, _ =>
      show ab_words 13 = T (p + 2)
      have z : (ab_words 13).toInt = 114 := by decide
      exact rt_i32 (by omega)
    | 3, _ =>
      show ab_words 14 = T (p + 3)
      have z : (ab_words 14).toInt = 110 := by decide
      exact rt_i32 (by omega)
  · intro hq_z
    have hl_z : p + 4 = e := hq_z.1
    have c0_z : ab_words 11 = T (p + 0) := hq_z.2 0 (by decide)
    have z0_z : (ab_words 11).toInt = 116 := by decide
    rw [c0_z] at z0_z
    have c1_z : ab_words 12 = T (p + 1) := hq_z.2 1 (by decide)
    have z1_z : (ab_words 12).toInt = 117 := by decide
    rw [c1_z] at z1_z
    have c2_z : ab_words 13 = T (p + 2) := hq_z.2 2 (by decide)
    have z2_z : (ab_words 13).toInt = 114 := by decide
    rw [c2_z] at z2_z
    have c3_z : ab_words 14 = T (p + 3) := hq_z.2 3 (by decide)
    have z3_z : (ab_words 14).toInt = 110 := by decide
    rw [c3_z] at z3_z
    apply rt_i32
    rw [a, u, w]
    omega
theorem rt_wx3 {T : Nat → Int32} {p e : Nat} (hs_z : ∀ q, p ≤ q → q < e → rd_sm (T q) = true) (hpe : p ≤ e) (h6_z : e ≤ p + 6) : rt_w 3 = rt_mp T p e 6 ↔ rt_is T p e 3 := by
  obtain ⟨a, -⟩ := rt_mpx hs_z 6 (Nat.le_refl _)
  have u : rd_pk T e p 6 = 32 * (32 * (32 * (32 * (32 * (32 * 0 + rd_x T e (p + 0)) + rd_x T e (p + 1)) + rd_x T e (p + 2)) + rd_x T e (p + 3)) + rd_x T e (p + 4)) + rd_x T e (p + 5) := rfl
  have w : (rt_w 3).toInt = 559333376 := by decide
  have x0_z : (p + 0 < e ∧ rd_x T e (p + 0) = (T (p + 0)).toInt - 96 ∧ 97 ≤ (T (p + 0)).toInt ∧ (T (p + 0)).toInt ≤ 122) ∨ (¬ p + 0 < e ∧ rd_x T e (p + 0) = 0) := by
    by_cases q : p + 0 < e
    · have := rd_sm_iff.mp (hs_z (p + 0) (by omega) q)
      exact Or.inl ⟨q, if_pos q, this⟩
    · exact Or.inr ⟨q, if_neg q⟩
  have x1_z : (p + 1 < e ∧ rd_x T e (p + 1) = (T (p + 1)).toInt - 96 ∧ 97 ≤ (T (p + 1)).toInt ∧ (T (p + 1)).toInt ≤ 122) ∨ (¬ p + 1 < e ∧ rd_x T e (p + 1) = 0) := by
    by_cases q : p + 1 < e
    · have := rd_sm_iff.mp (hs_z (p + 1) (by omega) q)
      exact Or.inl ⟨q, if_pos q, this⟩
    · exact Or.inr ⟨q, if_neg q⟩
  have x2_z : (p + 2 < e ∧ rd_x T e (p + 2) = (T (p + 2)).toInt - 96 ∧ 97 ≤ (T (p + 2)).toInt ∧ (T (p + 2)).toInt ≤ 122) ∨ (¬ p + 2 < e ∧ rd_x T e (p + 2) = 0) := by
    by_cases q : p + 2 < e
    · have := rd_sm_iff.mp (hs_z (p + 2) (by omega) q)
      exact Or.inl ⟨q, if_pos q, this⟩
    · exact Or.inr ⟨q, if_neg q⟩
  have x3_z : (p + 3 < e ∧ rd_x T e (p + 3) = (T (p + 3)).toInt - 96 ∧ 97 ≤ (T (p + 3)).toInt ∧ (T (p + 3)).toInt ≤ 122) ∨ (¬ p + 3 < e ∧ rd_x T e (p + 3) = 0) := by
    by_cases q : p + 3 < e
    · have := rd_sm_iff.mp (hs_z (p + 3) (by omega) q)
      exact Or.inl ⟨q, if_pos q, this⟩
    · exact Or.inr ⟨q, if_neg q⟩
  have x4_z : (p + 4 < e ∧ rd_x T e (p + 4) = (T (p + 4)).toInt - 96 ∧ 97 ≤ (T (p + 4)).toInt ∧ (T (p + 4)).toInt ≤ 122) ∨ (¬ p + 4 < e ∧ rd_x T e (p + 4) = 0) := by
    by_cases q : p + 4 < e
    · have := rd_sm_iff.mp (hs_z (p + 4) (by omega) q)
      exact Or.inl ⟨q, if_pos q, this⟩
    · exact Or.inr ⟨q, if_neg q⟩
  have x5_z : (p + 5 < e ∧ rd_x T e (p + 5) = (T (p + 5)).toInt - 96 ∧ 97 ≤ (T (p + 5)).toInt ∧ (T (p + 5)).toInt ≤ 122) ∨ (¬ p + 5 < e ∧ rd_x T e (p + 5) = 0) := by
    by_cases q : p + 5 < e
    · have := rd_sm_iff.mp (hs_z (p + 5) (by omega) q)
      exact Or.inl ⟨q, if_pos q, this⟩
    · exact Or.inr ⟨q, if_neg q⟩
  constructor
  · intro hq_z
    have hn_z : rd_pk T e p 6 = 559333376 := by rw [← a, ← hq_z, w]
    rw [u] at hn_z
    have d5_z : rd_x T e (p + 5) = 0 := by omega
    have d4_z : rd_x T e (p + 4) = 0 := by omega
    have d3_z : rd_x T e (p + 3) = 16 := by omega
    have d2_z : rd_x T e (p + 2) = 13 := by omega
    have d1_z : rd_x T e (p + 1) = 21 := by omega
    have d0_z : rd_x T e (p + 0) = 16 := by omega
    refine ⟨by show p + 4 = e; omega, fun j hj_z => ?_⟩
    have hj_z : j < 4 := hj_z
    match j, hj_z with
    | 0, _ =>
      show ab_words 16 = T (p + 0)
      have z : (ab_words 16).toInt = 112 := by decide
      exact rt_i32 (by omega)
    | 1, _ =>
      show ab_words 17 = T (p + 1)
      have z : (ab_words 17).toInt = 117 := by decide
      exact rt_i32 (by omega)
    | 2, _ =>
      show ab_words 18 = T (p + 2)
      have z : (ab_words 18).toInt = 109 := by decide
      exact rt_i32 (by omega)
    | 3, _ =>
      show ab_words 19 = T (p + 3)
      have z : (ab_words 19).toInt = 112 := by decide
      exact rt_i32 (by omega)
  · intro hq_z
    have hl_z : p + 4 = e := hq_z.1
    have c0_z : ab_words 16 = T (p + 0) := hq_z.2 0 (by decide)
    have z0_z : (ab_words 16).toInt = 112 := by decide
    rw [c0_z] at z0_z
    have c1_z : ab_words 17 = T (p + 1) := hq_z.2 1 (by decide)
    have z1_z : (ab_words 17).toInt = 117 := by decide
    rw [c1_z] at z1_z
    have c2_z : ab_words 18 = T (p + 2) := hq_z.2 2 (by decide)
    have z2_z : (ab_words 18).toInt = 109 := by decide
    rw [c2_z] at z2_z
    have c3_z : ab_words 19 = T (p + 3) := hq_z.2 3 (by decide)
    have z3_z : (ab_words 19).toInt = 112 := by decide
    rw [c3_z] at z3_z
    apply rt_i32
    rw [a, u, w]
    omega
theorem rt_wx4 {T : Nat → Int32} {p e : Nat} (hs_z : ∀ q, p ≤ q → q < e → rd_sm (T q) = true) (hpe : p ≤ e) (h6_z : e ≤ p + 6) : rt_w 4 = rt_mp T p e 6 ↔ rt_is T p e 4 := by
  obtain ⟨a, -⟩ := rt_mpx hs_z 6 (Nat.le_refl _)
  have u : rd_pk T e p 6 = 32 * (32 * (32 * (32 * (32 * (32 * 0 + rd_x T e (p + 0)) + rd_x T e (p + 1)) + rd_x T e (p + 2)) + rd_x T e (p + 3)) + rd_x T e (p + 4)) + rd_x T e (p + 5) := rfl
  have w : (rt_w 4).toInt = 407940096 := by decide
  have x0_z : (p + 0 < e ∧ rd_x T e (p + 0) = (T (p + 0)).toInt - 96 ∧ 97 ≤ (T (p + 0)).toInt ∧ (T (p + 0)).toInt ≤ 122) ∨ (¬ p + 0 < e ∧ rd_x T e (p + 0) = 0) := by
    by_cases q : p + 0 < e
    · have := rd_sm_iff.mp (hs_z (p + 0) (by omega) q)
      exact Or.inl ⟨q, if_pos q, this⟩
    · exact Or.inr ⟨q, if_neg q⟩
  have x1_z : (p + 1 < e ∧ rd_x T e (p + 1) = (T (p + 1)).toInt - 96 ∧ 97 ≤ (T (p + 1)).toInt ∧ (T (p + 1)).toInt ≤ 122) ∨ (¬ p + 1 < e ∧ rd_x T e (p + 1) = 0) := by
    by_cases q : p + 1 < e
    · have := rd_sm_iff.mp (hs_z (p + 1) (by omega) q)
      exact Or.inl ⟨q, if_pos q, this⟩
    · exact Or.inr ⟨q, if_neg q⟩
  have x2_z : (p + 2 < e ∧ rd_x T e (p + 2) = (T (p + 2)).toInt - 96 ∧ 97 ≤ (T (p + 2)).toInt ∧ (T (p + 2)).toInt ≤ 122) ∨ (¬ p + 2 < e ∧ rd_x T e (p + 2) = 0) := by
    by_cases q : p + 2 < e
    · have := rd_sm_iff.mp (hs_z (p + 2) (by omega) q)
      exact Or.inl ⟨q, if_pos q, this⟩
    · exact Or.inr ⟨q, if_neg q⟩
  have x3_z : (p + 3 < e ∧ rd_x T e (p + 3) = (T (p + 3)).toInt - 96 ∧ 97 ≤ (T (p + 3)).toInt ∧ (T (p + 3)).toInt ≤ 122) ∨ (¬ p + 3 < e ∧ rd_x T e (p + 3) = 0) := by
    by_cases q : p + 3 < e
    · have := rd_sm_iff.mp (hs_z (p + 3) (by omega) q)
      exact Or.inl ⟨q, if_pos q, this⟩
    · exact Or.inr ⟨q, if_neg q⟩
  have x4_z : (p + 4 < e ∧ rd_x T e (p + 4) = (T (p + 4)).toInt - 96 ∧ 97 ≤ (T (p + 4)).toInt ∧ (T (p + 4)).toInt ≤ 122) ∨ (¬ p + 4 < e ∧ rd_x T e (p + 4) = 0) := by
    by_cases q : p + 4 < e
    · have := rd_sm_iff.mp (hs_z (p + 4) (by omega) q)
      exact Or.inl ⟨q, if_pos q, this⟩
    · exact Or.inr ⟨q, if_neg q⟩
  have x5_z : (p + 5 < e ∧ rd_x T e (p + 5) = (T (p + 5)).toInt - 96 ∧ 97 ≤ (T (p + 5)).toInt ∧ (T (p + 5)).toInt ≤ 122) ∨ (¬ p + 5 < e ∧ rd_x T e (p + 5) = 0) := by
    by_cases q : p + 5 < e
    · have := rd_sm_iff.mp (hs_z (p + 5) (by omega) q)
      exact Or.inl ⟨q, if_pos q, this⟩
    · exact Or.inr ⟨q, if_neg q⟩
  constructor
  · intro hq_z
    have hn_z : rd_pk T e p 6 = 407940096 := by rw [← a, ← hq_z, w]
    rw [u] at hn_z
    have d5_z : rd_x T e (p + 5) = 0 := by omega
    have d4_z : rd_x T e (p + 4) = 0 := by omega
    have d3_z : rd_x T e (p + 3) = 11 := by omega
    have d2_z : rd_x T e (p + 2) = 1 := by omega
    have d1_z : rd_x T e (p + 1) = 5 := by omega
    have d0_z : rd_x T e (p + 0) = 12 := by omega
    refine ⟨by show p + 4 = e; omega, fun j hj_z => ?_⟩
    have hj_z : j < 4 := hj_z
    match j, hj_z with
    | 0, _ =>
      show ab_words 21 = T (p + 0)
      have z : (ab_words 21).toInt = 108 := by decide
      exact rt_i32 (by omega)
    | 1, _ =>
      show ab_words 22 = T (p + 1)
      have z : (ab_words 22).toInt = 101 := by decide
      exact rt_i32 (by omega)
    | 2, _ =>
      show ab_words 23 = T (p + 2)
      have z : (ab_words 23).toInt = 97 := by decide
      exact rt_i32 (by omega)
    | 3, _ =>
      show ab_words 24 = T (p + 3)
      have z : (ab_words 24).toInt = 107 := by decide
      exact rt_i32 (by omega)
  · intro hq_z
    have hl_z : p + 4 = e := hq_z.1
    have c0_z : ab_words 21 = T (p + 0) := hq_z.2 0 (by decide)
    have z0_z : (ab_words 21).toInt = 108 := by decide
    rw [c0_z] at z0_z
    have c1_z : ab_words 22 = T (p + 1) := hq_z.2 1 (by decide)
    have z1_z : (ab_words 22).toInt = 101 := by decide
    rw [c1_z] at z1_z
    have c2_z : ab_words 23 = T (p + 2) := hq_z.2 2 (by decide)
    have z2_z : (ab_words 23).toInt = 97 := by decide
    rw [c2_z] at z2_z
    have c3_z : ab_words 24 = T (p + 3) := hq_z.2 3 (by decide)
    have z3_z : (ab_words 24).toInt = 107 := by decide
    rw [c3_z] at z3_z
    apply rt_i32
    rw [a, u, w]
    omega
theorem rt_wx5 {T : Nat → Int32} {p e : Nat} (hs_z : ∀ q, p ≤ q → q < e → rd_sm (T q) = true) (hpe : p ≤ e) (h6_z : e ≤ p + 6) : rt_w 5 = rt_mp T p e 6 ↔ rt_is T p e 5 := by
  obtain ⟨a, -⟩ := rt_mpx hs_z 6 (Nat.le_refl _)
  have u : rd_pk T e p 6 = 32 * (32 * (32 * (32 * (32 * (32 * 0 + rd_x T e (p + 0)) + rd_x T e (p + 1)) + rd_x T e (p + 2)) + rd_x T e (p + 3)) + rd_x T e (p + 4)) + rd_x T e (p + 5) := rfl
  have w : (rt_w 5).toInt = 690259328 := by decide
  have x0_z : (p + 0 < e ∧ rd_x T e (p + 0) = (T (p + 0)).toInt - 96 ∧ 97 ≤ (T (p + 0)).toInt ∧ (T (p + 0)).toInt ≤ 122) ∨ (¬ p + 0 < e ∧ rd_x T e (p + 0) = 0) := by
    by_cases q : p + 0 < e
    · have := rd_sm_iff.mp (hs_z (p + 0) (by omega) q)
      exact Or.inl ⟨q, if_pos q, this⟩
    · exact Or.inr ⟨q, if_neg q⟩
  have x1_z : (p + 1 < e ∧ rd_x T e (p + 1) = (T (p + 1)).toInt - 96 ∧ 97 ≤ (T (p + 1)).toInt ∧ (T (p + 1)).toInt ≤ 122) ∨ (¬ p + 1 < e ∧ rd_x T e (p + 1) = 0) := by
    by_cases q : p + 1 < e
    · have := rd_sm_iff.mp (hs_z (p + 1) (by omega) q)
      exact Or.inl ⟨q, if_pos q, this⟩
    · exact Or.inr ⟨q, if_neg q⟩
  have x2_z : (p + 2 < e ∧ rd_x T e (p + 2) = (T (p + 2)).toInt - 96 ∧ 97 ≤ (T (p + 2)).toInt ∧ (T (p + 2)).toInt ≤ 122) ∨ (¬ p + 2 < e ∧ rd_x T e (p + 2) = 0) := by
    by_cases q : p + 2 < e
    · have := rd_sm_iff.mp (hs_z (p + 2) (by omega) q)
      exact Or.inl ⟨q, if_pos q, this⟩
    · exact Or.inr ⟨q, if_neg q⟩
  have x3_z : (p + 3 < e ∧ rd_x T e (p + 3) = (T (p + 3)).toInt - 96 ∧ 97 ≤ (T (p + 3)).toInt ∧ (T (p + 3)).toInt ≤ 122) ∨ (¬ p + 3 < e ∧ rd_x T e (p + 3) = 0) := by
    by_cases q : p + 3 < e
    · have := rd_sm_iff.mp (hs_z (p + 3) (by omega) q)
      exact Or.inl ⟨q, if_pos q, this⟩
    · exact Or.inr ⟨q, if_neg q⟩
  have x4_z : (p + 4 < e ∧ rd_x T e (p + 4) = (T (p + 4)).toInt - 96 ∧ 97 ≤ (T (p + 4)).toInt ∧ (T (p + 4)).toInt ≤ 122) ∨ (¬ p + 4 < e ∧ rd_x T e (p + 4) = 0) := by
    by_cases q : p + 4 < e
    · have := rd_sm_iff.mp (hs_z (p + 4) (by omega) q)
      exact Or.inl ⟨q, if_pos q, this⟩
    · exact Or.inr ⟨q, if_neg q⟩
  have x5_z : (p + 5 < e ∧ rd_x T e (p + 5) = (T (p + 5)).toInt - 96 ∧ 97 ≤ (T (p + 5)).toInt ∧ (T (p + 5)).toInt ≤ 122) ∨ (¬ p + 5 < e ∧ rd_x T e (p + 5) = 0) := by
    by_cases q : p + 5 < e
    · have := rd_sm_iff.mp (hs_z (p + 5) (by omega) q)
      exact Or.inl ⟨q, if_pos q, this⟩
    · exact Or.inr ⟨q, if_neg q⟩
  constructor
  · intro hq_z
    have hn_z : rd_pk T e p 6 = 690259328 := by rw [← a, ← hq_z, w]
    rw [u] at hn_z
    have d5_z : rd_x T e (p + 5) = 0 := by omega
    have d4_z : rd_x T e (p + 4) = 12 := by omega
    have d3_z : rd_x T e (p + 3) = 1 := by omega
    have d2_z : rd_x T e (p + 2) = 9 := by omega
    have d1_z : rd_x T e (p + 1) = 18 := by omega
    have d0_z : rd_x T e (p + 0) = 20 := by omega
    refine ⟨by show p + 5 = e; omega, fun j hj_z => ?_⟩
    have hj_z : j < 5 := hj_z
    match j, hj_z with
    | 0, _ =>
      show ab_words 26 = T (p + 0)
      have z : (ab_words 26).toInt = 116 := by decide
      exact rt_i32 (by omega)
    | 1, _ =>
      show ab_words 27 = T (p + 1)
      have z : (ab_words 27).toInt = 114 := by decide
      exact rt_i32 (by omega)
    | 2, _ =>
      show ab_words 28 = T (p + 2)
      have z : (ab_words 28).toInt = 105 := by decide
      exact rt_i32 (by omega)
    | 3, _ =>
      show ab_words 29 = T (p + 3)
      have z : (ab_words 29).toInt = 97 := by decide
      exact rt_i32 (by omega)
    | 4, _ =>
      show ab_words 30 = T (p + 4)
      have z : (ab_words 30).toInt = 108 := by decide
      exact rt_i32 (by omega)
  · intro hq_z
    have hl_z : p + 5 = e := hq_z.1
    have c0_z : ab_words 26 = T (p + 0) := hq_z.2 0 (by decide)
    have z0_z : (ab_words 26).toInt = 116 := by decide
    rw [c0_z] at z0_z
    have c1_z : ab_words 27 = T (p + 1) := hq_z.2 1 (by decide)
    have z1_z : (ab_words 27).toInt = 114 := by decide
    rw [c1_z] at z1_z
    have c2_z : ab_words 28 = T (p + 2) := hq_z.2 2 (by decide)
    have z2_z : (ab_words 28).toInt = 105 := by decide
    rw [c2_z] at z2_z
    have c3_z : ab_words 29 = T (p + 3) := hq_z.2 3 (by decide)
    have z3_z : (ab_words 29).toInt = 97 := by decide
    rw [c3_z] at z3_z
    have c4_z : ab_words 30 = T (p + 4) := hq_z.2 4 (by decide)
    have z4_z : (ab_words 30).toInt = 108 := by decide
    rw [c4_z] at z4_z
    apply rt_i32
    rw [a, u, w]
    omega
theorem rt_wx6 {T : Nat → Int32} {p e : Nat} (hs_z : ∀ q, p ≤ q → q < e → rd_sm (T q) = true) (hpe : p ≤ e) (h6_z : e ≤ p + 6) : rt_w 6 = rt_mp T p e 6 ↔ rt_is T p e 6 := by
  obtain ⟨a, -⟩ := rt_mpx hs_z 6 (Nat.le_refl _)
  have u : rd_pk T e p 6 = 32 * (32 * (32 * (32 * (32 * (32 * 0 + rd_x T e (p + 0)) + rd_x T e (p + 1)) + rd_x T e (p + 2)) + rd_x T e (p + 3)) + rd_x T e (p + 4)) + rd_x T e (p + 5) := rfl
  have w : (rt_w 6).toInt = 650428416 := by decide
  have x0_z : (p + 0 < e ∧ rd_x T e (p + 0) = (T (p + 0)).toInt - 96 ∧ 97 ≤ (T (p + 0)).toInt ∧ (T (p + 0)).toInt ≤ 122) ∨ (¬ p + 0 < e ∧ rd_x T e (p + 0) = 0) := by
    by_cases q : p + 0 < e
    · have := rd_sm_iff.mp (hs_z (p + 0) (by omega) q)
      exact Or.inl ⟨q, if_pos q, this⟩
    · exact Or.inr ⟨q, if_neg q⟩
  have x1_z : (p + 1 < e ∧ rd_x T e (p + 1) = (T (p + 1)).toInt - 96 ∧ 97 ≤ (T (p + 1)).toInt ∧ (T (p + 1)).toInt ≤ 122) ∨ (¬ p + 1 < e ∧ rd_x T e (p + 1) = 0) := by
    by_cases q : p + 1 < e
    · have := rd_sm_iff.mp (hs_z (p + 1) (by omega) q)
      exact Or.inl ⟨q, if_pos q, this⟩
    · exact Or.inr ⟨q, if_neg q⟩
  have x2_z : (p + 2 < e ∧ rd_x T e (p + 2) = (T (p + 2)).toInt - 96 ∧ 97 ≤ (T (p + 2)).toInt ∧ (T (p + 2)).toInt ≤ 122) ∨ (¬ p + 2 < e ∧ rd_x T e (p + 2) = 0) := by
    by_cases q : p + 2 < e
    · have := rd_sm_iff.mp (hs_z (p + 2) (by omega) q)
      exact Or.inl ⟨q, if_pos q, this⟩
    · exact Or.inr ⟨q, if_neg q⟩
  have x3_z : (p + 3 < e ∧ rd_x T e (p + 3) = (T (p + 3)).toInt - 96 ∧ 97 ≤ (T (p + 3)).toInt ∧ (T (p + 3)).toInt ≤ 122) ∨ (¬ p + 3 < e ∧ rd_x T e (p + 3) = 0) := by
    by_cases q : p + 3 < e
    · have := rd_sm_iff.mp (hs_z (p + 3) (by omega) q)
      exact Or.inl ⟨q, if_pos q, this⟩
    · exact Or.inr ⟨q, if_neg q⟩
  have x4_z : (p + 4 < e ∧ rd_x T e (p + 4) = (T (p + 4)).toInt - 96 ∧ 97 ≤ (T (p + 4)).toInt ∧ (T (p + 4)).toInt ≤ 122) ∨ (¬ p + 4 < e ∧ rd_x T e (p + 4) = 0) := by
    by_cases q : p + 4 < e
    · have := rd_sm_iff.mp (hs_z (p + 4) (by omega) q)
      exact Or.inl ⟨q, if_pos q, this⟩
    · exact Or.inr ⟨q, if_neg q⟩
  have x5_z : (p + 5 < e ∧ rd_x T e (p + 5) = (T (p + 5)).toInt - 96 ∧ 97 ≤ (T (p + 5)).toInt ∧ (T (p + 5)).toInt ≤ 122) ∨ (¬ p + 5 < e ∧ rd_x T e (p + 5) = 0) := by
    by_cases q : p + 5 < e
    · have := rd_sm_iff.mp (hs_z (p + 5) (by omega) q)
      exact Or.inl ⟨q, if_pos q, this⟩
    · exact Or.inr ⟨q, if_neg q⟩
  constructor
  · intro hq_z
    have hn_z : rd_pk T e p 6 = 650428416 := by rw [← a, ← hq_z, w]
    rw [u] at hn_z
    have d5_z : rd_x T e (p + 5) = 0 := by omega
    have d4_z : rd_x T e (p + 4) = 0 := by omega
    have d3_z : rd_x T e (p + 3) = 16 := by omega
    have d2_z : rd_x T e (p + 2) = 9 := by omega
    have d1_z : rd_x T e (p + 1) = 12 := by omega
    have d0_z : rd_x T e (p + 0) = 19 := by omega
    refine ⟨by show p + 4 = e; omega, fun j hj_z => ?_⟩
    have hj_z : j < 4 := hj_z
    match j, hj_z with
    | 0, _ =>
      show ab_words 32 = T (p + 0)
      have z : (ab_words 32).toInt = 115 := by decide
      exact rt_i32 (by omega)
    | 1, _ =>
      show ab_words 33 = T (p + 1)
      have z : (ab_words 33).toInt = 108 := by decide
      exact rt_i32 (by omega)
    | 2, _ =>
      show ab_words 34 = T (p + 2)
      have z : (ab_words 34).toInt = 105 := by decide
      exact rt_i32 (by omega)
    | 3, _ =>
      show ab_words 35 = T (p + 3)
      have z : (ab_words 35).toInt = 112 := by decide
      exact rt_i32 (by omega)
  · intro hq_z
    have hl_z : p + 4 = e := hq_z.1
    have c0_z : ab_words 32 = T (p + 0) := hq_z.2 0 (by decide)
    have z0_z : (ab_words 32).toInt = 115 := by decide
    rw [c0_z] at z0_z
    have c1_z : ab_words 33 = T (p + 1) := hq_z.2 1 (by decide)
    have z1_z : (ab_words 33).toInt = 108 := by decide
    rw [c1_z] at z1_z
    have c2_z : ab_words 34 = T (p + 2) := hq_z.2 2 (by decide)
    have z2_z : (ab_words 34).toInt = 105 := by decide
    rw [c2_z] at z2_z
    have c3_z : ab_words 35 = T (p + 3) := hq_z.2 3 (by decide)
    have z3_z : (ab_words 35).toInt = 112 := by decide
    rw [c3_z] at z3_z
    apply rt_i32
    rw [a, u, w]
    omega
theorem rt_wx7 {T : Nat → Int32} {p e : Nat} (hs_z : ∀ q, p ≤ q → q < e → rd_sm (T q) = true) (hpe : p ≤ e) (h6_z : e ≤ p + 6) : rt_w 7 = rt_mp T p e 6 ↔ rt_is T p e 7 := by
  obtain ⟨a, -⟩ := rt_mpx hs_z 6 (Nat.le_refl _)
  have u : rd_pk T e p 6 = 32 * (32 * (32 * (32 * (32 * (32 * 0 + rd_x T e (p + 0)) + rd_x T e (p + 1)) + rd_x T e (p + 2)) + rd_x T e (p + 3)) + rd_x T e (p + 4)) + rd_x T e (p + 5) := rfl
  have w : (rt_w 7).toInt = 642945024 := by decide
  have x0_z : (p + 0 < e ∧ rd_x T e (p + 0) = (T (p + 0)).toInt - 96 ∧ 97 ≤ (T (p + 0)).toInt ∧ (T (p + 0)).toInt ≤ 122) ∨ (¬ p + 0 < e ∧ rd_x T e (p + 0) = 0) := by
    by_cases q : p + 0 < e
    · have := rd_sm_iff.mp (hs_z (p + 0) (by omega) q)
      exact Or.inl ⟨q, if_pos q, this⟩
    · exact Or.inr ⟨q, if_neg q⟩
  have x1_z : (p + 1 < e ∧ rd_x T e (p + 1) = (T (p + 1)).toInt - 96 ∧ 97 ≤ (T (p + 1)).toInt ∧ (T (p + 1)).toInt ≤ 122) ∨ (¬ p + 1 < e ∧ rd_x T e (p + 1) = 0) := by
    by_cases q : p + 1 < e
    · have := rd_sm_iff.mp (hs_z (p + 1) (by omega) q)
      exact Or.inl ⟨q, if_pos q, this⟩
    · exact Or.inr ⟨q, if_neg q⟩
  have x2_z : (p + 2 < e ∧ rd_x T e (p + 2) = (T (p + 2)).toInt - 96 ∧ 97 ≤ (T (p + 2)).toInt ∧ (T (p + 2)).toInt ≤ 122) ∨ (¬ p + 2 < e ∧ rd_x T e (p + 2) = 0) := by
    by_cases q : p + 2 < e
    · have := rd_sm_iff.mp (hs_z (p + 2) (by omega) q)
      exact Or.inl ⟨q, if_pos q, this⟩
    · exact Or.inr ⟨q, if_neg q⟩
  have x3_z : (p + 3 < e ∧ rd_x T e (p + 3) = (T (p + 3)).toInt - 96 ∧ 97 ≤ (T (p + 3)).toInt ∧ (T (p + 3)).toInt ≤ 122) ∨ (¬ p + 3 < e ∧ rd_x T e (p + 3) = 0) := by
    by_cases q : p + 3 < e
    · have := rd_sm_iff.mp (hs_z (p + 3) (by omega) q)
      exact Or.inl ⟨q, if_pos q, this⟩
    · exact Or.inr ⟨q, if_neg q⟩
  have x4_z : (p + 4 < e ∧ rd_x T e (p + 4) = (T (p + 4)).toInt - 96 ∧ 97 ≤ (T (p + 4)).toInt ∧ (T (p + 4)).toInt ≤ 122) ∨ (¬ p + 4 < e ∧ rd_x T e (p + 4) = 0) := by
    by_cases q : p + 4 < e
    · have := rd_sm_iff.mp (hs_z (p + 4) (by omega) q)
      exact Or.inl ⟨q, if_pos q, this⟩
    · exact Or.inr ⟨q, if_neg q⟩
  have x5_z : (p + 5 < e ∧ rd_x T e (p + 5) = (T (p + 5)).toInt - 96 ∧ 97 ≤ (T (p + 5)).toInt ∧ (T (p + 5)).toInt ≤ 122) ∨ (¬ p + 5 < e ∧ rd_x T e (p + 5) = 0) := by
    by_cases q : p + 5 < e
    · have := rd_sm_iff.mp (hs_z (p + 5) (by omega) q)
      exact Or.inl ⟨q, if_pos q, this⟩
    · exact Or.inr ⟨q, if_neg q⟩
  constructor
  · intro hq_z
    have hn_z : rd_pk T e p 6 = 642945024 := by rw [← a, ← hq_z, w]
    rw [u] at hn_z
    have d5_z : rd_x T e (p + 5) = 0 := by omega
    have d4_z : rd_x T e (p + 4) = 0 := by omega
    have d3_z : rd_x T e (p + 3) = 4 := by omega
    have d2_z : rd_x T e (p + 2) = 5 := by omega
    have d1_z : rd_x T e (p + 1) = 5 := by omega
    have d0_z : rd_x T e (p + 0) = 19 := by omega
    refine ⟨by show p + 4 = e; omega, fun j hj_z => ?_⟩
    have hj_z : j < 4 := hj_z
    match j, hj_z with
    | 0, _ =>
      show ab_words 37 = T (p + 0)
      have z : (ab_words 37).toInt = 115 := by decide
      exact rt_i32 (by omega)
    | 1, _ =>
      show ab_words 38 = T (p + 1)
      have z : (ab_words 38).toInt = 101 := by decide
      exact rt_i32 (by omega)
    | 2, _ =>
      show ab_words 39 = T (p + 2)
      have z : (ab_words 39).toInt = 101 := by decide
      exact rt_i32 (by omega)
    | 3, _ =>
      show ab_words 40 = T (p + 3)
      have z : (ab_words 40).toInt = 100 := by decide
      exact rt_i32 (by omega)
  · intro hq_z
    have hl_z : p + 4 = e := hq_z.1
    have c0_z : ab_words 37 = T (p + 0) := hq_z.2 0 (by decide)
    have z0_z : (ab_words 37).toInt = 115 := by decide
    rw [c0_z] at z0_z
    have c1_z : ab_words 38 = T (p + 1) := hq_z.2 1 (by decide)
    have z1_z : (ab_words 38).toInt = 101 := by decide
    rw [c1_z] at z1_z
    have c2_z : ab_words 39 = T (p + 2) := hq_z.2 2 (by decide)
    have z2_z : (ab_words 39).toInt = 101 := by decide
    rw [c2_z] at z2_z
    have c3_z : ab_words 40 = T (p + 3) := hq_z.2 3 (by decide)
    have z3_z : (ab_words 40).toInt = 100 := by decide
    rw [c3_z] at z3_z
    apply rt_i32
    rw [a, u, w]
    omega
theorem rt_wx8 {T : Nat → Int32} {p e : Nat} (hs_z : ∀ q, p ≤ q → q < e → rd_sm (T q) = true) (hpe : p ≤ e) (h6_z : e ≤ p + 6) : rt_w 8 = rt_mp T p e 6 ↔ rt_is T p e 8 := by
  obtain ⟨a, -⟩ := rt_mpx hs_z 6 (Nat.le_refl _)
  have u : rd_pk T e p 6 = 32 * (32 * (32 * (32 * (32 * (32 * 0 + rd_x T e (p + 0)) + rd_x T e (p + 1)) + rd_x T e (p + 2)) + rd_x T e (p + 3)) + rd_x T e (p + 4)) + rd_x T e (p + 5) := rfl
  have w : (rt_w 8).toInt = 404455424 := by decide
  have x0_z : (p + 0 < e ∧ rd_x T e (p + 0) = (T (p + 0)).toInt - 96 ∧ 97 ≤ (T (p + 0)).toInt ∧ (T (p + 0)).toInt ≤ 122) ∨ (¬ p + 0 < e ∧ rd_x T e (p + 0) = 0) := by
    by_cases q : p + 0 < e
    · have := rd_sm_iff.mp (hs_z (p + 0) (by omega) q)
      exact Or.inl ⟨q, if_pos q, this⟩
    · exact Or.inr ⟨q, if_neg q⟩
  have x1_z : (p + 1 < e ∧ rd_x T e (p + 1) = (T (p + 1)).toInt - 96 ∧ 97 ≤ (T (p + 1)).toInt ∧ (T (p + 1)).toInt ≤ 122) ∨ (¬ p + 1 < e ∧ rd_x T e (p + 1) = 0) := by
    by_cases q : p + 1 < e
    · have := rd_sm_iff.mp (hs_z (p + 1) (by omega) q)
      exact Or.inl ⟨q, if_pos q, this⟩
    · exact Or.inr ⟨q, if_neg q⟩
  have x2_z : (p + 2 < e ∧ rd_x T e (p + 2) = (T (p + 2)).toInt - 96 ∧ 97 ≤ (T (p + 2)).toInt ∧ (T (p + 2)).toInt ≤ 122) ∨ (¬ p + 2 < e ∧ rd_x T e (p + 2) = 0) := by
    by_cases q : p + 2 < e
    · have := rd_sm_iff.mp (hs_z (p + 2) (by omega) q)
      exact Or.inl ⟨q, if_pos q, this⟩
    · exact Or.inr ⟨q, if_neg q⟩
  have x3_z : (p + 3 < e ∧ rd_x T e (p + 3) = (T (p + 3)).toInt - 96 ∧ 97 ≤ (T (p + 3)).toInt ∧ (T (p + 3)).toInt ≤ 122) ∨ (¬ p + 3 < e ∧ rd_x T e (p + 3) = 0) := by
    by_cases q : p + 3 < e
    · have := rd_sm_iff.mp (hs_z (p + 3) (by omega) q)
      exact Or.inl ⟨q, if_pos q, this⟩
    · exact Or.inr ⟨q, if_neg q⟩
  have x4_z : (p + 4 < e ∧ rd_x T e (p + 4) = (T (p + 4)).toInt - 96 ∧ 97 ≤ (T (p + 4)).toInt ∧ (T (p + 4)).toInt ≤ 122) ∨ (¬ p + 4 < e ∧ rd_x T e (p + 4) = 0) := by
    by_cases q : p + 4 < e
    · have := rd_sm_iff.mp (hs_z (p + 4) (by omega) q)
      exact Or.inl ⟨q, if_pos q, this⟩
    · exact Or.inr ⟨q, if_neg q⟩
  have x5_z : (p + 5 < e ∧ rd_x T e (p + 5) = (T (p + 5)).toInt - 96 ∧ 97 ≤ (T (p + 5)).toInt ∧ (T (p + 5)).toInt ≤ 122) ∨ (¬ p + 5 < e ∧ rd_x T e (p + 5) = 0) := by
    by_cases q : p + 5 < e
    · have := rd_sm_iff.mp (hs_z (p + 5) (by omega) q)
      exact Or.inl ⟨q, if_pos q, this⟩
    · exact Or.inr ⟨q, if_neg q⟩
  constructor
  · intro hq_z
    have hn_z : rd_pk T e p 6 = 404455424 := by rw [← a, ← hq_z, w]
    rw [u] at hn_z
    have d5_z : rd_x T e (p + 5) = 0 := by omega
    have d4_z : rd_x T e (p + 4) = 0 := by omega
    have d3_z : rd_x T e (p + 3) = 0 := by omega
    have d2_z : rd_x T e (p + 2) = 23 := by omega
    have d1_z : rd_x T e (p + 1) = 1 := by omega
    have d0_z : rd_x T e (p + 0) = 12 := by omega
    refine ⟨by show p + 3 = e; omega, fun j hj_z => ?_⟩
    have hj_z : j < 3 := hj_z
    match j, hj_z with
    | 0, _ =>
      show ab_words 42 = T (p + 0)
      have z : (ab_words 42).toInt = 108 := by decide
      exact rt_i32 (by omega)
    | 1, _ =>
      show ab_words 43 = T (p + 1)
      have z : (ab_words 43).toInt = 97 := by decide
      exact rt_i32 (by omega)
    | 2, _ =>
      show ab_words 44 = T (p + 2)
      have z : (ab_words 44).toInt = 119 := by decide
      exact rt_i32 (by omega)
  · intro hq_z
    have hl_z : p + 3 = e := hq_z.1
    have c0_z : ab_words 42 = T (p + 0) := hq_z.2 0 (by decide)
    have z0_z : (ab_words 42).toInt = 108 := by decide
    rw [c0_z] at z0_z
    have c1_z : ab_words 43 = T (p + 1) := hq_z.2 1 (by decide)
    have z1_z : (ab_words 43).toInt = 97 := by decide
    rw [c1_z] at z1_z
    have c2_z : ab_words 44 = T (p + 2) := hq_z.2 2 (by decide)
    have z2_z : (ab_words 44).toInt = 119 := by decide
    rw [c2_z] at z2_z
    apply rt_i32
    rw [a, u, w]
    omega
theorem rt_wx9 {T : Nat → Int32} {p e : Nat} (hs_z : ∀ q, p ≤ q → q < e → rd_sm (T q) = true) (hpe : p ≤ e) (h6_z : e ≤ p + 6) : rt_w 9 = rt_mp T p e 6 ↔ rt_is T p e 9 := by
  obtain ⟨a, -⟩ := rt_mpx hs_z 6 (Nat.le_refl _)
  have u : rd_pk T e p 6 = 32 * (32 * (32 * (32 * (32 * (32 * 0 + rd_x T e (p + 0)) + rd_x T e (p + 1)) + rd_x T e (p + 2)) + rd_x T e (p + 3)) + rd_x T e (p + 4)) + rd_x T e (p + 5) := rfl
  have w : (rt_w 9).toInt = 419009536 := by decide
  have x0_z : (p + 0 < e ∧ rd_x T e (p + 0) = (T (p + 0)).toInt - 96 ∧ 97 ≤ (T (p + 0)).toInt ∧ (T (p + 0)).toInt ≤ 122) ∨ (¬ p + 0 < e ∧ rd_x T e (p + 0) = 0) := by
    by_cases q : p + 0 < e
    · have := rd_sm_iff.mp (hs_z (p + 0) (by omega) q)
      exact Or.inl ⟨q, if_pos q, this⟩
    · exact Or.inr ⟨q, if_neg q⟩
  have x1_z : (p + 1 < e ∧ rd_x T e (p + 1) = (T (p + 1)).toInt - 96 ∧ 97 ≤ (T (p + 1)).toInt ∧ (T (p + 1)).toInt ≤ 122) ∨ (¬ p + 1 < e ∧ rd_x T e (p + 1) = 0) := by
    by_cases q : p + 1 < e
    · have := rd_sm_iff.mp (hs_z (p + 1) (by omega) q)
      exact Or.inl ⟨q, if_pos q, this⟩
    · exact Or.inr ⟨q, if_neg q⟩
  have x2_z : (p + 2 < e ∧ rd_x T e (p + 2) = (T (p + 2)).toInt - 96 ∧ 97 ≤ (T (p + 2)).toInt ∧ (T (p + 2)).toInt ≤ 122) ∨ (¬ p + 2 < e ∧ rd_x T e (p + 2) = 0) := by
    by_cases q : p + 2 < e
    · have := rd_sm_iff.mp (hs_z (p + 2) (by omega) q)
      exact Or.inl ⟨q, if_pos q, this⟩
    · exact Or.inr ⟨q, if_neg q⟩
  have x3_z : (p + 3 < e ∧ rd_x T e (p + 3) = (T (p + 3)).toInt - 96 ∧ 97 ≤ (T (p + 3)).toInt ∧ (T (p + 3)).toInt ≤ 122) ∨ (¬ p + 3 < e ∧ rd_x T e (p + 3) = 0) := by
    by_cases q : p + 3 < e
    · have := rd_sm_iff.mp (hs_z (p + 3) (by omega) q)
      exact Or.inl ⟨q, if_pos q, this⟩
    · exact Or.inr ⟨q, if_neg q⟩
  have x4_z : (p + 4 < e ∧ rd_x T e (p + 4) = (T (p + 4)).toInt - 96 ∧ 97 ≤ (T (p + 4)).toInt ∧ (T (p + 4)).toInt ≤ 122) ∨ (¬ p + 4 < e ∧ rd_x T e (p + 4) = 0) := by
    by_cases q : p + 4 < e
    · have := rd_sm_iff.mp (hs_z (p + 4) (by omega) q)
      exact Or.inl ⟨q, if_pos q, this⟩
    · exact Or.inr ⟨q, if_neg q⟩
  have x5_z : (p + 5 < e ∧ rd_x T e (p + 5) = (T (p + 5)).toInt - 96 ∧ 97 ≤ (T (p + 5)).toInt ∧ (T (p + 5)).toInt ≤ 122) ∨ (¬ p + 5 < e ∧ rd_x T e (p + 5) = 0) := by
    by_cases q : p + 5 < e
    · have := rd_sm_iff.mp (hs_z (p + 5) (by omega) q)
      exact Or.inl ⟨q, if_pos q, this⟩
    · exact Or.inr ⟨q, if_neg q⟩
  constructor
  · intro hq_z
    have hn_z : rd_pk T e p 6 = 419009536 := by rw [← a, ← hq_z, w]
    rw [u] at hn_z
    have d5_z : rd_x T e (p + 5) = 0 := by omega
    have d4_z : rd_x T e (p + 4) = 0 := by omega
    have d3_z : rd_x T e (p + 3) = 5 := by omega
    have d2_z : rd_x T e (p + 2) = 19 := by omega
    have d1_z : rd_x T e (p + 1) = 15 := by omega
    have d0_z : rd_x T e (p + 0) = 12 := by omega
    refine ⟨by show p + 4 = e; omega, fun j hj_z => ?_⟩
    have hj_z : j < 4 := hj_z
    match j, hj_z with
    | 0, _ =>
      show ab_words 46 = T (p + 0)
      have z : (ab_words 46).toInt = 108 := by decide
      exact rt_i32 (by omega)
    | 1, _ =>
      show ab_words 47 = T (p + 1)
      have z : (ab_words 47).toInt = 111 := by decide
      exact rt_i32 (by omega)
    | 2, _ =>
      show ab_words 48 = T (p + 2)
      have z : (ab_words 48).toInt = 115 := by decide
      exact rt_i32 (by omega)
    | 3, _ =>
      show ab_words 49 = T (p + 3)
      have z : (ab_words 49).toInt = 101 := by decide
      exact rt_i32 (by omega)
  · intro hq_z
    have hl_z : p + 4 = e := hq_z.1
    have c0_z : ab_words 46 = T (p + 0) := hq_z.2 0 (by decide)
    have z0_z : (ab_words 46).toInt = 108 := by decide
    rw [c0_z] at z0_z
    have c1_z : ab_words 47 = T (p + 1) := hq_z.2 1 (by decide)
    have z1_z : (ab_words 47).toInt = 111 := by decide
    rw [c1_z] at z1_z
    have c2_z : ab_words 48 = T (p + 2) := hq_z.2 2 (by decide)
    have z2_z : (ab_words 48).toInt = 115 := by decide
    rw [c2_z] at z2_z
    have c3_z : ab_words 49 = T (p + 3) := hq_z.2 3 (by decide)
    have z3_z : (ab_words 49).toInt = 101 := by decide
    rw [c3_z] at z3_z
    apply rt_i32
    rw [a, u, w]
    omega
theorem rt_wx10 {T : Nat → Int32} {p e : Nat} (hs_z : ∀ q, p ≤ q → q < e → rd_sm (T q) = true) (hpe : p ≤ e) (h6_z : e ≤ p + 6) : rt_w 10 = rt_mp T p e 6 ↔ rt_is T p e 10 := by
  obtain ⟨a, -⟩ := rt_mpx hs_z 6 (Nat.le_refl _)
  have u : rd_pk T e p 6 = 32 * (32 * (32 * (32 * (32 * (32 * 0 + rd_x T e (p + 0)) + rd_x T e (p + 1)) + rd_x T e (p + 2)) + rd_x T e (p + 3)) + rd_x T e (p + 4)) + rd_x T e (p + 5) := rfl
  have w : (rt_w 10).toInt = 211169280 := by decide
  have x0_z : (p + 0 < e ∧ rd_x T e (p + 0) = (T (p + 0)).toInt - 96 ∧ 97 ≤ (T (p + 0)).toInt ∧ (T (p + 0)).toInt ≤ 122) ∨ (¬ p + 0 < e ∧ rd_x T e (p + 0) = 0) := by
    by_cases q : p + 0 < e
    · have := rd_sm_iff.mp (hs_z (p + 0) (by omega) q)
      exact Or.inl ⟨q, if_pos q, this⟩
    · exact Or.inr ⟨q, if_neg q⟩
  have x1_z : (p + 1 < e ∧ rd_x T e (p + 1) = (T (p + 1)).toInt - 96 ∧ 97 ≤ (T (p + 1)).toInt ∧ (T (p + 1)).toInt ≤ 122) ∨ (¬ p + 1 < e ∧ rd_x T e (p + 1) = 0) := by
    by_cases q : p + 1 < e
    · have := rd_sm_iff.mp (hs_z (p + 1) (by omega) q)
      exact Or.inl ⟨q, if_pos q, this⟩
    · exact Or.inr ⟨q, if_neg q⟩
  have x2_z : (p + 2 < e ∧ rd_x T e (p + 2) = (T (p + 2)).toInt - 96 ∧ 97 ≤ (T (p + 2)).toInt ∧ (T (p + 2)).toInt ≤ 122) ∨ (¬ p + 2 < e ∧ rd_x T e (p + 2) = 0) := by
    by_cases q : p + 2 < e
    · have := rd_sm_iff.mp (hs_z (p + 2) (by omega) q)
      exact Or.inl ⟨q, if_pos q, this⟩
    · exact Or.inr ⟨q, if_neg q⟩
  have x3_z : (p + 3 < e ∧ rd_x T e (p + 3) = (T (p + 3)).toInt - 96 ∧ 97 ≤ (T (p + 3)).toInt ∧ (T (p + 3)).toInt ≤ 122) ∨ (¬ p + 3 < e ∧ rd_x T e (p + 3) = 0) := by
    by_cases q : p + 3 < e
    · have := rd_sm_iff.mp (hs_z (p + 3) (by omega) q)
      exact Or.inl ⟨q, if_pos q, this⟩
    · exact Or.inr ⟨q, if_neg q⟩
  have x4_z : (p + 4 < e ∧ rd_x T e (p + 4) = (T (p + 4)).toInt - 96 ∧ 97 ≤ (T (p + 4)).toInt ∧ (T (p + 4)).toInt ≤ 122) ∨ (¬ p + 4 < e ∧ rd_x T e (p + 4) = 0) := by
    by_cases q : p + 4 < e
    · have := rd_sm_iff.mp (hs_z (p + 4) (by omega) q)
      exact Or.inl ⟨q, if_pos q, this⟩
    · exact Or.inr ⟨q, if_neg q⟩
  have x5_z : (p + 5 < e ∧ rd_x T e (p + 5) = (T (p + 5)).toInt - 96 ∧ 97 ≤ (T (p + 5)).toInt ∧ (T (p + 5)).toInt ≤ 122) ∨ (¬ p + 5 < e ∧ rd_x T e (p + 5) = 0) := by
    by_cases q : p + 5 < e
    · have := rd_sm_iff.mp (hs_z (p + 5) (by omega) q)
      exact Or.inl ⟨q, if_pos q, this⟩
    · exact Or.inr ⟨q, if_neg q⟩
  constructor
  · intro hq_z
    have hn_z : rd_pk T e p 6 = 211169280 := by rw [← a, ← hq_z, w]
    rw [u] at hn_z
    have d5_z : rd_x T e (p + 5) = 0 := by omega
    have d4_z : rd_x T e (p + 4) = 0 := by omega
    have d3_z : rd_x T e (p + 3) = 12 := by omega
    have d2_z : rd_x T e (p + 2) = 12 := by omega
    have d1_z : rd_x T e (p + 1) = 9 := by omega
    have d0_z : rd_x T e (p + 0) = 6 := by omega
    refine ⟨by show p + 4 = e; omega, fun j hj_z => ?_⟩
    have hj_z : j < 4 := hj_z
    match j, hj_z with
    | 0, _ =>
      show ab_words 51 = T (p + 0)
      have z : (ab_words 51).toInt = 102 := by decide
      exact rt_i32 (by omega)
    | 1, _ =>
      show ab_words 52 = T (p + 1)
      have z : (ab_words 52).toInt = 105 := by decide
      exact rt_i32 (by omega)
    | 2, _ =>
      show ab_words 53 = T (p + 2)
      have z : (ab_words 53).toInt = 108 := by decide
      exact rt_i32 (by omega)
    | 3, _ =>
      show ab_words 54 = T (p + 3)
      have z : (ab_words 54).toInt = 108 := by decide
      exact rt_i32 (by omega)
  · intro hq_z
    have hl_z : p + 4 = e := hq_z.1
    have c0_z : ab_words 51 = T (p + 0) := hq_z.2 0 (by decide)
    have z0_z : (ab_words 51).toInt = 102 := by decide
    rw [c0_z] at z0_z
    have c1_z : ab_words 52 = T (p + 1) := hq_z.2 1 (by decide)
    have z1_z : (ab_words 52).toInt = 105 := by decide
    rw [c1_z] at z1_z
    have c2_z : ab_words 53 = T (p + 2) := hq_z.2 2 (by decide)
    have z2_z : (ab_words 53).toInt = 108 := by decide
    rw [c2_z] at z2_z
    have c3_z : ab_words 54 = T (p + 3) := hq_z.2 3 (by decide)
    have z3_z : (ab_words 54).toInt = 108 := by decide
    rw [c3_z] at z3_z
    apply rt_i32
    rw [a, u, w]
    omega
theorem rt_wx11 {T : Nat → Int32} {p e : Nat} (hs_z : ∀ q, p ≤ q → q < e → rd_sm (T q) = true) (hpe : p ≤ e) (h6_z : e ≤ p + 6) : rt_w 11 = rt_mp T p e 6 ↔ rt_is T p e 11 := by
  obtain ⟨a, -⟩ := rt_mpx hs_z 6 (Nat.le_refl _)
  have u : rd_pk T e p 6 = 32 * (32 * (32 * (32 * (32 * (32 * 0 + rd_x T e (p + 0)) + rd_x T e (p + 1)) + rd_x T e (p + 2)) + rd_x T e (p + 3)) + rd_x T e (p + 4)) + rd_x T e (p + 5) := rfl
  have w : (rt_w 11).toInt = 418418688 := by decide
  have x0_z : (p + 0 < e ∧ rd_x T e (p + 0) = (T (p + 0)).toInt - 96 ∧ 97 ≤ (T (p + 0)).toInt ∧ (T (p + 0)).toInt ≤ 122) ∨ (¬ p + 0 < e ∧ rd_x T e (p + 0) = 0) := by
    by_cases q : p + 0 < e
    · have := rd_sm_iff.mp (hs_z (p + 0) (by omega) q)
      exact Or.inl ⟨q, if_pos q, this⟩
    · exact Or.inr ⟨q, if_neg q⟩
  have x1_z : (p + 1 < e ∧ rd_x T e (p + 1) = (T (p + 1)).toInt - 96 ∧ 97 ≤ (T (p + 1)).toInt ∧ (T (p + 1)).toInt ≤ 122) ∨ (¬ p + 1 < e ∧ rd_x T e (p + 1) = 0) := by
    by_cases q : p + 1 < e
    · have := rd_sm_iff.mp (hs_z (p + 1) (by omega) q)
      exact Or.inl ⟨q, if_pos q, this⟩
    · exact Or.inr ⟨q, if_neg q⟩
  have x2_z : (p + 2 < e ∧ rd_x T e (p + 2) = (T (p + 2)).toInt - 96 ∧ 97 ≤ (T (p + 2)).toInt ∧ (T (p + 2)).toInt ≤ 122) ∨ (¬ p + 2 < e ∧ rd_x T e (p + 2) = 0) := by
    by_cases q : p + 2 < e
    · have := rd_sm_iff.mp (hs_z (p + 2) (by omega) q)
      exact Or.inl ⟨q, if_pos q, this⟩
    · exact Or.inr ⟨q, if_neg q⟩
  have x3_z : (p + 3 < e ∧ rd_x T e (p + 3) = (T (p + 3)).toInt - 96 ∧ 97 ≤ (T (p + 3)).toInt ∧ (T (p + 3)).toInt ≤ 122) ∨ (¬ p + 3 < e ∧ rd_x T e (p + 3) = 0) := by
    by_cases q : p + 3 < e
    · have := rd_sm_iff.mp (hs_z (p + 3) (by omega) q)
      exact Or.inl ⟨q, if_pos q, this⟩
    · exact Or.inr ⟨q, if_neg q⟩
  have x4_z : (p + 4 < e ∧ rd_x T e (p + 4) = (T (p + 4)).toInt - 96 ∧ 97 ≤ (T (p + 4)).toInt ∧ (T (p + 4)).toInt ≤ 122) ∨ (¬ p + 4 < e ∧ rd_x T e (p + 4) = 0) := by
    by_cases q : p + 4 < e
    · have := rd_sm_iff.mp (hs_z (p + 4) (by omega) q)
      exact Or.inl ⟨q, if_pos q, this⟩
    · exact Or.inr ⟨q, if_neg q⟩
  have x5_z : (p + 5 < e ∧ rd_x T e (p + 5) = (T (p + 5)).toInt - 96 ∧ 97 ≤ (T (p + 5)).toInt ∧ (T (p + 5)).toInt ≤ 122) ∨ (¬ p + 5 < e ∧ rd_x T e (p + 5) = 0) := by
    by_cases q : p + 5 < e
    · have := rd_sm_iff.mp (hs_z (p + 5) (by omega) q)
      exact Or.inl ⟨q, if_pos q, this⟩
    · exact Or.inr ⟨q, if_neg q⟩
  constructor
  · intro hq_z
    have hn_z : rd_pk T e p 6 = 418418688 := by rw [← a, ← hq_z, w]
    rw [u] at hn_z
    have d5_z : rd_x T e (p + 5) = 0 := by omega
    have d4_z : rd_x T e (p + 4) = 0 := by omega
    have d3_z : rd_x T e (p + 3) = 4 := by omega
    have d2_z : rd_x T e (p + 2) = 1 := by omega
    have d1_z : rd_x T e (p + 1) = 15 := by omega
    have d0_z : rd_x T e (p + 0) = 12 := by omega
    refine ⟨by show p + 4 = e; omega, fun j hj_z => ?_⟩
    have hj_z : j < 4 := hj_z
    match j, hj_z with
    | 0, _ =>
      show ab_words 56 = T (p + 0)
      have z : (ab_words 56).toInt = 108 := by decide
      exact rt_i32 (by omega)
    | 1, _ =>
      show ab_words 57 = T (p + 1)
      have z : (ab_words 57).toInt = 111 := by decide
      exact rt_i32 (by omega)
    | 2, _ =>
      show ab_words 58 = T (p + 2)
      have z : (ab_words 58).toInt = 97 := by decide
      exact rt_i32 (by omega)
    | 3, _ =>
      show ab_words 59 = T (p + 3)
      have z : (ab_words 59).toInt = 100 := by decide
      exact rt_i32 (by omega)
  · intro hq_z
    have hl_z : p + 4 = e := hq_z.1
    have c0_z : ab_words 56 = T (p + 0) := hq_z.2 0 (by decide)
    have z0_z : (ab_words 56).toInt = 108 := by decide
    rw [c0_z] at z0_z
    have c1_z : ab_words 57 = T (p + 1) := hq_z.2 1 (by decide)
    have z1_z : (ab_words 57).toInt = 111 := by decide
    rw [c1_z] at z1_z
    have c2_z : ab_words 58 = T (p + 2) := hq_z.2 2 (by decide)
    have z2_z : (ab_words 58).toInt = 97 := by decide
    rw [c2_z] at z2_z
    have c3_z : ab_words 59 = T (p + 3) := hq_z.2 3 (by decide)
    have z3_z : (ab_words 59).toInt = 100 := by decide
    rw [c3_z] at z3_z
    apply rt_i32
    rw [a, u, w]
    omega
theorem rt_wx12 {T : Nat → Int32} {p e : Nat} (hs_z : ∀ q, p ≤ q → q < e → rd_sm (T q) = true) (hpe : p ≤ e) (h6_z : e ≤ p + 6) : rt_w 12 = rt_mp T p e 6 ↔ rt_is T p e 15 := by
  obtain ⟨a, -⟩ := rt_mpx hs_z 6 (Nat.le_refl _)
  have u : rd_pk T e p 6 = 32 * (32 * (32 * (32 * (32 * (32 * 0 + rd_x T e (p + 0)) + rd_x T e (p + 1)) + rd_x T e (p + 2)) + rd_x T e (p + 3)) + rd_x T e (p + 4)) + rd_x T e (p + 5) := rfl
  have w : (rt_w 12).toInt = 223752192 := by decide
  have x0_z : (p + 0 < e ∧ rd_x T e (p + 0) = (T (p + 0)).toInt - 96 ∧ 97 ≤ (T (p + 0)).toInt ∧ (T (p + 0)).toInt ≤ 122) ∨ (¬ p + 0 < e ∧ rd_x T e (p + 0) = 0) := by
    by_cases q : p + 0 < e
    · have := rd_sm_iff.mp (hs_z (p + 0) (by omega) q)
      exact Or.inl ⟨q, if_pos q, this⟩
    · exact Or.inr ⟨q, if_neg q⟩
  have x1_z : (p + 1 < e ∧ rd_x T e (p + 1) = (T (p + 1)).toInt - 96 ∧ 97 ≤ (T (p + 1)).toInt ∧ (T (p + 1)).toInt ≤ 122) ∨ (¬ p + 1 < e ∧ rd_x T e (p + 1) = 0) := by
    by_cases q : p + 1 < e
    · have := rd_sm_iff.mp (hs_z (p + 1) (by omega) q)
      exact Or.inl ⟨q, if_pos q, this⟩
    · exact Or.inr ⟨q, if_neg q⟩
  have x2_z : (p + 2 < e ∧ rd_x T e (p + 2) = (T (p + 2)).toInt - 96 ∧ 97 ≤ (T (p + 2)).toInt ∧ (T (p + 2)).toInt ≤ 122) ∨ (¬ p + 2 < e ∧ rd_x T e (p + 2) = 0) := by
    by_cases q : p + 2 < e
    · have := rd_sm_iff.mp (hs_z (p + 2) (by omega) q)
      exact Or.inl ⟨q, if_pos q, this⟩
    · exact Or.inr ⟨q, if_neg q⟩
  have x3_z : (p + 3 < e ∧ rd_x T e (p + 3) = (T (p + 3)).toInt - 96 ∧ 97 ≤ (T (p + 3)).toInt ∧ (T (p + 3)).toInt ≤ 122) ∨ (¬ p + 3 < e ∧ rd_x T e (p + 3) = 0) := by
    by_cases q : p + 3 < e
    · have := rd_sm_iff.mp (hs_z (p + 3) (by omega) q)
      exact Or.inl ⟨q, if_pos q, this⟩
    · exact Or.inr ⟨q, if_neg q⟩
  have x4_z : (p + 4 < e ∧ rd_x T e (p + 4) = (T (p + 4)).toInt - 96 ∧ 97 ≤ (T (p + 4)).toInt ∧ (T (p + 4)).toInt ≤ 122) ∨ (¬ p + 4 < e ∧ rd_x T e (p + 4) = 0) := by
    by_cases q : p + 4 < e
    · have := rd_sm_iff.mp (hs_z (p + 4) (by omega) q)
      exact Or.inl ⟨q, if_pos q, this⟩
    · exact Or.inr ⟨q, if_neg q⟩
  have x5_z : (p + 5 < e ∧ rd_x T e (p + 5) = (T (p + 5)).toInt - 96 ∧ 97 ≤ (T (p + 5)).toInt ∧ (T (p + 5)).toInt ≤ 122) ∨ (¬ p + 5 < e ∧ rd_x T e (p + 5) = 0) := by
    by_cases q : p + 5 < e
    · have := rd_sm_iff.mp (hs_z (p + 5) (by omega) q)
      exact Or.inl ⟨q, if_pos q, this⟩
    · exact Or.inr ⟨q, if_neg q⟩
  constructor
  · intro hq_z
    have hn_z : rd_pk T e p 6 = 223752192 := by rw [← a, ← hq_z, w]
    rw [u] at hn_z
    have d5_z : rd_x T e (p + 5) = 0 := by omega
    have d4_z : rd_x T e (p + 4) = 0 := by omega
    have d3_z : rd_x T e (p + 3) = 12 := by omega
    have d2_z : rd_x T e (p + 2) = 12 := by omega
    have d1_z : rd_x T e (p + 1) = 21 := by omega
    have d0_z : rd_x T e (p + 0) = 6 := by omega
    refine ⟨by show p + 4 = e; omega, fun j hj_z => ?_⟩
    have hj_z : j < 4 := hj_z
    match j, hj_z with
    | 0, _ =>
      show ab_words 72 = T (p + 0)
      have z : (ab_words 72).toInt = 102 := by decide
      exact rt_i32 (by omega)
    | 1, _ =>
      show ab_words 73 = T (p + 1)
      have z : (ab_words 73).toInt = 117 := by decide
      exact rt_i32 (by omega)
    | 2, _ =>
      show ab_words 74 = T (p + 2)
      have z : (ab_words 74).toInt = 108 := by decide
      exact rt_i32 (by omega)
    | 3, _ =>
      show ab_words 75 = T (p + 3)
      have z : (ab_words 75).toInt = 108 := by decide
      exact rt_i32 (by omega)
  · intro hq_z
    have hl_z : p + 4 = e := hq_z.1
    have c0_z : ab_words 72 = T (p + 0) := hq_z.2 0 (by decide)
    have z0_z : (ab_words 72).toInt = 102 := by decide
    rw [c0_z] at z0_z
    have c1_z : ab_words 73 = T (p + 1) := hq_z.2 1 (by decide)
    have z1_z : (ab_words 73).toInt = 117 := by decide
    rw [c1_z] at z1_z
    have c2_z : ab_words 74 = T (p + 2) := hq_z.2 2 (by decide)
    have z2_z : (ab_words 74).toInt = 108 := by decide
    rw [c2_z] at z2_z
    have c3_z : ab_words 75 = T (p + 3) := hq_z.2 3 (by decide)
    have z3_z : (ab_words 75).toInt = 108 := by decide
    rw [c3_z] at z3_z
    apply rt_i32
    rw [a, u, w]
    omega
theorem rt_wx13 {T : Nat → Int32} {p e : Nat} (hs_z : ∀ q, p ≤ q → q < e → rd_sm (T q) = true) (hpe : p ≤ e) (h6_z : e ≤ p + 6) : rt_w 13 = rt_mp T p e 6 ↔ rt_is T p e 16 := by
  obtain ⟨a, -⟩ := rt_mpx hs_z 6 (Nat.le_refl _)
  have u : rd_pk T e p 6 = 32 * (32 * (32 * (32 * (32 * (32 * 0 + rd_x T e (p + 0)) + rd_x T e (p + 1)) + rd_x T e (p + 2)) + rd_x T e (p + 3)) + rd_x T e (p + 4)) + rd_x T e (p + 5) := rfl
  have w : (rt_w 13).toInt = 620213248 := by decide
  have x0_z : (p + 0 < e ∧ rd_x T e (p + 0) = (T (p + 0)).toInt - 96 ∧ 97 ≤ (T (p + 0)).toInt ∧ (T (p + 0)).toInt ≤ 122) ∨ (¬ p + 0 < e ∧ rd_x T e (p + 0) = 0) := by
    by_cases q : p + 0 < e
    · have := rd_sm_iff.mp (hs_z (p + 0) (by omega) q)
      exact Or.inl ⟨q, if_pos q, this⟩
    · exact Or.inr ⟨q, if_neg q⟩
  have x1_z : (p + 1 < e ∧ rd_x T e (p + 1) = (T (p + 1)).toInt - 96 ∧ 97 ≤ (T (p + 1)).toInt ∧ (T (p + 1)).toInt ≤ 122) ∨ (¬ p + 1 < e ∧ rd_x T e (p + 1) = 0) := by
    by_cases q : p + 1 < e
    · have := rd_sm_iff.mp (hs_z (p + 1) (by omega) q)
      exact Or.inl ⟨q, if_pos q, this⟩
    · exact Or.inr ⟨q, if_neg q⟩
  have x2_z : (p + 2 < e ∧ rd_x T e (p + 2) = (T (p + 2)).toInt - 96 ∧ 97 ≤ (T (p + 2)).toInt ∧ (T (p + 2)).toInt ≤ 122) ∨ (¬ p + 2 < e ∧ rd_x T e (p + 2) = 0) := by
    by_cases q : p + 2 < e
    · have := rd_sm_iff.mp (hs_z (p + 2) (by omega) q)
      exact Or.inl ⟨q, if_pos q, this⟩
    · exact Or.inr ⟨q, if_neg q⟩
  have x3_z : (p + 3 < e ∧ rd_x T e (p + 3) = (T (p + 3)).toInt - 96 ∧ 97 ≤ (T (p + 3)).toInt ∧ (T (p + 3)).toInt ≤ 122) ∨ (¬ p + 3 < e ∧ rd_x T e (p + 3) = 0) := by
    by_cases q : p + 3 < e
    · have := rd_sm_iff.mp (hs_z (p + 3) (by omega) q)
      exact Or.inl ⟨q, if_pos q, this⟩
    · exact Or.inr ⟨q, if_neg q⟩
  have x4_z : (p + 4 < e ∧ rd_x T e (p + 4) = (T (p + 4)).toInt - 96 ∧ 97 ≤ (T (p + 4)).toInt ∧ (T (p + 4)).toInt ≤ 122) ∨ (¬ p + 4 < e ∧ rd_x T e (p + 4) = 0) := by
    by_cases q : p + 4 < e
    · have := rd_sm_iff.mp (hs_z (p + 4) (by omega) q)
      exact Or.inl ⟨q, if_pos q, this⟩
    · exact Or.inr ⟨q, if_neg q⟩
  have x5_z : (p + 5 < e ∧ rd_x T e (p + 5) = (T (p + 5)).toInt - 96 ∧ 97 ≤ (T (p + 5)).toInt ∧ (T (p + 5)).toInt ≤ 122) ∨ (¬ p + 5 < e ∧ rd_x T e (p + 5) = 0) := by
    by_cases q : p + 5 < e
    · have := rd_sm_iff.mp (hs_z (p + 5) (by omega) q)
      exact Or.inl ⟨q, if_pos q, this⟩
    · exact Or.inr ⟨q, if_neg q⟩
  constructor
  · intro hq_z
    have hn_z : rd_pk T e p 6 = 620213248 := by rw [← a, ← hq_z, w]
    rw [u] at hn_z
    have d5_z : rd_x T e (p + 5) = 0 := by omega
    have d4_z : rd_x T e (p + 4) = 0 := by omega
    have d3_z : rd_x T e (p + 3) = 13 := by omega
    have d2_z : rd_x T e (p + 2) = 15 := by omega
    have d1_z : rd_x T e (p + 1) = 15 := by omega
    have d0_z : rd_x T e (p + 0) = 18 := by omega
    refine ⟨by show p + 4 = e; omega, fun j hj_z => ?_⟩
    have hj_z : j < 4 := hj_z
    match j, hj_z with
    | 0, _ =>
      show ab_words 77 = T (p + 0)
      have z : (ab_words 77).toInt = 114 := by decide
      exact rt_i32 (by omega)
    | 1, _ =>
      show ab_words 78 = T (p + 1)
      have z : (ab_words 78).toInt = 111 := by decide
      exact rt_i32 (by omega)
    | 2, _ =>
      show ab_words 79 = T (p + 2)
      have z : (ab_words 79).toInt = 111 := by decide
      exact rt_i32 (by omega)
    | 3, _ =>
      show ab_words 80 = T (p + 3)
      have z : (ab_words 80).toInt = 109 := by decide
      exact rt_i32 (by omega)
  · intro hq_z
    have hl_z : p + 4 = e := hq_z.1
    have c0_z : ab_words 77 = T (p + 0) := hq_z.2 0 (by decide)
    have z0_z : (ab_words 77).toInt = 114 := by decide
    rw [c0_z] at z0_z
    have c1_z : ab_words 78 = T (p + 1) := hq_z.2 1 (by decide)
    have z1_z : (ab_words 78).toInt = 111 := by decide
    rw [c1_z] at z1_z
    have c2_z : ab_words 79 = T (p + 2) := hq_z.2 2 (by decide)
    have z2_z : (ab_words 79).toInt = 111 := by decide
    rw [c2_z] at z2_z
    have c3_z : ab_words 80 = T (p + 3) := hq_z.2 3 (by decide)
    have z3_z : (ab_words 80).toInt = 109 := by decide
    rw [c3_z] at z3_z
    apply rt_i32
    rw [a, u, w]
    omega
theorem rt_wx14 {T : Nat → Int32} {p e : Nat} (hs_z : ∀ q, p ≤ q → q < e → rd_sm (T q) = true) (hpe : p ≤ e) (h6_z : e ≤ p + 6) : rt_w 14 = rt_mp T p e 6 ↔ rt_is T p e 17 := by
  obtain ⟨a, -⟩ := rt_mpx hs_z 6 (Nat.le_refl _)
  have u : rd_pk T e p 6 = 32 * (32 * (32 * (32 * (32 * (32 * 0 + rd_x T e (p + 0)) + rd_x T e (p + 1)) + rd_x T e (p + 2)) + rd_x T e (p + 3)) + rd_x T e (p + 4)) + rd_x T e (p + 5) := rfl
  have w : (rt_w 14).toInt = 520271872 := by decide
  have x0_z : (p + 0 < e ∧ rd_x T e (p + 0) = (T (p + 0)).toInt - 96 ∧ 97 ≤ (T (p + 0)).toInt ∧ (T (p + 0)).toInt ≤ 122) ∨ (¬ p + 0 < e ∧ rd_x T e (p + 0) = 0) := by
    by_cases q : p + 0 < e
    · have := rd_sm_iff.mp (hs_z (p + 0) (by omega) q)
      exact Or.inl ⟨q, if_pos q, this⟩
    · exact Or.inr ⟨q, if_neg q⟩
  have x1_z : (p + 1 < e ∧ rd_x T e (p + 1) = (T (p + 1)).toInt - 96 ∧ 97 ≤ (T (p + 1)).toInt ∧ (T (p + 1)).toInt ≤ 122) ∨ (¬ p + 1 < e ∧ rd_x T e (p + 1) = 0) := by
    by_cases q : p + 1 < e
    · have := rd_sm_iff.mp (hs_z (p + 1) (by omega) q)
      exact Or.inl ⟨q, if_pos q, this⟩
    · exact Or.inr ⟨q, if_neg q⟩
  have x2_z : (p + 2 < e ∧ rd_x T e (p + 2) = (T (p + 2)).toInt - 96 ∧ 97 ≤ (T (p + 2)).toInt ∧ (T (p + 2)).toInt ≤ 122) ∨ (¬ p + 2 < e ∧ rd_x T e (p + 2) = 0) := by
    by_cases q : p + 2 < e
    · have := rd_sm_iff.mp (hs_z (p + 2) (by omega) q)
      exact Or.inl ⟨q, if_pos q, this⟩
    · exact Or.inr ⟨q, if_neg q⟩
  have x3_z : (p + 3 < e ∧ rd_x T e (p + 3) = (T (p + 3)).toInt - 96 ∧ 97 ≤ (T (p + 3)).toInt ∧ (T (p + 3)).toInt ≤ 122) ∨ (¬ p + 3 < e ∧ rd_x T e (p + 3) = 0) := by
    by_cases q : p + 3 < e
    · have := rd_sm_iff.mp (hs_z (p + 3) (by omega) q)
      exact Or.inl ⟨q, if_pos q, this⟩
    · exact Or.inr ⟨q, if_neg q⟩
  have x4_z : (p + 4 < e ∧ rd_x T e (p + 4) = (T (p + 4)).toInt - 96 ∧ 97 ≤ (T (p + 4)).toInt ∧ (T (p + 4)).toInt ≤ 122) ∨ (¬ p + 4 < e ∧ rd_x T e (p + 4) = 0) := by
    by_cases q : p + 4 < e
    · have := rd_sm_iff.mp (hs_z (p + 4) (by omega) q)
      exact Or.inl ⟨q, if_pos q, this⟩
    · exact Or.inr ⟨q, if_neg q⟩
  have x5_z : (p + 5 < e ∧ rd_x T e (p + 5) = (T (p + 5)).toInt - 96 ∧ 97 ≤ (T (p + 5)).toInt ∧ (T (p + 5)).toInt ≤ 122) ∨ (¬ p + 5 < e ∧ rd_x T e (p + 5) = 0) := by
    by_cases q : p + 5 < e
    · have := rd_sm_iff.mp (hs_z (p + 5) (by omega) q)
      exact Or.inl ⟨q, if_pos q, this⟩
    · exact Or.inr ⟨q, if_neg q⟩
  constructor
  · intro hq_z
    have hn_z : rd_pk T e p 6 = 520271872 := by rw [← a, ← hq_z, w]
    rw [u] at hn_z
    have d5_z : rd_x T e (p + 5) = 0 := by omega
    have d4_z : rd_x T e (p + 4) = 0 := by omega
    have d3_z : rd_x T e (p + 3) = 14 := by omega
    have d2_z : rd_x T e (p + 2) = 5 := by omega
    have d1_z : rd_x T e (p + 1) = 16 := by omega
    have d0_z : rd_x T e (p + 0) = 15 := by omega
    refine ⟨by show p + 4 = e; omega, fun j hj_z => ?_⟩
    have hj_z : j < 4 := hj_z
    match j, hj_z with
    | 0, _ =>
      show ab_words 82 = T (p + 0)
      have z : (ab_words 82).toInt = 111 := by decide
      exact rt_i32 (by omega)
    | 1, _ =>
      show ab_words 83 = T (p + 1)
      have z : (ab_words 83).toInt = 112 := by decide
      exact rt_i32 (by omega)
    | 2, _ =>
      show ab_words 84 = T (p + 2)
      have z : (ab_words 84).toInt = 101 := by decide
      exact rt_i32 (by omega)
    | 3, _ =>
      show ab_words 85 = T (p + 3)
      have z : (ab_words 85).toInt = 110 := by decide
      exact rt_i32 (by omega)
  · intro hq_z
    have hl_z : p + 4 = e := hq_z.1
    have c0_z : ab_words 82 = T (p + 0) := hq_z.2 0 (by decide)
    have z0_z : (ab_words 82).toInt = 111 := by decide
    rw [c0_z] at z0_z
    have c1_z : ab_words 83 = T (p + 1) := hq_z.2 1 (by decide)
    have z1_z : (ab_words 83).toInt = 112 := by decide
    rw [c1_z] at z1_z
    have c2_z : ab_words 84 = T (p + 2) := hq_z.2 2 (by decide)
    have z2_z : (ab_words 84).toInt = 101 := by decide
    rw [c2_z] at z2_z
    have c3_z : ab_words 85 = T (p + 3) := hq_z.2 3 (by decide)
    have z3_z : (ab_words 85).toInt = 110 := by decide
    rw [c3_z] at z3_z
    apply rt_i32
    rw [a, u, w]
    omega
theorem rt_wx15 {T : Nat → Int32} {p e : Nat} (hs_z : ∀ q, p ≤ q → q < e → rd_sm (T q) = true) (hpe : p ≤ e) (h6_z : e ≤ p + 6) : rt_w 15 = rt_mp T p e 6 ↔ rt_is T p e 18 := by
  obtain ⟨a, -⟩ := rt_mpx hs_z 6 (Nat.le_refl _)
  have u : rd_pk T e p 6 = 32 * (32 * (32 * (32 * (32 * (32 * 0 + rd_x T e (p + 0)) + rd_x T e (p + 1)) + rd_x T e (p + 2)) + rd_x T e (p + 3)) + rd_x T e (p + 4)) + rd_x T e (p + 5) := rfl
  have w : (rt_w 15).toInt = 642891204 := by decide
  have x0_z : (p + 0 < e ∧ rd_x T e (p + 0) = (T (p + 0)).toInt - 96 ∧ 97 ≤ (T (p + 0)).toInt ∧ (T (p + 0)).toInt ≤ 122) ∨ (¬ p + 0 < e ∧ rd_x T e (p + 0) = 0) := by
    by_cases q : p + 0 < e
    · have := rd_sm_iff.mp (hs_z (p + 0) (by omega) q)
      exact Or.inl ⟨q, if_pos q, this⟩
    · exact Or.inr ⟨q, if_neg q⟩
  have x1_z : (p + 1 < e ∧ rd_x T e (p + 1) = (T (p + 1)).toInt - 96 ∧ 97 ≤ (T (p + 1)).toInt ∧ (T (p + 1)).toInt ≤ 122) ∨ (¬ p + 1 < e ∧ rd_x T e (p + 1) = 0) := by
    by_cases q : p + 1 < e
    · have := rd_sm_iff.mp (hs_z (p + 1) (by omega) q)
      exact Or.inl ⟨q, if_pos q, this⟩
    · exact Or.inr ⟨q, if_neg q⟩
  have x2_z : (p + 2 < e ∧ rd_x T e (p + 2) = (T (p + 2)).toInt - 96 ∧ 97 ≤ (T (p + 2)).toInt ∧ (T (p + 2)).toInt ≤ 122) ∨ (¬ p + 2 < e ∧ rd_x T e (p + 2) = 0) := by
    by_cases q : p + 2 < e
    · have := rd_sm_iff.mp (hs_z (p + 2) (by omega) q)
      exact Or.inl ⟨q, if_pos q, this⟩
    · exact Or.inr ⟨q, if_neg q⟩
  have x3_z : (p + 3 < e ∧ rd_x T e (p + 3) = (T (p + 3)).toInt - 96 ∧ 97 ≤ (T (p + 3)).toInt ∧ (T (p + 3)).toInt ≤ 122) ∨ (¬ p + 3 < e ∧ rd_x T e (p + 3) = 0) := by
    by_cases q : p + 3 < e
    · have := rd_sm_iff.mp (hs_z (p + 3) (by omega) q)
      exact Or.inl ⟨q, if_pos q, this⟩
    · exact Or.inr ⟨q, if_neg q⟩
  have x4_z : (p + 4 < e ∧ rd_x T e (p + 4) = (T (p + 4)).toInt - 96 ∧ 97 ≤ (T (p + 4)).toInt ∧ (T (p + 4)).toInt ≤ 122) ∨ (¬ p + 4 < e ∧ rd_x T e (p + 4) = 0) := by
    by_cases q : p + 4 < e
    · have := rd_sm_iff.mp (hs_z (p + 4) (by omega) q)
      exact Or.inl ⟨q, if_pos q, this⟩
    · exact Or.inr ⟨q, if_neg q⟩
  have x5_z : (p + 5 < e ∧ rd_x T e (p + 5) = (T (p + 5)).toInt - 96 ∧ 97 ≤ (T (p + 5)).toInt ∧ (T (p + 5)).toInt ≤ 122) ∨ (¬ p + 5 < e ∧ rd_x T e (p + 5) = 0) := by
    by_cases q : p + 5 < e
    · have := rd_sm_iff.mp (hs_z (p + 5) (by omega) q)
      exact Or.inl ⟨q, if_pos q, this⟩
    · exact Or.inr ⟨q, if_neg q⟩
  constructor
  · intro hq_z
    have hn_z : rd_pk T e p 6 = 642891204 := by rw [← a, ← hq_z, w]
    rw [u] at hn_z
    have d5_z : rd_x T e (p + 5) = 4 := by omega
    have d4_z : rd_x T e (p + 4) = 14 := by omega
    have d3_z : rd_x T e (p + 3) = 15 := by omega
    have d2_z : rd_x T e (p + 2) = 3 := by omega
    have d1_z : rd_x T e (p + 1) = 5 := by omega
    have d0_z : rd_x T e (p + 0) = 19 := by omega
    refine ⟨by show p + 6 = e; omega, fun j hj_z => ?_⟩
    have hj_z : j < 6 := hj_z
    match j, hj_z with
    | 0, _ =>
      show ab_words 87 = T (p + 0)
      have z : (ab_words 87).toInt = 115 := by decide
      exact rt_i32 (by omega)
    | 1, _ =>
      show ab_words 88 = T (p + 1)
      have z : (ab_words 88).toInt = 101 := by decide
      exact rt_i32 (by omega)
    | 2, _ =>
      show ab_words 89 = T (p + 2)
      have z : (ab_words 89).toInt = 99 := by decide
      exact rt_i32 (by omega)
    | 3, _ =>
      show ab_words 90 = T (p + 3)
      have z : (ab_words 90).toInt = 111 := by decide
      exact rt_i32 (by omega)
    | 4, _ =>
      show ab_words 91 = T (p + 4)
      have z : (ab_words 91).toInt = 110 := by decide
      exact rt_i32 (by omega)
    | 5, _ =>
      show ab_words 92 = T (p + 5)
      have z : (ab_words 92).toInt = 100 := by decide
      exact rt_i32 (by omega)
  · intro hq_z
    have hl_z : p + 6 = e := hq_z.1
    have c0_z : ab_words 87 = T (p + 0) := hq_z.2 0 (by decide)
    have z0_z : (ab_words 87).toInt = 115 := by decide
    rw [c0_z] at z0_z
    have c1_z : ab_words 88 = T (p + 1) := hq_z.2 1 (by decide)
    have z1_z : (ab_words 88).toInt = 101 := by decide
    rw [c1_z] at z1_z
    have c2_z : ab_words 89 = T (p + 2) := hq_z.2 2 (by decide)
    have z2_z : (ab_words 89).toInt = 99 := by decide
    rw [c2_z] at z2_z
    have c3_z : ab_words 90 = T (p + 3) := hq_z.2 3 (by decide)
    have z3_z : (ab_words 90).toInt = 111 := by decide
    rw [c3_z] at z3_z
    have c4_z : ab_words 91 = T (p + 4) := hq_z.2 4 (by decide)
    have z4_z : (ab_words 91).toInt = 110 := by decide
    rw [c4_z] at z4_z
    have c5_z : ab_words 92 = T (p + 5) := hq_z.2 5 (by decide)
    have z5_z : (ab_words 92).toInt = 100 := by decide
    rw [c5_z] at z5_z
    apply rt_i32
    rw [a, u, w]
    omega
theorem rt_wx16 {T : Nat → Int32} {p e : Nat} (hs_z : ∀ q, p ≤ q → q < e → rd_sm (T q) = true) (hpe : p ≤ e) (h6_z : e ≤ p + 6) : rt_w 16 = rt_mp T p e 6 ↔ rt_is T p e 19 := by
  obtain ⟨a, -⟩ := rt_mpx hs_z 6 (Nat.le_refl _)
  have u : rd_pk T e p 6 = 32 * (32 * (32 * (32 * (32 * (32 * 0 + rd_x T e (p + 0)) + rd_x T e (p + 1)) + rd_x T e (p + 2)) + rd_x T e (p + 3)) + rd_x T e (p + 4)) + rd_x T e (p + 5) := rfl
  have w : (rt_w 16).toInt = 86148744 := by decide
  have x0_z : (p + 0 < e ∧ rd_x T e (p + 0) = (T (p + 0)).toInt - 96 ∧ 97 ≤ (T (p + 0)).toInt ∧ (T (p + 0)).toInt ≤ 122) ∨ (¬ p + 0 < e ∧ rd_x T e (p + 0) = 0) := by
    by_cases q : p + 0 < e
    · have := rd_sm_iff.mp (hs_z (p + 0) (by omega) q)
      exact Or.inl ⟨q, if_pos q, this⟩
    · exact Or.inr ⟨q, if_neg q⟩
  have x1_z : (p + 1 < e ∧ rd_x T e (p + 1) = (T (p + 1)).toInt - 96 ∧ 97 ≤ (T (p + 1)).toInt ∧ (T (p + 1)).toInt ≤ 122) ∨ (¬ p + 1 < e ∧ rd_x T e (p + 1) = 0) := by
    by_cases q : p + 1 < e
    · have := rd_sm_iff.mp (hs_z (p + 1) (by omega) q)
      exact Or.inl ⟨q, if_pos q, this⟩
    · exact Or.inr ⟨q, if_neg q⟩
  have x2_z : (p + 2 < e ∧ rd_x T e (p + 2) = (T (p + 2)).toInt - 96 ∧ 97 ≤ (T (p + 2)).toInt ∧ (T (p + 2)).toInt ≤ 122) ∨ (¬ p + 2 < e ∧ rd_x T e (p + 2) = 0) := by
    by_cases q : p + 2 < e
    · have := rd_sm_iff.mp (hs_z (p + 2) (by omega) q)
      exact Or.inl ⟨q, if_pos q, this⟩
    · exact Or.inr ⟨q, if_neg q⟩
  have x3_z : (p + 3 < e ∧ rd_x T e (p + 3) = (T (p + 3)).toInt - 96 ∧ 97 ≤ (T (p + 3)).toInt ∧ (T (p + 3)).toInt ≤ 122) ∨ (¬ p + 3 < e ∧ rd_x T e (p + 3) = 0) := by
    by_cases q : p + 3 < e
    · have := rd_sm_iff.mp (hs_z (p + 3) (by omega) q)
      exact Or.inl ⟨q, if_pos q, this⟩
    · exact Or.inr ⟨q, if_neg q⟩
  have x4_z : (p + 4 < e ∧ rd_x T e (p + 4) = (T (p + 4)).toInt - 96 ∧ 97 ≤ (T (p + 4)).toInt ∧ (T (p + 4)).toInt ≤ 122) ∨ (¬ p + 4 < e ∧ rd_x T e (p + 4) = 0) := by
    by_cases q : p + 4 < e
    · have := rd_sm_iff.mp (hs_z (p + 4) (by omega) q)
      exact Or.inl ⟨q, if_pos q, this⟩
    · exact Or.inr ⟨q, if_neg q⟩
  have x5_z : (p + 5 < e ∧ rd_x T e (p + 5) = (T (p + 5)).toInt - 96 ∧ 97 ≤ (T (p + 5)).toInt ∧ (T (p + 5)).toInt ≤ 122) ∨ (¬ p + 5 < e ∧ rd_x T e (p + 5) = 0) := by
    by_cases q : p + 5 < e
    · have := rd_sm_iff.mp (hs_z (p + 5) (by omega) q)
      exact Or.inl ⟨q, if_pos q, this⟩
    · exact Or.inr ⟨q, if_neg q⟩
  constructor
  · intro hq_z
    have hn_z : rd_pk T e p 6 = 86148744 := by rw [← a, ← hq_z, w]
    rw [u] at hn_z
    have d5_z : rd_x T e (p + 5) = 8 := by omega
    have d4_z : rd_x T e (p + 4) = 20 := by omega
    have d3_z : rd_x T e (p + 3) = 1 := by omega
    have d2_z : rd_x T e (p + 2) = 5 := by omega
    have d1_z : rd_x T e (p + 1) = 18 := by omega
    have d0_z : rd_x T e (p + 0) = 2 := by omega
    refine ⟨by show p + 6 = e; omega, fun j hj_z => ?_⟩
    have hj_z : j < 6 := hj_z
    match j, hj_z with
    | 0, _ =>
      show ab_words 94 = T (p + 0)
      have z : (ab_words 94).toInt = 98 := by decide
      exact rt_i32 (by omega)
    | 1, _ =>
      show ab_words 95 = T (p + 1)
      have z : (ab_words 95).toInt = 114 := by decide
      exact rt_i32 (by omega)
    | 2, _ =>
      show ab_words 96 = T (p + 2)
      have z : (ab_words 96).toInt = 101 := by decide
      exact rt_i32 (by omega)
    | 3, _ =>
      show ab_words 97 = T (p + 3)
      have z : (ab_words 97).toInt = 97 := by decide
      exact rt_i32 (by omega)
    | 4, _ =>
      show ab_words 98 = T (p + 4)
      have z : (ab_words 98).toInt = 116 := by decide
      exact rt_i32 (by omega)
    | 5, _ =>
      show ab_words 99 = T (p + 5)
      have z : (ab_words 99).toInt = 104 := by decide
      exact rt_i32 (by omega)
  · intro hq_z
    have hl_z : p + 6 = e := hq_z.1
    have c0_z : ab_words 94 = T (p + 0) := hq_z.2 0 (by decide)
    have z0_z : (ab_words 94).toInt = 98 := by decide
    rw [c0_z] at z0_z
    have c1_z : ab_words 95 = T (p + 1) := hq_z.2 1 (by decide)
    have z1_z : (ab_words 95).toInt = 114 := by decide
    rw [c1_z] at z1_z
    have c2_z : ab_words 96 = T (p + 2) := hq_z.2 2 (by decide)
    have z2_z : (ab_words 96).toInt = 101 := by decide
    rw [c2_z] at z2_z
    have c3_z : ab_words 97 = T (p + 3) := hq_z.2 3 (by decide)
    have z3_z : (ab_words 97).toInt = 97 := by decide
    rw [c3_z] at z3_z
    have c4_z : ab_words 98 = T (p + 4) := hq_z.2 4 (by decide)
    have z4_z : (ab_words 98).toInt = 116 := by decide
    rw [c4_z] at z4_z
    have c5_z : ab_words 99 = T (p + 5) := hq_z.2 5 (by decide)
    have z5_z : (ab_words 99).toInt = 104 := by decide
    rw [c5_z] at z5_z
    apply rt_i32
    rw [a, u, w]
    omega
theorem rt_wx17 {T : Nat → Int32} {p e : Nat} (hs_z : ∀ q, p ≤ q → q < e → rd_sm (T q) = true) (hpe : p ≤ e) (h6_z : e ≤ p + 6) : rt_w 17 = rt_mp T p e 6 ↔ rt_is T p e 13 := by
  obtain ⟨a, -⟩ := rt_mpx hs_z 6 (Nat.le_refl _)
  have u : rd_pk T e p 6 = 32 * (32 * (32 * (32 * (32 * (32 * 0 + rd_x T e (p + 0)) + rd_x T e (p + 1)) + rd_x T e (p + 2)) + rd_x T e (p + 3)) + rd_x T e (p + 4)) + rd_x T e (p + 5) := rfl
  have w : (rt_w 17).toInt = 522190848 := by decide
  have x0_z : (p + 0 < e ∧ rd_x T e (p + 0) = (T (p + 0)).toInt - 96 ∧ 97 ≤ (T (p + 0)).toInt ∧ (T (p + 0)).toInt ≤ 122) ∨ (¬ p + 0 < e ∧ rd_x T e (p + 0) = 0) := by
    by_cases q : p + 0 < e
    · have := rd_sm_iff.mp (hs_z (p + 0) (by omega) q)
      exact Or.inl ⟨q, if_pos q, this⟩
    · exact Or.inr ⟨q, if_neg q⟩
  have x1_z : (p + 1 < e ∧ rd_x T e (p + 1) = (T (p + 1)).toInt - 96 ∧ 97 ≤ (T (p + 1)).toInt ∧ (T (p + 1)).toInt ≤ 122) ∨ (¬ p + 1 < e ∧ rd_x T e (p + 1) = 0) := by
    by_cases q : p + 1 < e
    · have := rd_sm_iff.mp (hs_z (p + 1) (by omega) q)
      exact Or.inl ⟨q, if_pos q, this⟩
    · exact Or.inr ⟨q, if_neg q⟩
  have x2_z : (p + 2 < e ∧ rd_x T e (p + 2) = (T (p + 2)).toInt - 96 ∧ 97 ≤ (T (p + 2)).toInt ∧ (T (p + 2)).toInt ≤ 122) ∨ (¬ p + 2 < e ∧ rd_x T e (p + 2) = 0) := by
    by_cases q : p + 2 < e
    · have := rd_sm_iff.mp (hs_z (p + 2) (by omega) q)
      exact Or.inl ⟨q, if_pos q, this⟩
    · exact Or.inr ⟨q, if_neg q⟩
  have x3_z : (p + 3 < e ∧ rd_x T e (p + 3) = (T (p + 3)).toInt - 96 ∧ 97 ≤ (T (p + 3)).toInt ∧ (T (p + 3)).toInt ≤ 122) ∨ (¬ p + 3 < e ∧ rd_x T e (p + 3) = 0) := by
    by_cases q : p + 3 < e
    · have := rd_sm_iff.mp (hs_z (p + 3) (by omega) q)
      exact Or.inl ⟨q, if_pos q, this⟩
    · exact Or.inr ⟨q, if_neg q⟩
  have x4_z : (p + 4 < e ∧ rd_x T e (p + 4) = (T (p + 4)).toInt - 96 ∧ 97 ≤ (T (p + 4)).toInt ∧ (T (p + 4)).toInt ≤ 122) ∨ (¬ p + 4 < e ∧ rd_x T e (p + 4) = 0) := by
    by_cases q : p + 4 < e
    · have := rd_sm_iff.mp (hs_z (p + 4) (by omega) q)
      exact Or.inl ⟨q, if_pos q, this⟩
    · exact Or.inr ⟨q, if_neg q⟩
  have x5_z : (p + 5 < e ∧ rd_x T e (p + 5) = (T (p + 5)).toInt - 96 ∧ 97 ≤ (T (p + 5)).toInt ∧ (T (p + 5)).toInt ≤ 122) ∨ (¬ p + 5 < e ∧ rd_x T e (p + 5) = 0) := by
    by_cases q : p + 5 < e
    · have := rd_sm_iff.mp (hs_z (p + 5) (by omega) q)
      exact Or.inl ⟨q, if_pos q, this⟩
    · exact Or.inr ⟨q, if_neg q⟩
  constructor
  · intro hq_z
    have hn_z : rd_pk T e p 6 = 522190848 := by rw [← a, ← hq_z, w]
    rw [u] at hn_z
    have d5_z : rd_x T e (p + 5) = 0 := by omega
    have d4_z : rd_x T e (p + 4) = 0 := by omega
    have d3_z : rd_x T e (p + 3) = 0 := by omega
    have d2_z : rd_x T e (p + 2) = 0 := by omega
    have d1_z : rd_x T e (p + 1) = 18 := by omega
    have d0_z : rd_x T e (p + 0) = 15 := by omega
    refine ⟨by show p + 2 = e; omega, fun j hj_z => ?_⟩
    have hj_z : j < 2 := hj_z
    match j, hj_z with
    | 0, _ =>
      show ab_words 65 = T (p + 0)
      have z : (ab_words 65).toInt = 111 := by decide
      exact rt_i32 (by omega)
    | 1, _ =>
      show ab_words 66 = T (p + 1)
      have z : (ab_words 66).toInt = 114 := by decide
      exact rt_i32 (by omega)
  · intro hq_z
    have hl_z : p + 2 = e := hq_z.1
    have c0_z : ab_words 65 = T (p + 0) := hq_z.2 0 (by decide)
    have z0_z : (ab_words 65).toInt = 111 := by decide
    rw [c0_z] at z0_z
    have c1_z : ab_words 66 = T (p + 1) := hq_z.2 1 (by decide)
    have z1_z : (ab_words 66).toInt = 114 := by decide
    rw [c1_z] at z1_z
    apply rt_i32
    rw [a, u, w]
    omega
theorem rt_wx18 {T : Nat → Int32} {p e : Nat} (hs_z : ∀ q, p ≤ q → q < e → rd_sm (T q) = true) (hpe : p ≤ e) (h6_z : e ≤ p + 6) : rt_w 18 = rt_mp T p e 6 ↔ rt_is T p e 12 := by
  obtain ⟨a, -⟩ := rt_mpx hs_z 6 (Nat.le_refl _)
  have u : rd_pk T e p 6 = 32 * (32 * (32 * (32 * (32 * (32 * 0 + rd_x T e (p + 0)) + rd_x T e (p + 1)) + rd_x T e (p + 2)) + rd_x T e (p + 3)) + rd_x T e (p + 4)) + rd_x T e (p + 5) := rfl
  have w : (rt_w 18).toInt = 48365568 := by decide
  have x0_z : (p + 0 < e ∧ rd_x T e (p + 0) = (T (p + 0)).toInt - 96 ∧ 97 ≤ (T (p + 0)).toInt ∧ (T (p + 0)).toInt ≤ 122) ∨ (¬ p + 0 < e ∧ rd_x T e (p + 0) = 0) := by
    by_cases q : p + 0 < e
    · have := rd_sm_iff.mp (hs_z (p + 0) (by omega) q)
      exact Or.inl ⟨q, if_pos q, this⟩
    · exact Or.inr ⟨q, if_neg q⟩
  have x1_z : (p + 1 < e ∧ rd_x T e (p + 1) = (T (p + 1)).toInt - 96 ∧ 97 ≤ (T (p + 1)).toInt ∧ (T (p + 1)).toInt ≤ 122) ∨ (¬ p + 1 < e ∧ rd_x T e (p + 1) = 0) := by
    by_cases q : p + 1 < e
    · have := rd_sm_iff.mp (hs_z (p + 1) (by omega) q)
      exact Or.inl ⟨q, if_pos q, this⟩
    · exact Or.inr ⟨q, if_neg q⟩
  have x2_z : (p + 2 < e ∧ rd_x T e (p + 2) = (T (p + 2)).toInt - 96 ∧ 97 ≤ (T (p + 2)).toInt ∧ (T (p + 2)).toInt ≤ 122) ∨ (¬ p + 2 < e ∧ rd_x T e (p + 2) = 0) := by
    by_cases q : p + 2 < e
    · have := rd_sm_iff.mp (hs_z (p + 2) (by omega) q)
      exact Or.inl ⟨q, if_pos q, this⟩
    · exact Or.inr ⟨q, if_neg q⟩
  have x3_z : (p + 3 < e ∧ rd_x T e (p + 3) = (T (p + 3)).toInt - 96 ∧ 97 ≤ (T (p + 3)).toInt ∧ (T (p + 3)).toInt ≤ 122) ∨ (¬ p + 3 < e ∧ rd_x T e (p + 3) = 0) := by
    by_cases q : p + 3 < e
    · have := rd_sm_iff.mp (hs_z (p + 3) (by omega) q)
      exact Or.inl ⟨q, if_pos q, this⟩
    · exact Or.inr ⟨q, if_neg q⟩
  have x4_z : (p + 4 < e ∧ rd_x T e (p + 4) = (T (p + 4)).toInt - 96 ∧ 97 ≤ (T (p + 4)).toInt ∧ (T (p + 4)).toInt ≤ 122) ∨ (¬ p + 4 < e ∧ rd_x T e (p + 4) = 0) := by
    by_cases q : p + 4 < e
    · have := rd_sm_iff.mp (hs_z (p + 4) (by omega) q)
      exact Or.inl ⟨q, if_pos q, this⟩
    · exact Or.inr ⟨q, if_neg q⟩
  have x5_z : (p + 5 < e ∧ rd_x T e (p + 5) = (T (p + 5)).toInt - 96 ∧ 97 ≤ (T (p + 5)).toInt ∧ (T (p + 5)).toInt ≤ 122) ∨ (¬ p + 5 < e ∧ rd_x T e (p + 5) = 0) := by
    by_cases q : p + 5 < e
    · have := rd_sm_iff.mp (hs_z (p + 5) (by omega) q)
      exact Or.inl ⟨q, if_pos q, this⟩
    · exact Or.inr ⟨q, if_neg q⟩
  constructor
  · intro hq_z
    have hn_z : rd_pk T e p 6 = 48365568 := by rw [← a, ← hq_z, w]
    rw [u] at hn_z
    have d5_z : rd_x T e (p + 5) = 0 := by omega
    have d4_z : rd_x T e (p + 4) = 0 := by omega
    have d3_z : rd_x T e (p + 3) = 0 := by omega
    have d2_z : rd_x T e (p + 2) = 4 := by omega
    have d1_z : rd_x T e (p + 1) = 14 := by omega
    have d0_z : rd_x T e (p + 0) = 1 := by omega
    refine ⟨by show p + 3 = e; omega, fun j hj_z => ?_⟩
    have hj_z : j < 3 := hj_z
    match j, hj_z with
    | 0, _ =>
      show ab_words 61 = T (p + 0)
      have z : (ab_words 61).toInt = 97 := by decide
      exact rt_i32 (by omega)
    | 1, _ =>
      show ab_words 62 = T (p + 1)
      have z : (ab_words 62).toInt = 110 := by decide
      exact rt_i32 (by omega)
    | 2, _ =>
      show ab_words 63 = T (p + 2)
      have z : (ab_words 63).toInt = 100 := by decide
      exact rt_i32 (by omega)
  · intro hq_z
    have hl_z : p + 3 = e := hq_z.1
    have c0_z : ab_words 61 = T (p + 0) := hq_z.2 0 (by decide)
    have z0_z : (ab_words 61).toInt = 97 := by decide
    rw [c0_z] at z0_z
    have c1_z : ab_words 62 = T (p + 1) := hq_z.2 1 (by decide)
    have z1_z : (ab_words 62).toInt = 110 := by decide
    rw [c1_z] at z1_z
    have c2_z : ab_words 63 = T (p + 2) := hq_z.2 2 (by decide)
    have z2_z : (ab_words 63).toInt = 100 := by decide
    rw [c2_z] at z2_z
    apply rt_i32
    rw [a, u, w]
    omega
theorem rt_wx19 {T : Nat → Int32} {p e : Nat} (hs_z : ∀ q, p ≤ q → q < e → rd_sm (T q) = true) (hpe : p ≤ e) (h6_z : e ≤ p + 6) : rt_w 19 = rt_mp T p e 6 ↔ rt_is T p e 14 := by
  obtain ⟨a, -⟩ := rt_mpx hs_z 6 (Nat.le_refl _)
  have u : rd_pk T e p 6 = 32 * (32 * (32 * (32 * (32 * (32 * 0 + rd_x T e (p + 0)) + rd_x T e (p + 1)) + rd_x T e (p + 2)) + rd_x T e (p + 3)) + rd_x T e (p + 4)) + rd_x T e (p + 5) := rfl
  have w : (rt_w 19).toInt = 486146048 := by decide
  have x0_z : (p + 0 < e ∧ rd_x T e (p + 0) = (T (p + 0)).toInt - 96 ∧ 97 ≤ (T (p + 0)).toInt ∧ (T (p + 0)).toInt ≤ 122) ∨ (¬ p + 0 < e ∧ rd_x T e (p + 0) = 0) := by
    by_cases q : p + 0 < e
    · have := rd_sm_iff.mp (hs_z (p + 0) (by omega) q)
      exact Or.inl ⟨q, if_pos q, this⟩
    · exact Or.inr ⟨q, if_neg q⟩
  have x1_z : (p + 1 < e ∧ rd_x T e (p + 1) = (T (p + 1)).toInt - 96 ∧ 97 ≤ (T (p + 1)).toInt ∧ (T (p + 1)).toInt ≤ 122) ∨ (¬ p + 1 < e ∧ rd_x T e (p + 1) = 0) := by
    by_cases q : p + 1 < e
    · have := rd_sm_iff.mp (hs_z (p + 1) (by omega) q)
      exact Or.inl ⟨q, if_pos q, this⟩
    · exact Or.inr ⟨q, if_neg q⟩
  have x2_z : (p + 2 < e ∧ rd_x T e (p + 2) = (T (p + 2)).toInt - 96 ∧ 97 ≤ (T (p + 2)).toInt ∧ (T (p + 2)).toInt ≤ 122) ∨ (¬ p + 2 < e ∧ rd_x T e (p + 2) = 0) := by
    by_cases q : p + 2 < e
    · have := rd_sm_iff.mp (hs_z (p + 2) (by omega) q)
      exact Or.inl ⟨q, if_pos q, this⟩
    · exact Or.inr ⟨q, if_neg q⟩
  have x3_z : (p + 3 < e ∧ rd_x T e (p + 3) = (T (p + 3)).toInt - 96 ∧ 97 ≤ (T (p + 3)).toInt ∧ (T (p + 3)).toInt ≤ 122) ∨ (¬ p + 3 < e ∧ rd_x T e (p + 3) = 0) := by
    by_cases q : p + 3 < e
    · have := rd_sm_iff.mp (hs_z (p + 3) (by omega) q)
      exact Or.inl ⟨q, if_pos q, this⟩
    · exact Or.inr ⟨q, if_neg q⟩
  have x4_z : (p + 4 < e ∧ rd_x T e (p + 4) = (T (p + 4)).toInt - 96 ∧ 97 ≤ (T (p + 4)).toInt ∧ (T (p + 4)).toInt ≤ 122) ∨ (¬ p + 4 < e ∧ rd_x T e (p + 4) = 0) := by
    by_cases q : p + 4 < e
    · have := rd_sm_iff.mp (hs_z (p + 4) (by omega) q)
      exact Or.inl ⟨q, if_pos q, this⟩
    · exact Or.inr ⟨q, if_neg q⟩
  have x5_z : (p + 5 < e ∧ rd_x T e (p + 5) = (T (p + 5)).toInt - 96 ∧ 97 ≤ (T (p + 5)).toInt ∧ (T (p + 5)).toInt ≤ 122) ∨ (¬ p + 5 < e ∧ rd_x T e (p + 5) = 0) := by
    by_cases q : p + 5 < e
    · have := rd_sm_iff.mp (hs_z (p + 5) (by omega) q)
      exact Or.inl ⟨q, if_pos q, this⟩
    · exact Or.inr ⟨q, if_neg q⟩
  constructor
  · intro hq_z
    have hn_z : rd_pk T e p 6 = 486146048 := by rw [← a, ← hq_z, w]
    rw [u] at hn_z
    have d5_z : rd_x T e (p + 5) = 0 := by omega
    have d4_z : rd_x T e (p + 4) = 0 := by omega
    have d3_z : rd_x T e (p + 3) = 0 := by omega
    have d2_z : rd_x T e (p + 2) = 20 := by omega
    have d1_z : rd_x T e (p + 1) = 15 := by omega
    have d0_z : rd_x T e (p + 0) = 14 := by omega
    refine ⟨by show p + 3 = e; omega, fun j hj_z => ?_⟩
    have hj_z : j < 3 := hj_z
    match j, hj_z with
    | 0, _ =>
      show ab_words 68 = T (p + 0)
      have z : (ab_words 68).toInt = 110 := by decide
      exact rt_i32 (by omega)
    | 1, _ =>
      show ab_words 69 = T (p + 1)
      have z : (ab_words 69).toInt = 111 := by decide
      exact rt_i32 (by omega)
    | 2, _ =>
      show ab_words 70 = T (p + 2)
      have z : (ab_words 70).toInt = 116 := by decide
      exact rt_i32 (by omega)
  · intro hq_z
    have hl_z : p + 3 = e := hq_z.1
    have c0_z : ab_words 68 = T (p + 0) := hq_z.2 0 (by decide)
    have z0_z : (ab_words 68).toInt = 110 := by decide
    rw [c0_z] at z0_z
    have c1_z : ab_words 69 = T (p + 1) := hq_z.2 1 (by decide)
    have z1_z : (ab_words 69).toInt = 111 := by decide
    rw [c1_z] at z1_z
    have c2_z : ab_words 70 = T (p + 2) := hq_z.2 2 (by decide)
    have z2_z : (ab_words 70).toInt = 116 := by decide
    rw [c2_z] at z2_z
    apply rt_i32
    rw [a, u, w]
    omega
def rt_pm (k : Nat) : Nat := if k ≤ 11 then k else if k ≤ 16 then k + 3 else if k = 17 then 13 else if k = 18 then 12 else 14
theorem rt_wx {T : Nat → Int32} {p e : Nat} (hs_z : ∀ q, p ≤ q → q < e → rd_sm (T q) = true) (hpe : p ≤ e) (h6_z : e ≤ p + 6) (k : Nat) (hk_z : k < 20) : rt_w k = rt_mp T p e 6 ↔ rt_is T p e (rt_pm k) := by
  match k, hk_z with
  | 0, _ => exact rt_wx0 hs_z hpe h6_z
  | 1, _ => exact rt_wx1 hs_z hpe h6_z
  | 2, _ => exact rt_wx2 hs_z hpe h6_z
  | 3, _ => exact rt_wx3 hs_z hpe h6_z
  | 4, _ => exact rt_wx4 hs_z hpe h6_z
  | 5, _ => exact rt_wx5 hs_z hpe h6_z
  | 6, _ => exact rt_wx6 hs_z hpe h6_z
  | 7, _ => exact rt_wx7 hs_z hpe h6_z
  | 8, _ => exact rt_wx8 hs_z hpe h6_z
  | 9, _ => exact rt_wx9 hs_z hpe h6_z
  | 10, _ => exact rt_wx10 hs_z hpe h6_z
  | 11, _ => exact rt_wx11 hs_z hpe h6_z
  | 12, _ => exact rt_wx12 hs_z hpe h6_z
  | 13, _ => exact rt_wx13 hs_z hpe h6_z
  | 14, _ => exact rt_wx14 hs_z hpe h6_z
  | 15, _ => exact rt_wx15 hs_z hpe h6_z
  | 16, _ => exact rt_wx16 hs_z hpe h6_z
  | 17, _ => exact rt_wx17 hs_z hpe h6_z
  | 18, _ => exact rt_wx18 hs_z hpe h6_z
  | 19, _ => exact rt_wx19 hs_z hpe h6_z
  | k + 20, hk_z => exact absurd hk_z (by omega)
theorem rt_pmi (m : Nat) (hm_z : m < 20) : ∃ k, k < 20 ∧ rt_pm k = m := by
  match m, hm_z with
  | 0, _ => exact ⟨0, by decide, by decide⟩
  | 1, _ => exact ⟨1, by decide, by decide⟩
  | 2, _ => exact ⟨2, by decide, by decide⟩
  | 3, _ => exact ⟨3, by decide, by decide⟩
  | 4, _ => exact ⟨4, by decide, by decide⟩
  | 5, _ => exact ⟨5, by decide, by decide⟩
  | 6, _ => exact ⟨6, by decide, by decide⟩
  | 7, _ => exact ⟨7, by decide, by decide⟩
  | 8, _ => exact ⟨8, by decide, by decide⟩
  | 9, _ => exact ⟨9, by decide, by decide⟩
  | 10, _ => exact ⟨10, by decide, by decide⟩
  | 11, _ => exact ⟨11, by decide, by decide⟩
  | 12, _ => exact ⟨18, by decide, by decide⟩
  | 13, _ => exact ⟨17, by decide, by decide⟩
  | 14, _ => exact ⟨19, by decide, by decide⟩
  | 15, _ => exact ⟨12, by decide, by decide⟩
  | 16, _ => exact ⟨13, by decide, by decide⟩
  | 17, _ => exact ⟨14, by decide, by decide⟩
  | 18, _ => exact ⟨15, by decide, by decide⟩
  | 19, _ => exact ⟨16, by decide, by decide⟩
  | m + 20, hm_z => exact absurd hm_z (by omega)
