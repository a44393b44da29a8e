/-! ===== WHAT mean ANSWERS (wip/r/gen99ro.py) ===== -/
/-- the least seconds of the trials that are sure -/
def mnU (a b : Nat → Int32) : Nat → Int32 → Int32 → Int32
  | 0, m, _ => m
  | k + 1, m, i => mnU a b k (if a i.toNatClampNeg = 100 ∧ (m = -1 ∨ (b i.toNatClampNeg).toInt < m.toInt) then b i.toNatClampNeg else m) (i + 1)
/-- the place of j when the heaviest come first -/
def mnP (w : Nat → Int32) (j : Int32) : Nat → Int32 → Int32 → Int32
  | 0, q, _ => q
  | k + 1, q, i => mnP w j k (if (w j.toNatClampNeg).toInt < (w i.toNatClampNeg).toInt ∨ (w i.toNatClampNeg = w j.toNatClampNeg ∧ i.toInt < j.toInt) then q + 1 else q) (i + 1)
def mnX (w : Nat → Int32) (m : Int32) (n : Nat) : Nat → Int32 → Int32 → Int32
  | 0, x, _ => x
  | k + 1, x, i => mnX w m n k (x + m * mnP w i n 1 0 * w i.toNatClampNeg) (i + 1)
def mnS (w : Nat → Int32) : Nat → Int32 → Int32 → Int32
  | 0, s, _ => s
  | k + 1, s, i => mnS w k (s + w i.toNatClampNeg) (i + 1)
/-- Euclid's rounds -/
def mnG : Nat → Int32 → Int32 → Int32
  | 0, a, _ => a
  | k + 1, a, b => if b = 0 then a else mnG k b (a - a / b * b)
def mgE : Nat → Int32 → Int32 → Prop
  | 0, _, b => b = 0
  | k + 1, a, b => b = 0 ∨ mgE k b (a - a / b * b)
def mnQ (q x s : Int32) : Int32 := if mnG 64 x s = 0 then -1 else if q = 0 then x / mnG 64 x s else s / mnG 64 x s
def mnV (w : Nat → Int32) (nl : Nat) (q m : Int32) : Int32 := if 0 ≤ q.toInt ∧ q.toInt ≤ 1 ∧ ¬ nl = 0 ∧ ¬ m.toInt = -1 then mnQ q (mnX w m nl nl 0 0) (mnS w nl 0 0) else -1
theorem mnU_1 {a b : Nat → Int32} {k : Nat} {m i : Int32} (h : a i.toNatClampNeg = 100 ∧ (m = -1 ∨ (b i.toNatClampNeg).toInt < m.toInt)) : mnU a b (k + 1) m i = mnU a b k (b i.toNatClampNeg) (i + 1) := by
  rw [mnU.eq_2, if_pos h]
theorem mnU_0 {a b : Nat → Int32} {k : Nat} {m i : Int32} (h : ¬ (a i.toNatClampNeg = 100 ∧ (m = -1 ∨ (b i.toNatClampNeg).toInt < m.toInt))) : mnU a b (k + 1) m i = mnU a b k m (i + 1) := by
  rw [mnU.eq_2, if_neg h]
theorem mnP_1 {w : Nat → Int32} {j : Int32} {k : Nat} {q i : Int32} (h : (w j.toNatClampNeg).toInt < (w i.toNatClampNeg).toInt ∨ (w i.toNatClampNeg = w j.toNatClampNeg ∧ i.toInt < j.toInt)) : mnP w j (k + 1) q i = mnP w j k (q + 1) (i + 1) := by
  rw [mnP.eq_2, if_pos h]
theorem mnP_0 {w : Nat → Int32} {j : Int32} {k : Nat} {q i : Int32} (h : ¬ ((w j.toNatClampNeg).toInt < (w i.toNatClampNeg).toInt ∨ (w i.toNatClampNeg = w j.toNatClampNeg ∧ i.toInt < j.toInt))) : mnP w j (k + 1) q i = mnP w j k q (i + 1) := by
  rw [mnP.eq_2, if_neg h]
theorem mnG_z {k : Nat} {a b : Int32} (h : b = 0) : mnG k a b = a := by
  match k with
  | 0 => rfl
  | k + 1 => rw [mnG.eq_2, if_pos h]
theorem mnG_1 {k : Nat} {a b : Int32} (h : ¬ b = 0) : mnG (k + 1) a b = mnG k b (a - a / b * b) := by
  rw [mnG.eq_2, if_neg h]
theorem mnQ_0 {q x s : Int32} (h : mnG 64 x s = 0) : mnQ q x s = -1 := by
  unfold mnQ
  rw [if_pos h]
theorem mnQ_1 {q x s : Int32} (h : ¬ mnG 64 x s = 0) (hq_z : q = 0) : mnQ q x s = x / mnG 64 x s := by
  unfold mnQ
  rw [if_neg h, if_pos hq_z]
theorem mnQ_2 {q x s : Int32} (h : ¬ mnG 64 x s = 0) (hq_z : ¬ q = 0) : mnQ q x s = s / mnG 64 x s := by
  unfold mnQ
  rw [if_neg h, if_neg hq_z]
theorem mnV_0 {w : Nat → Int32} {nl : Nat} {q m : Int32} (h : ¬ (0 ≤ q.toInt ∧ q.toInt ≤ 1 ∧ ¬ nl = 0 ∧ ¬ m.toInt = -1)) : mnV w nl q m = -1 := by
  unfold mnV
  rw [if_neg h]
theorem mnV_1 {w : Nat → Int32} {nl : Nat} {q m : Int32} (h : 0 ≤ q.toInt ∧ q.toInt ≤ 1 ∧ ¬ nl = 0 ∧ ¬ m.toInt = -1) : mnV w nl q m = mnQ q (mnX w m nl nl 0 0) (mnS w nl 0 0) := by
  unfold mnV
  rw [if_pos h]
theorem mnU_c {a b a' b' : Nat → Int32} : ∀ (k : Nat) (m i : Int32), 0 ≤ i.toInt → i.toInt + k ≤ 99 → (∀ t : Nat, (t : Int) < i.toInt + k → a t = a' t ∧ b t = b' t) → mnU a b k m i = mnU a' b' k m i
  | 0, _, _, _, _, _ => rfl
  | k + 1, m, i, i0_z, ik, e => by
    have ci_z := rt_cl i0_z
    have c1_z := rt_c1 i0_z (by omega)
    obtain ⟨e1_z, e2_z⟩ := e i.toNatClampNeg (by omega)
    rw [mnU.eq_2, mnU.eq_2, e1_z, e2_z, mnU_c k _ (i + 1) (by omega) (by omega) (fun t ht => e t (by omega))]
theorem mnP_c {w v : Nat → Int32} {j : Int32} (j0_z : w j.toNatClampNeg = v j.toNatClampNeg) : ∀ (k : Nat) (q i : Int32), 0 ≤ i.toInt → i.toInt + k ≤ 99 → (∀ t : Nat, (t : Int) < i.toInt + k → w t = v t) → mnP w j k q i = mnP v j k q i
  | 0, _, _, _, _, _ => rfl
  | k + 1, q, i, i0_z, ik, e => by
    have ci_z := rt_cl i0_z
    have c1_z := rt_c1 i0_z (by omega)
    rw [mnP.eq_2, mnP.eq_2, e i.toNatClampNeg (by omega), j0_z, mnP_c j0_z k _ (i + 1) (by omega) (by omega) (fun t ht => e t (by omega))]
theorem mnX_c {w v : Nat → Int32} {m : Int32} {n : Nat} (n9_z : n ≤ 99) (e : ∀ t : Nat, t < n → w t = v t) : ∀ (k : Nat) (x i : Int32), 0 ≤ i.toInt → i.toInt + k = n → mnX w m n k x i = mnX v m n k x i
  | 0, _, _, _, _ => rfl
  | k + 1, x, i, i0_z, ik => by
    have z0_z : (0 : Int32).toInt = 0 := by decide
    have ci_z := rt_cl i0_z
    have c1_z := rt_c1 i0_z (by omega)
    have ei := e i.toNatClampNeg (by omega)
    rw [mnX.eq_2, mnX.eq_2, mnP_c ei n 1 0 (by decide) (by rw [z0_z]; omega) (fun t ht => e t (by rw [z0_z] at ht; omega)), ei, mnX_c n9_z e k _ (i + 1) (by omega) (by omega)]
theorem mnS_c {w v : Nat → Int32} {n : Nat} (n9_z : n ≤ 99) (e : ∀ t : Nat, t < n → w t = v t) : ∀ (k : Nat) (s i : Int32), 0 ≤ i.toInt → i.toInt + k = n → mnS w k s i = mnS v k s i
  | 0, _, _, _, _ => rfl
  | k + 1, s, i, i0_z, ik => by
    have ci_z := rt_cl i0_z
    have c1_z := rt_c1 i0_z (by omega)
    rw [mnS.eq_2, mnS.eq_2, e i.toNatClampNeg (by omega), mnS_c n9_z e k _ (i + 1) (by omega) (by omega)]
theorem mnV_c {w v : Nat → Int32} {n : Nat} {q m : Int32} (n9_z : n ≤ 99) (e : ∀ t : Nat, t < n → w t = v t) : mnV w n q m = mnV v n q m := by
  have z0_z : (0 : Int32).toInt = 0 := by decide
  unfold mnV
  rw [mnX_c n9_z e n 0 0 (by decide) (by rw [z0_z]; omega), mnS_c n9_z e n 0 0 (by decide) (by rw [z0_z]; omega)]
/-- a remainder is less -/
theorem mg_rem {x y : Int32} (hy : ¬ y = 0) : (x - x / y * y).toInt.natAbs = x.toInt.natAbs % y.toInt.natAbs := by
  have e1_z : (x - x / y * y).toInt = (x.toInt - x.toInt.tdiv y.toInt * y.toInt).bmod (2 ^ 32) := by
    rw [Int32.toInt_sub, Int32.toInt_mul, Int32.toInt_div, Int.sub_bmod_bmod]
    rw [← Int.sub_bmod_bmod, Int.bmod_mul_bmod, Int.sub_bmod_bmod]
  have e2_z : x.toInt - x.toInt.tdiv y.toInt * y.toInt = x.toInt.tmod y.toInt := by
    rw [Int.tmod_def, Int.mul_comm]
  have e3_z : (x.toInt.tmod y.toInt).natAbs = x.toInt.natAbs % y.toInt.natAbs := Int.natAbs_tmod _ _
  have y0_z : ¬ y.toInt = 0 := fun q => hy (Int32.toInt_inj.mp (q.trans (show (0 : Int) = (0 : Int32).toInt by decide)))
  have h2_z := Nat.mod_lt x.toInt.natAbs (show 0 < y.toInt.natAbs by omega)
  have hb_z := ab_32 y
  rw [e1_z, e2_z, ab_bm (by omega) (by omega)]
  exact e3_z
theorem mgE_s : ∀ (k : Nat) (a b : Int32), mgE k a b → mgE (k + 1) a b
  | 0, _, _, h => Or.inl h
  | k + 1, a, b, h => by
    rcases h with h | h
    · exact Or.inl h
    · exact Or.inr (mgE_s k b _ h)
theorem mgE_2 : ∀ (f : Nat) (a b : Int32), b.toInt.natAbs < 2 ^ f → mgE (2 * f) a b
  | 0, a, b, h => by
    refine Int32.toInt_inj.mp ?_
    rw [show (0 : Int32).toInt = 0 by decide]
    rw [Nat.pow_zero] at h
    omega
  | f + 1, a, b, h => by
    have z0_z : (0 : Int32).toInt = 0 := by decide
    by_cases hb_z : b = 0
    · exact Or.inl hb_z
    · refine Or.inr ?_
      by_cases hr : (a - a / b * b) = 0
      · exact Or.inl hr
      · refine Or.inr (mgE_2 f _ _ ?_)
        have r1_z := mg_rem (x := a) hb_z
        have r2_z := mg_rem (x := b) hr
        have b0_z : ¬ b.toInt = 0 := fun q => hb_z (Int32.toInt_inj.mp (q.trans z0_z.symm))
        have q0_z : ¬ (a - a / b * b).toInt = 0 := fun q => hr (Int32.toInt_inj.mp (q.trans z0_z.symm))
        have l1_z := Nat.mod_lt a.toInt.natAbs (show 0 < b.toInt.natAbs by omega)
        have l2_z := Nat.mod_lt b.toInt.natAbs (show 0 < (a - a / b * b).toInt.natAbs by omega)
        have l3_z := Nat.div_add_mod b.toInt.natAbs (a - a / b * b).toInt.natAbs
        have l4_z : 1 ≤ b.toInt.natAbs / (a - a / b * b).toInt.natAbs := Nat.div_pos (by omega) (by omega)
        have l5_z := Nat.mul_le_mul_left (a - a / b * b).toInt.natAbs l4_z
        rw [r2_z]
        rw [Nat.pow_succ] at h
        rw [Nat.mul_one] at l5_z
        omega
theorem mgE_64 (a b : Int32) : mgE 64 a b := by
  by_cases hb_z : b = 0
  · exact Or.inl hb_z
  · have z0_z : (0 : Int32).toInt = 0 := by decide
    have r1_z := mg_rem (x := a) hb_z
    have b0_z : ¬ b.toInt = 0 := fun q => hb_z (Int32.toInt_inj.mp (q.trans z0_z.symm))
    have l1_z := Nat.mod_lt a.toInt.natAbs (show 0 < b.toInt.natAbs by omega)
    have h3_z := ab_32 b
    exact Or.inr (mgE_s 62 _ _ (mgE_2 31 b _ (by rw [r1_z]; omega)))
theorem mn_u2 {r : Option Value} {h' : am_H} : ∀ (f k : Nat) (m i : Int32) (ls : am_L) (h : am_H), am_get ls 0 = some (.ref 2) → am_get ls 1 = some (.int m) → am_get ls 2 = some (.int i) → 0 ≤ i.toInt → i.toInt + k = (rg_v h 2 12).toInt → (rg_v h 2 12).toInt ≤ 3 → rn f am_m119 4 ls [] h r h' → r = some (.int (mnU (fun t => rg_v h 9 t) (fun t => rg_v h 10 t) k m i)) ∧ h' = h := by
  intro f
  induction f with
  | zero => intro k m i ls h g0_z g1_z g2_z i0_z ik n3_z hc_z; exact absurd hc_z rn_0
  | succ f ih_z =>
    intro k m i ls h g0_z g1_z g2_z i0_z ik n3_z hc_z
    have zm1_z : ((-1) : Int32).toInt = (-1) := by decide
    have z100_z : (100 : Int32).toInt = 100 := by decide
    replace hc_z := rn_iload_n (am_cur_of (i := (4, 1, .iload_n 2, (0, 0, 0), 0)) (by decide +kernel)) g2_z hc_z
    replace hc_z := rn_aload_n (am_cur_of (i := (5, 1, .aload_n 0, (0, 0, 0), 0)) (by decide +kernel)) g0_z hc_z
    replace hc_z := rn_getI (v := rg_v h 2 12) (am_cur_of (i := (6, 3, .getfield 72, (1, 12, 294), 0)) (by decide +kernel)) (by decide +kernel) rfl hc_z
    replace hc_z := rn_cmp (am_cur_of (i := (9, 3, .if_icmp .ge 42, (30, 0, 0), 0)) (by decide +kernel)) hc_z
    rcases hc_z with ⟨b1_z, hc_z⟩ | ⟨b1_z, hc_z⟩
    · replace b1_z : (rg_v h 2 12).toInt ≤ i.toInt := b1_z
      replace hc_z := rn_iload_n (am_cur_of (i := (51, 1, .iload_n 1, (0, 0, 0), 0)) (by decide +kernel)) g1_z hc_z
      replace hc_z := rn_iret (am_cur_of (i := (52, 1, .ireturn, (0, 0, 0), 0)) (by decide +kernel)) hc_z
      obtain ⟨e2_z, e3_z⟩ := hc_z
      obtain rfl : k = 0 := by omega
      exact ⟨e2_z, e3_z⟩
    · replace b1_z : i.toInt < (rg_v h 2 12).toInt := b1_z
      obtain ⟨k, rfl⟩ : ∃ k2_z, k = k2_z + 1 := ⟨k - 1, by omega⟩
      have ci_z := rt_cl i0_z
      have c1_z := rt_c1 i0_z (by omega)
      replace hc_z := rn_aload_n (am_cur_of (i := (12, 1, .aload_n 0, (0, 0, 0), 0)) (by decide +kernel)) g0_z hc_z
      replace hc_z := rn_getR (x := 9) (am_cur_of (i := (13, 3, .getfield 33, (1, 14, 300), 0)) (by decide +kernel)) (by decide +kernel) hc_z
      replace hc_z := rn_iload_n (am_cur_of (i := (16, 1, .iload_n 2, (0, 0, 0), 0)) (by decide +kernel)) g2_z hc_z
      replace hc_z := rn_iaload (N := 3) (q := i.toNatClampNeg) (v := rg_v h 9 i.toNatClampNeg) (am_cur_of (i := (17, 1, .iaload, (0, 0, 0), 0)) (by decide +kernel)) (by decide +kernel) rfl rfl hc_z
      obtain ⟨p4_z, hc_z⟩ := hc_z
      replace hc_z := rn_bipush (w := 100) (am_cur_of (i := (18, 2, .bipush 100, (0, 0, 0), 0)) (by decide +kernel)) (by decide) hc_z
      replace hc_z := rn_cmp (am_cur_of (i := (20, 3, .if_icmp .ne 25, (28, 0, 0), 0)) (by decide +kernel)) hc_z
      rcases hc_z with ⟨b5_z, hc_z⟩ | ⟨b5_z, hc_z⟩
      · replace b5_z : ¬ (rg_v h 9 i.toNatClampNeg) = (100 : Int32) ∧ ¬ (rg_v h 9 i.toNatClampNeg).toInt = (100 : Int32).toInt := b5_z
        replace hc_z := rn_iinc (w := i + 1) (am_cur_of (i := (45, 3, .iinc 2 1, (0, 0, 0), 0)) (by decide +kernel)) g2_z rfl hc_z
        obtain ⟨_, s6_z, s7_z, g2_z, hc_z⟩ := hc_z
        replace g0_z := s6_z 0 _ (by decide) rfl g0_z
        replace g1_z := s6_z 1 _ (by decide) rfl g1_z
        clear s6_z s7_z
        replace hc_z := rn_gotoL (am_cur_of (i := (48, 3, .goto (-44), (4, 0, 0), 0)) (by decide +kernel)) hc_z
        obtain ⟨e1_z, e2_z⟩ := ih_z k _ (i + 1) _ _ g0_z g1_z g2_z (by omega) (by omega) n3_z hc_z
        exact ⟨e1_z.trans (congrArg (fun q => some (Value.int q)) (mnU_0 (k := k) (a := fun t => rg_v h 9 t) (b := fun t => rg_v h 10 t) (show ¬ (rg_v h 9 i.toNatClampNeg = 100 ∧ (m = -1 ∨ (rg_v h 10 i.toNatClampNeg).toInt < m.toInt)) from fun z => b5_z.1 z.1)).symm), e2_z⟩
      · replace b5_z : (rg_v h 9 i.toNatClampNeg) = (100 : Int32) ∧ (rg_v h 9 i.toNatClampNeg).toInt = (100 : Int32).toInt := b5_z
        replace hc_z := rn_iload_n (am_cur_of (i := (23, 1, .iload_n 1, (0, 0, 0), 0)) (by decide +kernel)) g1_z hc_z
        replace hc_z := rn_iconst (w := (-1)) (am_cur_of (i := (24, 1, .iconst (-1), (0, 0, 0), 0)) (by decide +kernel)) (by decide) hc_z
        replace hc_z := rn_cmp (am_cur_of (i := (25, 3, .if_icmp .eq 13, (23, 0, 0), 0)) (by decide +kernel)) hc_z
        rcases hc_z with ⟨b8_z, hc_z⟩ | ⟨b8_z, hc_z⟩
        · replace b8_z : m = ((-1) : Int32) ∧ m.toInt = ((-1) : Int32).toInt := b8_z
          replace hc_z := rn_aload_n (am_cur_of (i := (38, 1, .aload_n 0, (0, 0, 0), 0)) (by decide +kernel)) g0_z hc_z
          replace hc_z := rn_getR (x := 10) (am_cur_of (i := (39, 3, .getfield 36, (1, 15, 303), 0)) (by decide +kernel)) (by decide +kernel) hc_z
          replace hc_z := rn_iload_n (am_cur_of (i := (42, 1, .iload_n 2, (0, 0, 0), 0)) (by decide +kernel)) g2_z hc_z
          replace hc_z := rn_iaload (N := 3) (q := i.toNatClampNeg) (v := rg_v h 10 i.toNatClampNeg) (am_cur_of (i := (43, 1, .iaload, (0, 0, 0), 0)) (by decide +kernel)) (by decide +kernel) rfl rfl hc_z
          obtain ⟨p9_z, hc_z⟩ := hc_z
          replace hc_z := rn_istore_n (am_cur_of (i := (44, 1, .istore_n 1, (0, 0, 0), 0)) (by decide +kernel)) hc_z
          obtain ⟨_, s10_z, s11_z, g1_z, hc_z⟩ := hc_z
          replace g0_z := s10_z 0 _ (by decide) rfl g0_z
          replace g2_z := s10_z 2 _ (by decide) rfl g2_z
          clear s10_z s11_z
          replace hc_z := rn_iinc (w := i + 1) (am_cur_of (i := (45, 3, .iinc 2 1, (0, 0, 0), 0)) (by decide +kernel)) g2_z rfl hc_z
          obtain ⟨_, s12_z, s13_z, g2_z, hc_z⟩ := hc_z
          replace g0_z := s12_z 0 _ (by decide) rfl g0_z
          replace g1_z := s12_z 1 _ (by decide) rfl g1_z
          clear s12_z s13_z
          replace hc_z := rn_gotoL (am_cur_of (i := (48, 3, .goto (-44), (4, 0, 0), 0)) (by decide +kernel)) hc_z
          obtain ⟨e1_z, e2_z⟩ := ih_z k _ (i + 1) _ _ g0_z g1_z g2_z (by omega) (by omega) n3_z hc_z
          exact ⟨e1_z.trans (congrArg (fun q => some (Value.int q)) (mnU_1 (k := k) (a := fun t => rg_v h 9 t) (b := fun t => rg_v h 10 t) (show rg_v h 9 i.toNatClampNeg = 100 ∧ (m = -1 ∨ (rg_v h 10 i.toNatClampNeg).toInt < m.toInt) from ⟨b5_z.1, Or.inl b8_z.1⟩)).symm), e2_z⟩
        · replace b8_z : ¬ m = ((-1) : Int32) ∧ ¬ m.toInt = ((-1) : Int32).toInt := b8_z
          replace hc_z := rn_aload_n (am_cur_of (i := (28, 1, .aload_n 0, (0, 0, 0), 0)) (by decide +kernel)) g0_z hc_z
          replace hc_z := rn_getR (x := 10) (am_cur_of (i := (29, 3, .getfield 36, (1, 15, 303), 0)) (by decide +kernel)) (by decide +kernel) hc_z
          replace hc_z := rn_iload_n (am_cur_of (i := (32, 1, .iload_n 2, (0, 0, 0), 0)) (by decide +kernel)) g2_z hc_z
          replace hc_z := rn_iaload (N := 3) (q := i.toNatClampNeg) (v := rg_v h 10 i.toNatClampNeg) (am_cur_of (i := (33, 1, .iaload, (0, 0, 0), 0)) (by decide +kernel)) (by decide +kernel) rfl rfl hc_z
          obtain ⟨p14_z, hc_z⟩ := hc_z
          replace hc_z := rn_iload_n (am_cur_of (i := (34, 1, .iload_n 1, (0, 0, 0), 0)) (by decide +kernel)) g1_z hc_z
          replace hc_z := rn_cmp (am_cur_of (i := (35, 3, .if_icmp .ge 10, (28, 0, 0), 0)) (by decide +kernel)) hc_z
          rcases hc_z with ⟨b15_z, hc_z⟩ | ⟨b15_z, hc_z⟩
          · replace b15_z : m.toInt ≤ (rg_v h 10 i.toNatClampNeg).toInt := b15_z
            replace hc_z := rn_iinc (w := i + 1) (am_cur_of (i := (45, 3, .iinc 2 1, (0, 0, 0), 0)) (by decide +kernel)) g2_z rfl hc_z
            obtain ⟨_, s16_z, s17_z, g2_z, hc_z⟩ := hc_z
            replace g0_z := s16_z 0 _ (by decide) rfl g0_z
            replace g1_z := s16_z 1 _ (by decide) rfl g1_z
            clear s16_z s17_z
            replace hc_z := rn_gotoL (am_cur_of (i := (48, 3, .goto (-44), (4, 0, 0), 0)) (by decide +kernel)) hc_z
            obtain ⟨e1_z, e2_z⟩ := ih_z k _ (i + 1) _ _ g0_z g1_z g2_z (by omega) (by omega) n3_z hc_z
            exact ⟨e1_z.trans (congrArg (fun q => some (Value.int q)) (mnU_0 (k := k) (a := fun t => rg_v h 9 t) (b := fun t => rg_v h 10 t) (show ¬ (rg_v h 9 i.toNatClampNeg = 100 ∧ (m = -1 ∨ (rg_v h 10 i.toNatClampNeg).toInt < m.toInt)) from fun z => z.2.elim b8_z.1 (fun q => absurd q (by omega)))).symm), e2_z⟩
          · replace b15_z : (rg_v h 10 i.toNatClampNeg).toInt < m.toInt := b15_z
            replace hc_z := rn_aload_n (am_cur_of (i := (38, 1, .aload_n 0, (0, 0, 0), 0)) (by decide +kernel)) g0_z hc_z
            replace hc_z := rn_getR (x := 10) (am_cur_of (i := (39, 3, .getfield 36, (1, 15, 303), 0)) (by decide +kernel)) (by decide +kernel) hc_z
            replace hc_z := rn_iload_n (am_cur_of (i := (42, 1, .iload_n 2, (0, 0, 0), 0)) (by decide +kernel)) g2_z hc_z
            replace hc_z := rn_iaload (N := 3) (q := i.toNatClampNeg) (v := rg_v h 10 i.toNatClampNeg) (am_cur_of (i := (43, 1, .iaload, (0, 0, 0), 0)) (by decide +kernel)) (by decide +kernel) rfl rfl hc_z
            obtain ⟨p18_z, hc_z⟩ := hc_z
            replace hc_z := rn_istore_n (am_cur_of (i := (44, 1, .istore_n 1, (0, 0, 0), 0)) (by decide +kernel)) hc_z
            obtain ⟨_, s19_z, s20_z, g1_z, hc_z⟩ := hc_z
            replace g0_z := s19_z 0 _ (by decide) rfl g0_z
            replace g2_z := s19_z 2 _ (by decide) rfl g2_z
            clear s19_z s20_z
            replace hc_z := rn_iinc (w := i + 1) (am_cur_of (i := (45, 3, .iinc 2 1, (0, 0, 0), 0)) (by decide +kernel)) g2_z rfl hc_z
            obtain ⟨_, s21_z, s22_z, g2_z, hc_z⟩ := hc_z
            replace g0_z := s21_z 0 _ (by decide) rfl g0_z
            replace g1_z := s21_z 1 _ (by decide) rfl g1_z
            clear s21_z s22_z
            replace hc_z := rn_gotoL (am_cur_of (i := (48, 3, .goto (-44), (4, 0, 0), 0)) (by decide +kernel)) hc_z
            obtain ⟨e1_z, e2_z⟩ := ih_z k _ (i + 1) _ _ g0_z g1_z g2_z (by omega) (by omega) n3_z hc_z
            exact ⟨e1_z.trans (congrArg (fun q => some (Value.int q)) (mnU_1 (k := k) (a := fun t => rg_v h 9 t) (b := fun t => rg_v h 10 t) (show rg_v h 9 i.toNatClampNeg = 100 ∧ (m = -1 ∨ (rg_v h 10 i.toNatClampNeg).toInt < m.toInt) from ⟨b5_z.1, Or.inr b15_z⟩)).symm), e2_z⟩
theorem mn_119_2 {n : Nat} {r : Option Value} {h h' : am_H} (n0_z : 0 ≤ (rg_v h 2 12).toInt) (n3_z : (rg_v h 2 12).toInt ≤ 3) (hc_z : rn n am_m119 0 (lv_args 0 [.ref 2]) [] h r h') : r = some (.int (mnU (fun t => rg_v h 9 t) (fun t => rg_v h 10 t) (rg_v h 2 12).toNatClampNeg (-1) 0)) ∧ h' = h := by
  have g0_z : am_get (lv_args 0 [.ref 2]) 0 = some (.ref 2) := rfl
  replace hc_z := rn_iconst (w := (-1)) (am_cur_of (i := (0, 1, .iconst (-1), (0, 0, 0), 0)) (by decide +kernel)) (by decide) hc_z
  replace hc_z := rn_istore_n (am_cur_of (i := (1, 1, .istore_n 1, (0, 0, 0), 0)) (by decide +kernel)) hc_z
  obtain ⟨_, s23_z, s24_z, g1_z, hc_z⟩ := hc_z
  replace g0_z := s23_z 0 _ (by decide) rfl g0_z
  clear s23_z s24_z
  replace hc_z := rn_iconst (w := 0) (am_cur_of (i := (2, 1, .iconst 0, (0, 0, 0), 0)) (by decide +kernel)) (by decide) hc_z
  replace hc_z := rn_istore_n (am_cur_of (i := (3, 1, .istore_n 2, (0, 0, 0), 0)) (by decide +kernel)) hc_z
  obtain ⟨_, s25_z, s26_z, g2_z, hc_z⟩ := hc_z
  replace g0_z := s25_z 0 _ (by decide) rfl g0_z
  replace g1_z := s25_z 1 _ (by decide) rfl g1_z
  clear s25_z s26_z
  have cn := rt_cl n0_z
  exact mn_u2 _ (rg_v h 2 12).toNatClampNeg _ 0 _ _ g0_z g1_z g2_z (by decide) (by rw [show (0 : Int32).toInt = 0 by decide]; omega) n3_z hc_z
theorem mn_p2 {r : Option Value} {h' : am_H} : ∀ (f k : Nat) (j q i : Int32) (ls : am_L) (h : am_H), am_get ls 0 = some (.ref 2) → am_get ls 1 = some (.int j) → am_get ls 2 = some (.int q) → am_get ls 3 = some (.int i) → 0 ≤ i.toInt → i.toInt + k = (rg_v h 2 9).toInt → (rg_v h 2 9).toInt ≤ 6 → rn f am_m120 4 ls [] h r h' → r = some (.int (mnP (fun t => rg_v h 6 t) j k q i)) ∧ h' = h := by
  intro f
  induction f with
  | zero => intro k j q i ls h g0_z g1_z g2_z g3_z i0_z ik n6_z hc_z; exact absurd hc_z rn_0
  | succ f ih_z =>
    intro k j q i ls h g0_z g1_z g2_z g3_z i0_z ik n6_z hc_z
    replace hc_z := rn_iload_n (am_cur_of (i := (4, 1, .iload_n 3, (0, 0, 0), 0)) (by decide +kernel)) g3_z hc_z
    replace hc_z := rn_aload_n (am_cur_of (i := (5, 1, .aload_n 0, (0, 0, 0), 0)) (by decide +kernel)) g0_z hc_z
    replace hc_z := rn_getI (v := rg_v h 2 9) (am_cur_of (i := (6, 3, .getfield 69, (1, 9, 284), 0)) (by decide +kernel)) (by decide +kernel) rfl hc_z
    replace hc_z := rn_cmp (am_cur_of (i := (9, 3, .if_icmp .ge 47, (32, 0, 0), 0)) (by decide +kernel)) hc_z
    rcases hc_z with ⟨b27_z, hc_z⟩ | ⟨b27_z, hc_z⟩
    · replace b27_z : (rg_v h 2 9).toInt ≤ i.toInt := b27_z
      replace hc_z := rn_iload_n (am_cur_of (i := (56, 1, .iload_n 2, (0, 0, 0), 0)) (by decide +kernel)) g2_z hc_z
      replace hc_z := rn_iret (am_cur_of (i := (57, 1, .ireturn, (0, 0, 0), 0)) (by decide +kernel)) hc_z
      obtain ⟨e28_z, e29_z⟩ := hc_z
      obtain rfl : k = 0 := by omega
      exact ⟨e28_z, e29_z⟩
    · replace b27_z : i.toInt < (rg_v h 2 9).toInt := b27_z
      obtain ⟨k, rfl⟩ : ∃ k2_z, k = k2_z + 1 := ⟨k - 1, by omega⟩
      have ci_z := rt_cl i0_z
      have c1_z := rt_c1 i0_z (by omega)
      replace hc_z := rn_aload_n (am_cur_of (i := (12, 1, .aload_n 0, (0, 0, 0), 0)) (by decide +kernel)) g0_z hc_z
      replace hc_z := rn_getR (x := 6) (am_cur_of (i := (13, 3, .getfield 24, (1, 10, 287), 0)) (by decide +kernel)) (by decide +kernel) hc_z
      replace hc_z := rn_iload_n (am_cur_of (i := (16, 1, .iload_n 3, (0, 0, 0), 0)) (by decide +kernel)) g3_z hc_z
      replace hc_z := rn_iaload (N := 6) (q := i.toNatClampNeg) (v := rg_v h 6 i.toNatClampNeg) (am_cur_of (i := (17, 1, .iaload, (0, 0, 0), 0)) (by decide +kernel)) (by decide +kernel) rfl rfl hc_z
      obtain ⟨p30_z, hc_z⟩ := hc_z
      replace hc_z := rn_aload_n (am_cur_of (i := (18, 1, .aload_n 0, (0, 0, 0), 0)) (by decide +kernel)) g0_z hc_z
      replace hc_z := rn_getR (x := 6) (am_cur_of (i := (19, 3, .getfield 24, (1, 10, 287), 0)) (by decide +kernel)) (by decide +kernel) hc_z
      replace hc_z := rn_iload_n (am_cur_of (i := (22, 1, .iload_n 1, (0, 0, 0), 0)) (by decide +kernel)) g1_z hc_z
      replace hc_z := rn_iaload (N := 6) (q := j.toNatClampNeg) (v := rg_v h 6 j.toNatClampNeg) (am_cur_of (i := (23, 1, .iaload, (0, 0, 0), 0)) (by decide +kernel)) (by decide +kernel) rfl rfl hc_z
      obtain ⟨p31_z, hc_z⟩ := hc_z
      replace hc_z := rn_cmp (am_cur_of (i := (24, 3, .if_icmp .gt 23, (29, 0, 0), 0)) (by decide +kernel)) hc_z
      rcases hc_z with ⟨b32_z, hc_z⟩ | ⟨b32_z, hc_z⟩
      · replace b32_z : (rg_v h 6 j.toNatClampNeg).toInt < (rg_v h 6 i.toNatClampNeg).toInt := b32_z
        replace hc_z := rn_iinc (w := q + 1) (am_cur_of (i := (47, 3, .iinc 2 1, (0, 0, 0), 0)) (by decide +kernel)) g2_z rfl hc_z
        obtain ⟨_, s33_z, s34_z, g2_z, hc_z⟩ := hc_z
        replace g0_z := s33_z 0 _ (by decide) rfl g0_z
        replace g1_z := s33_z 1 _ (by decide) rfl g1_z
        replace g3_z := s33_z 3 _ (by decide) rfl g3_z
        clear s33_z s34_z
        replace hc_z := rn_iinc (w := i + 1) (am_cur_of (i := (50, 3, .iinc 3 1, (0, 0, 0), 0)) (by decide +kernel)) g3_z rfl hc_z
        obtain ⟨_, s35_z, s36_z, g3_z, hc_z⟩ := hc_z
        replace g0_z := s35_z 0 _ (by decide) rfl g0_z
        replace g1_z := s35_z 1 _ (by decide) rfl g1_z
        replace g2_z := s35_z 2 _ (by decide) rfl g2_z
        clear s35_z s36_z
        replace hc_z := rn_gotoL (am_cur_of (i := (53, 3, .goto (-49), (4, 0, 0), 0)) (by decide +kernel)) hc_z
        obtain ⟨e1_z, e2_z⟩ := ih_z k j _ (i + 1) _ _ g0_z g1_z g2_z g3_z (by omega) (by omega) n6_z hc_z
        exact ⟨e1_z.trans (congrArg (fun q => some (Value.int q)) (mnP_1 (k := k) (q := q) (w := fun t => rg_v h 6 t) (show (rg_v h 6 j.toNatClampNeg).toInt < (rg_v h 6 i.toNatClampNeg).toInt ∨ (rg_v h 6 i.toNatClampNeg = rg_v h 6 j.toNatClampNeg ∧ i.toInt < j.toInt) from Or.inl b32_z)).symm), e2_z⟩
      · replace b32_z : (rg_v h 6 i.toNatClampNeg).toInt ≤ (rg_v h 6 j.toNatClampNeg).toInt := b32_z
        replace hc_z := rn_aload_n (am_cur_of (i := (27, 1, .aload_n 0, (0, 0, 0), 0)) (by decide +kernel)) g0_z hc_z
        replace hc_z := rn_getR (x := 6) (am_cur_of (i := (28, 3, .getfield 24, (1, 10, 287), 0)) (by decide +kernel)) (by decide +kernel) hc_z
        replace hc_z := rn_iload_n (am_cur_of (i := (31, 1, .iload_n 3, (0, 0, 0), 0)) (by decide +kernel)) g3_z hc_z
        replace hc_z := rn_iaload (N := 6) (q := i.toNatClampNeg) (v := rg_v h 6 i.toNatClampNeg) (am_cur_of (i := (32, 1, .iaload, (0, 0, 0), 0)) (by decide +kernel)) (by decide +kernel) rfl rfl hc_z
        obtain ⟨p37_z, hc_z⟩ := hc_z
        replace hc_z := rn_aload_n (am_cur_of (i := (33, 1, .aload_n 0, (0, 0, 0), 0)) (by decide +kernel)) g0_z hc_z
        replace hc_z := rn_getR (x := 6) (am_cur_of (i := (34, 3, .getfield 24, (1, 10, 287), 0)) (by decide +kernel)) (by decide +kernel) hc_z
        replace hc_z := rn_iload_n (am_cur_of (i := (37, 1, .iload_n 1, (0, 0, 0), 0)) (by decide +kernel)) g1_z hc_z
        replace hc_z := rn_iaload (N := 6) (q := j.toNatClampNeg) (v := rg_v h 6 j.toNatClampNeg) (am_cur_of (i := (38, 1, .iaload, (0, 0, 0), 0)) (by decide +kernel)) (by decide +kernel) rfl rfl hc_z
        obtain ⟨p38_z, hc_z⟩ := hc_z
        replace hc_z := rn_cmp (am_cur_of (i := (39, 3, .if_icmp .ne 11, (30, 0, 0), 0)) (by decide +kernel)) hc_z
        rcases hc_z with ⟨b39_z, hc_z⟩ | ⟨b39_z, hc_z⟩
        · replace b39_z : ¬ (rg_v h 6 i.toNatClampNeg) = (rg_v h 6 j.toNatClampNeg) ∧ ¬ (rg_v h 6 i.toNatClampNeg).toInt = (rg_v h 6 j.toNatClampNeg).toInt := b39_z
          replace hc_z := rn_iinc (w := i + 1) (am_cur_of (i := (50, 3, .iinc 3 1, (0, 0, 0), 0)) (by decide +kernel)) g3_z rfl hc_z
          obtain ⟨_, s40_z, s41_z, g3_z, hc_z⟩ := hc_z
          replace g0_z := s40_z 0 _ (by decide) rfl g0_z
          replace g1_z := s40_z 1 _ (by decide) rfl g1_z
          replace g2_z := s40_z 2 _ (by decide) rfl g2_z
          clear s40_z s41_z
          replace hc_z := rn_gotoL (am_cur_of (i := (53, 3, .goto (-49), (4, 0, 0), 0)) (by decide +kernel)) hc_z
          obtain ⟨e1_z, e2_z⟩ := ih_z k j _ (i + 1) _ _ g0_z g1_z g2_z g3_z (by omega) (by omega) n6_z hc_z
          exact ⟨e1_z.trans (congrArg (fun q => some (Value.int q)) (mnP_0 (k := k) (q := q) (w := fun t => rg_v h 6 t) (show ¬ ((rg_v h 6 j.toNatClampNeg).toInt < (rg_v h 6 i.toNatClampNeg).toInt ∨ (rg_v h 6 i.toNatClampNeg = rg_v h 6 j.toNatClampNeg ∧ i.toInt < j.toInt)) from fun z => z.elim (fun q => absurd q (by omega)) (fun q => b39_z.1 q.1))).symm), e2_z⟩
        · replace b39_z : (rg_v h 6 i.toNatClampNeg) = (rg_v h 6 j.toNatClampNeg) ∧ (rg_v h 6 i.toNatClampNeg).toInt = (rg_v h 6 j.toNatClampNeg).toInt := b39_z
          replace hc_z := rn_iload_n (am_cur_of (i := (42, 1, .iload_n 3, (0, 0, 0), 0)) (by decide +kernel)) g3_z hc_z
          replace hc_z := rn_iload_n (am_cur_of (i := (43, 1, .iload_n 1, (0, 0, 0), 0)) (by decide +kernel)) g1_z hc_z
          replace hc_z := rn_cmp (am_cur_of (i := (44, 3, .if_icmp .ge 6, (30, 0, 0), 0)) (by decide +kernel)) hc_z
          rcases hc_z with ⟨b42_z, hc_z⟩ | ⟨b42_z, hc_z⟩
          · replace b42_z : j.toInt ≤ i.toInt := b42_z
            replace hc_z := rn_iinc (w := i + 1) (am_cur_of (i := (50, 3, .iinc 3 1, (0, 0, 0), 0)) (by decide +kernel)) g3_z rfl hc_z
            obtain ⟨_, s43_z, s44_z, g3_z, hc_z⟩ := hc_z
            replace g0_z := s43_z 0 _ (by decide) rfl g0_z
            replace g1_z := s43_z 1 _ (by decide) rfl g1_z
            replace g2_z := s43_z 2 _ (by decide) rfl g2_z
            clear s43_z s44_z
            replace hc_z := rn_gotoL (am_cur_of (i := (53, 3, .goto (-49), (4, 0, 0), 0)) (by decide +kernel)) hc_z
            obtain ⟨e1_z, e2_z⟩ := ih_z k j _ (i + 1) _ _ g0_z g1_z g2_z g3_z (by omega) (by omega) n6_z hc_z
            exact ⟨e1_z.trans (congrArg (fun q => some (Value.int q)) (mnP_0 (k := k) (q := q) (w := fun t => rg_v h 6 t) (show ¬ ((rg_v h 6 j.toNatClampNeg).toInt < (rg_v h 6 i.toNatClampNeg).toInt ∨ (rg_v h 6 i.toNatClampNeg = rg_v h 6 j.toNatClampNeg ∧ i.toInt < j.toInt)) from fun z => z.elim (fun q => absurd q (by omega)) (fun q => absurd q.2 (by omega)))).symm), e2_z⟩
          · replace b42_z : i.toInt < j.toInt := b42_z
            replace hc_z := rn_iinc (w := q + 1) (am_cur_of (i := (47, 3, .iinc 2 1, (0, 0, 0), 0)) (by decide +kernel)) g2_z rfl hc_z
            obtain ⟨_, s45_z, s46_z, g2_z, hc_z⟩ := hc_z
            replace g0_z := s45_z 0 _ (by decide) rfl g0_z
            replace g1_z := s45_z 1 _ (by decide) rfl g1_z
            replace g3_z := s45_z 3 _ (by decide) rfl g3_z
            clear s45_z s46_z
            replace hc_z := rn_iinc (w := i + 1) (am_cur_of (i := (50, 3, .iinc 3 1, (0, 0, 0), 0)) (by decide +kernel)) g3_z rfl hc_z
            obtain ⟨_, s47_z, s48_z, g3_z, hc_z⟩ := hc_z
            replace g0_z := s47_z 0 _ (by decide) rfl g0_z
            replace g1_z := s47_z 1 _ (by decide) rfl g1_z
            replace g2_z := s47_z 2 _ (by decide) rfl g2_z
            clear s47_z s48_z
            replace hc_z := rn_gotoL (am_cur_of (i := (53, 3, .goto (-49), (4, 0, 0), 0)) (by decide +kernel)) hc_z
            obtain ⟨e1_z, e2_z⟩ := ih_z k j _ (i + 1) _ _ g0_z g1_z g2_z g3_z (by omega) (by omega) n6_z hc_z
            exact ⟨e1_z.trans (congrArg (fun q => some (Value.int q)) (mnP_1 (k := k) (q := q) (w := fun t => rg_v h 6 t) (show (rg_v h 6 j.toNatClampNeg).toInt < (rg_v h 6 i.toNatClampNeg).toInt ∨ (rg_v h 6 i.toNatClampNeg = rg_v h 6 j.toNatClampNeg ∧ i.toInt < j.toInt) from Or.inr ⟨b39_z.1, b42_z⟩)).symm), e2_z⟩
theorem mn_120_2 {n : Nat} {r : Option Value} {h h' : am_H} {j : Int32} (n0_z : 0 ≤ (rg_v h 2 9).toInt) (n6_z : (rg_v h 2 9).toInt ≤ 6) (hc_z : rn n am_m120 0 (lv_args 0 [.ref 2, .int j]) [] h r h') : r = some (.int (mnP (fun t => rg_v h 6 t) j (rg_v h 2 9).toNatClampNeg 1 0)) ∧ h' = h := by
  have g0_z : am_get (lv_args 0 [.ref 2, .int j]) 0 = some (.ref 2) := rfl
  have g1_z : am_get (lv_args 0 [.ref 2, .int j]) 1 = some (.int j) := rfl
  replace hc_z := rn_iconst (w := 1) (am_cur_of (i := (0, 1, .iconst 1, (0, 0, 0), 0)) (by decide +kernel)) (by decide) hc_z
  replace hc_z := rn_istore_n (am_cur_of (i := (1, 1, .istore_n 2, (0, 0, 0), 0)) (by decide +kernel)) hc_z
  obtain ⟨_, s49_z, s50_z, g2_z, hc_z⟩ := hc_z
  replace g0_z := s49_z 0 _ (by decide) rfl g0_z
  replace g1_z := s49_z 1 _ (by decide) rfl g1_z
  clear s49_z s50_z
  replace hc_z := rn_iconst (w := 0) (am_cur_of (i := (2, 1, .iconst 0, (0, 0, 0), 0)) (by decide +kernel)) (by decide) hc_z
  replace hc_z := rn_istore_n (am_cur_of (i := (3, 1, .istore_n 3, (0, 0, 0), 0)) (by decide +kernel)) hc_z
  obtain ⟨_, s51_z, s52_z, g3_z, hc_z⟩ := hc_z
  replace g0_z := s51_z 0 _ (by decide) rfl g0_z
  replace g1_z := s51_z 1 _ (by decide) rfl g1_z
  replace g2_z := s51_z 2 _ (by decide) rfl g2_z
  clear s51_z s52_z
  have cn := rt_cl n0_z
  exact mn_p2 _ (rg_v h 2 9).toNatClampNeg j 1 0 _ _ g0_z g1_z g2_z g3_z (by decide) (by rw [show (0 : Int32).toInt = 0 by decide]; omega) n6_z hc_z
theorem mn_u23 {r : Option Value} {h' : am_H} : ∀ (f k : Nat) (m i : Int32) (ls : am_L) (h : am_H), am_get ls 0 = some (.ref 23) → am_get ls 1 = some (.int m) → am_get ls 2 = some (.int i) → 0 ≤ i.toInt → i.toInt + k = (rg_v h 23 12).toInt → (rg_v h 23 12).toInt ≤ 3 → rn f am_m119 4 ls [] h r h' → r = some (.int (mnU (fun t => rg_v h 30 t) (fun t => rg_v h 31 t) k m i)) ∧ h' = h := by
  intro f
  induction f with
  | zero => intro k m i ls h g0_z g1_z g2_z i0_z ik n3_z hc_z; exact absurd hc_z rn_0
  | succ f ih_z =>
    intro k m i ls h g0_z g1_z g2_z i0_z ik n3_z hc_z
    have zm1_z : ((-1) : Int32).toInt = (-1) := by decide
    have z100_z : (100 : Int32).toInt = 100 := by decide
    replace hc_z := rn_iload_n (am_cur_of (i := (4, 1, .iload_n 2, (0, 0, 0), 0)) (by decide +kernel)) g2_z hc_z
    replace hc_z := rn_aload_n (am_cur_of (i := (5, 1, .aload_n 0, (0, 0, 0), 0)) (by decide +kernel)) g0_z hc_z
    replace hc_z := rn_getI (v := rg_v h 23 12) (am_cur_of (i := (6, 3, .getfield 72, (1, 12, 294), 0)) (by decide +kernel)) (by decide +kernel) rfl hc_z
    replace hc_z := rn_cmp (am_cur_of (i := (9, 3, .if_icmp .ge 42, (30, 0, 0), 0)) (by decide +kernel)) hc_z
    rcases hc_z with ⟨b53_z, hc_z⟩ | ⟨b53_z, hc_z⟩
    · replace b53_z : (rg_v h 23 12).toInt ≤ i.toInt := b53_z
      replace hc_z := rn_iload_n (am_cur_of (i := (51, 1, .iload_n 1, (0, 0, 0), 0)) (by decide +kernel)) g1_z hc_z
      replace hc_z := rn_iret (am_cur_of (i := (52, 1, .ireturn, (0, 0, 0), 0)) (by decide +kernel)) hc_z
      obtain ⟨e54_z, e55_z⟩ := hc_z
      obtain rfl : k = 0 := by omega
      exact ⟨e54_z, e55_z⟩
    · replace b53_z : i.toInt < (rg_v h 23 12).toInt := b53_z
      obtain ⟨k, rfl⟩ : ∃ k2_z, k = k2_z + 1 := ⟨k - 1, by omega⟩
      have ci_z := rt_cl i0_z
      have c1_z := rt_c1 i0_z (by omega)
      replace hc_z := rn_aload_n (am_cur_of (i := (12, 1, .aload_n 0, (0, 0, 0), 0)) (by decide +kernel)) g0_z hc_z
      replace hc_z := rn_getR (x := 30) (am_cur_of (i := (13, 3, .getfield 33, (1, 14, 300), 0)) (by decide +kernel)) (by decide +kernel) hc_z
      replace hc_z := rn_iload_n (am_cur_of (i := (16, 1, .iload_n 2, (0, 0, 0), 0)) (by decide +kernel)) g2_z hc_z
      replace hc_z := rn_iaload (N := 3) (q := i.toNatClampNeg) (v := rg_v h 30 i.toNatClampNeg) (am_cur_of (i := (17, 1, .iaload, (0, 0, 0), 0)) (by decide +kernel)) (by decide +kernel) rfl rfl hc_z
      obtain ⟨p56_z, hc_z⟩ := hc_z
      replace hc_z := rn_bipush (w := 100) (am_cur_of (i := (18, 2, .bipush 100, (0, 0, 0), 0)) (by decide +kernel)) (by decide) hc_z
      replace hc_z := rn_cmp (am_cur_of (i := (20, 3, .if_icmp .ne 25, (28, 0, 0), 0)) (by decide +kernel)) hc_z
      rcases hc_z with ⟨b57_z, hc_z⟩ | ⟨b57_z, hc_z⟩
      · replace b57_z : ¬ (rg_v h 30 i.toNatClampNeg) = (100 : Int32) ∧ ¬ (rg_v h 30 i.toNatClampNeg).toInt = (100 : Int32).toInt := b57_z
        replace hc_z := rn_iinc (w := i + 1) (am_cur_of (i := (45, 3, .iinc 2 1, (0, 0, 0), 0)) (by decide +kernel)) g2_z rfl hc_z
        obtain ⟨_, s58_z, s59_z, g2_z, hc_z⟩ := hc_z
        replace g0_z := s58_z 0 _ (by decide) rfl g0_z
        replace g1_z := s58_z 1 _ (by decide) rfl g1_z
        clear s58_z s59_z
        replace hc_z := rn_gotoL (am_cur_of (i := (48, 3, .goto (-44), (4, 0, 0), 0)) (by decide +kernel)) hc_z
        obtain ⟨e1_z, e2_z⟩ := ih_z k _ (i + 1) _ _ g0_z g1_z g2_z (by omega) (by omega) n3_z hc_z
        exact ⟨e1_z.trans (congrArg (fun q => some (Value.int q)) (mnU_0 (k := k) (a := fun t => rg_v h 30 t) (b := fun t => rg_v h 31 t) (show ¬ (rg_v h 30 i.toNatClampNeg = 100 ∧ (m = -1 ∨ (rg_v h 31 i.toNatClampNeg).toInt < m.toInt)) from fun z => b57_z.1 z.1)).symm), e2_z⟩
      · replace b57_z : (rg_v h 30 i.toNatClampNeg) = (100 : Int32) ∧ (rg_v h 30 i.toNatClampNeg).toInt = (100 : Int32).toInt := b57_z
        replace hc_z := rn_iload_n (am_cur_of (i := (23, 1, .iload_n 1, (0, 0, 0), 0)) (by decide +kernel)) g1_z hc_z
        replace hc_z := rn_iconst (w := (-1)) (am_cur_of (i := (24, 1, .iconst (-1), (0, 0, 0), 0)) (by decide +kernel)) (by decide) hc_z
        replace hc_z := rn_cmp (am_cur_of (i := (25, 3, .if_icmp .eq 13, (23, 0, 0), 0)) (by decide +kernel)) hc_z
        rcases hc_z with ⟨b60_z, hc_z⟩ | ⟨b60_z, hc_z⟩
        · replace b60_z : m = ((-1) : Int32) ∧ m.toInt = ((-1) : Int32).toInt := b60_z
          replace hc_z := rn_aload_n (am_cur_of (i := (38, 1, .aload_n 0, (0, 0, 0), 0)) (by decide +kernel)) g0_z hc_z
          replace hc_z := rn_getR (x := 31) (am_cur_of (i := (39, 3, .getfield 36, (1, 15, 303), 0)) (by decide +kernel)) (by decide +kernel) hc_z
          replace hc_z := rn_iload_n (am_cur_of (i := (42, 1, .iload_n 2, (0, 0, 0), 0)) (by decide +kernel)) g2_z hc_z
          replace hc_z := rn_iaload (N := 3) (q := i.toNatClampNeg) (v := rg_v h 31 i.toNatClampNeg) (am_cur_of (i := (43, 1, .iaload, (0, 0, 0), 0)) (by decide +kernel)) (by decide +kernel) rfl rfl hc_z
          obtain ⟨p61_z, hc_z⟩ := hc_z
          replace hc_z := rn_istore_n (am_cur_of (i := (44, 1, .istore_n 1, (0, 0, 0), 0)) (by decide +kernel)) hc_z
          obtain ⟨_, s62_z, s63_z, g1_z, hc_z⟩ := hc_z
          replace g0_z := s62_z 0 _ (by decide) rfl g0_z
          replace g2_z := s62_z 2 _ (by decide) rfl g2_z
          clear s62_z s63_z
          replace hc_z := rn_iinc (w := i + 1) (am_cur_of (i := (45, 3, .iinc 2 1, (0, 0, 0), 0)) (by decide +kernel)) g2_z rfl hc_z
          obtain ⟨_, s64_z, s65_z, g2_z, hc_z⟩ := hc_z
          replace g0_z := s64_z 0 _ (by decide) rfl g0_z
          replace g1_z := s64_z 1 _ (by decide) rfl g1_z
          clear s64_z s65_z
          replace hc_z := rn_gotoL (am_cur_of (i := (48, 3, .goto (-44), (4, 0, 0), 0)) (by decide +kernel)) hc_z
          obtain ⟨e1_z, e2_z⟩ := ih_z k _ (i + 1) _ _ g0_z g1_z g2_z (by omega) (by omega) n3_z hc_z
          exact ⟨e1_z.trans (congrArg (fun q => some (Value.int q)) (mnU_1 (k := k) (a := fun t => rg_v h 30 t) (b := fun t => rg_v h 31 t) (show rg_v h 30 i.toNatClampNeg = 100 ∧ (m = -1 ∨ (rg_v h 31 i.toNatClampNeg).toInt < m.toInt) from ⟨b57_z.1, Or.inl b60_z.1⟩)).symm), e2_z⟩
        · replace b60_z : ¬ m = ((-1) : Int32) ∧ ¬ m.toInt = ((-1) : Int32).toInt := b60_z
          replace hc_z := rn_aload_n (am_cur_of (i := (28, 1, .aload_n 0, (0, 0, 0), 0)) (by decide +kernel)) g0_z hc_z
          replace hc_z := rn_getR (x := 31) (am_cur_of (i := (29, 3, .getfield 36, (1, 15, 303), 0)) (by decide +kernel)) (by decide +kernel) hc_z
          replace hc_z := rn_iload_n (am_cur_of (i := (32, 1, .iload_n 2, (0, 0, 0), 0)) (by decide +kernel)) g2_z hc_z
          replace hc_z := rn_iaload (N := 3) (q := i.toNatClampNeg) (v := rg_v h 31 i.toNatClampNeg) (am_cur_of (i := (33, 1, .iaload, (0, 0, 0), 0)) (by decide +kernel)) (by decide +kernel) rfl rfl hc_z
          obtain ⟨p66_z, hc_z⟩ := hc_z
          replace hc_z := rn_iload_n (am_cur_of (i := (34, 1, .iload_n 1, (0, 0, 0), 0)) (by decide +kernel)) g1_z hc_z
          replace hc_z := rn_cmp (am_cur_of (i := (35, 3, .if_icmp .ge 10, (28, 0, 0), 0)) (by decide +kernel)) hc_z
          rcases hc_z with ⟨b67_z, hc_z⟩ | ⟨b67_z, hc_z⟩
          · replace b67_z : m.toInt ≤ (rg_v h 31 i.toNatClampNeg).toInt := b67_z
            replace hc_z := rn_iinc (w := i + 1) (am_cur_of (i := (45, 3, .iinc 2 1, (0, 0, 0), 0)) (by decide +kernel)) g2_z rfl hc_z
            obtain ⟨_, s68_z, s69_z, g2_z, hc_z⟩ := hc_z
            replace g0_z := s68_z 0 _ (by decide) rfl g0_z
            replace g1_z := s68_z 1 _ (by decide) rfl g1_z
            clear s68_z s69_z
            replace hc_z := rn_gotoL (am_cur_of (i := (48, 3, .goto (-44), (4, 0, 0), 0)) (by decide +kernel)) hc_z
            obtain ⟨e1_z, e2_z⟩ := ih_z k _ (i + 1) _ _ g0_z g1_z g2_z (by omega) (by omega) n3_z hc_z
            exact ⟨e1_z.trans (congrArg (fun q => some (Value.int q)) (mnU_0 (k := k) (a := fun t => rg_v h 30 t) (b := fun t => rg_v h 31 t) (show ¬ (rg_v h 30 i.toNatClampNeg = 100 ∧ (m = -1 ∨ (rg_v h 31 i.toNatClampNeg).toInt < m.toInt)) from fun z => z.2.elim b60_z.1 (fun q => absurd q (by omega)))).symm), e2_z⟩
          · replace b67_z : (rg_v h 31 i.toNatClampNeg).toInt < m.toInt := b67_z
            replace hc_z := rn_aload_n (am_cur_of (i := (38, 1, .aload_n 0, (0, 0, 0), 0)) (by decide +kernel)) g0_z hc_z
            replace hc_z := rn_getR (x := 31) (am_cur_of (i := (39, 3, .getfield 36, (1, 15, 303), 0)) (by decide +kernel)) (by decide +kernel) hc_z
            replace hc_z := rn_iload_n (am_cur_of (i := (42, 1, .iload_n 2, (0, 0, 0), 0)) (by decide +kernel)) g2_z hc_z
            replace hc_z := rn_iaload (N := 3) (q := i.toNatClampNeg) (v := rg_v h 31 i.toNatClampNeg) (am_cur_of (i := (43, 1, .iaload, (0, 0, 0), 0)) (by decide +kernel)) (by decide +kernel) rfl rfl hc_z
            obtain ⟨p70_z, hc_z⟩ := hc_z
            replace hc_z := rn_istore_n (am_cur_of (i := (44, 1, .istore_n 1, (0, 0, 0), 0)) (by decide +kernel)) hc_z
            obtain ⟨_, s71_z, s72_z, g1_z, hc_z⟩ := hc_z
            replace g0_z := s71_z 0 _ (by decide) rfl g0_z
            replace g2_z := s71_z 2 _ (by decide) rfl g2_z
            clear s71_z s72_z
            replace hc_z := rn_iinc (w := i + 1) (am_cur_of (i := (45, 3, .iinc 2 1, (0, 0, 0), 0)) (by decide +kernel)) g2_z rfl hc_z
            obtain ⟨_, s73_z, s74_z, g2_z, hc_z⟩ := hc_z
            replace g0_z := s73_z 0 _ (by decide) rfl g0_z
            replace g1_z := s73_z 1 _ (by decide) rfl g1_z
            clear s73_z s74_z
            replace hc_z := rn_gotoL (am_cur_of (i := (48, 3, .goto (-44), (4, 0, 0), 0)) (by decide +kernel)) hc_z
            obtain ⟨e1_z, e2_z⟩ := ih_z k _ (i + 1) _ _ g0_z g1_z g2_z (by omega) (by omega) n3_z hc_z
            exact ⟨e1_z.trans (congrArg (fun q => some (Value.int q)) (mnU_1 (k := k) (a := fun t => rg_v h 30 t) (b := fun t => rg_v h 31 t) (show rg_v h 30 i.toNatClampNeg = 100 ∧ (m = -1 ∨ (rg_v h 31 i.toNatClampNeg).toInt < m.toInt) from ⟨b57_z.1, Or.inr b67_z⟩)).symm), e2_z⟩
theorem mn_119_23 {n : Nat} {r : Option Value} {h h' : am_H} (n0_z : 0 ≤ (rg_v h 23 12).toInt) (n3_z : (rg_v h 23 12).toInt ≤ 3) (hc_z : rn n am_m119 0 (lv_args 0 [.ref 23]) [] h r h') : r = some (.int (mnU (fun t => rg_v h 30 t) (fun t => rg_v h 31 t) (rg_v h 23 12).toNatClampNeg (-1) 0)) ∧ h' = h := by
  have g0_z : am_get (lv_args 0 [.ref 23]) 0 = some (.ref 23) := rfl
  replace hc_z := rn_iconst (w := (-1)) (am_cur_of (i := (0, 1, .iconst (-1), (0, 0, 0), 0)) (by decide +kernel)) (by decide) hc_z
  replace hc_z := rn_istore_n (am_cur_of (i := (1, 1, .istore_n 1, (0, 0, 0), 0)) (by decide +kernel)) hc_z
  obtain ⟨_, s75_z, s76_z, g1_z, hc_z⟩ := hc_z
  replace g0_z := s75_z 0 _ (by decide) rfl g0_z
  clear s75_z s76_z
  replace hc_z := rn_iconst (w := 0) (am_cur_of (i := (2, 1, .iconst 0, (0, 0, 0), 0)) (by decide +kernel)) (by decide) hc_z
  replace hc_z := rn_istore_n (am_cur_of (i := (3, 1, .istore_n 2, (0, 0, 0), 0)) (by decide +kernel)) hc_z
  obtain ⟨_, s77_z, s78_z, g2_z, hc_z⟩ := hc_z
  replace g0_z := s77_z 0 _ (by decide) rfl g0_z
  replace g1_z := s77_z 1 _ (by decide) rfl g1_z
  clear s77_z s78_z
  have cn := rt_cl n0_z
  exact mn_u23 _ (rg_v h 23 12).toNatClampNeg _ 0 _ _ g0_z g1_z g2_z (by decide) (by rw [show (0 : Int32).toInt = 0 by decide]; omega) n3_z hc_z
theorem mn_p23 {r : Option Value} {h' : am_H} : ∀ (f k : Nat) (j q i : Int32) (ls : am_L) (h : am_H), am_get ls 0 = some (.ref 23) → am_get ls 1 = some (.int j) → am_get ls 2 = some (.int q) → am_get ls 3 = some (.int i) → 0 ≤ i.toInt → i.toInt + k = (rg_v h 23 9).toInt → (rg_v h 23 9).toInt ≤ 6 → rn f am_m120 4 ls [] h r h' → r = some (.int (mnP (fun t => rg_v h 27 t) j k q i)) ∧ h' = h := by
  intro f
  induction f with
  | zero => intro k j q i ls h g0_z g1_z g2_z g3_z i0_z ik n6_z hc_z; exact absurd hc_z rn_0
  | succ f ih_z =>
    intro k j q i ls h g0_z g1_z g2_z g3_z i0_z ik n6_z hc_z
    replace hc_z := rn_iload_n (am_cur_of (i := (4, 1, .iload_n 3, (0, 0, 0), 0)) (by decide +kernel)) g3_z hc_z
    replace hc_z := rn_aload_n (am_cur_of (i := (5, 1, .aload_n 0, (0, 0, 0), 0)) (by decide +kernel)) g0_z hc_z
    replace hc_z := rn_getI (v := rg_v h 23 9) (am_cur_of (i := (6, 3, .getfield 69, (1, 9, 284), 0)) (by decide +kernel)) (by decide +kernel) rfl hc_z
    replace hc_z := rn_cmp (am_cur_of (i := (9, 3, .if_icmp .ge 47, (32, 0, 0), 0)) (by decide +kernel)) hc_z
    rcases hc_z with ⟨b79_z, hc_z⟩ | ⟨b79_z, hc_z⟩
    · replace b79_z : (rg_v h 23 9).toInt ≤ i.toInt := b79_z
      replace hc_z := rn_iload_n (am_cur_of (i := (56, 1, .iload_n 2, (0, 0, 0), 0)) (by decide +kernel)) g2_z hc_z
      replace hc_z := rn_iret (am_cur_of (i := (57, 1, .ireturn, (0, 0, 0), 0)) (by decide +kernel)) hc_z
      obtain ⟨e80_z, e81_z⟩ := hc_z
      obtain rfl : k = 0 := by omega
      exact ⟨e80_z, e81_z⟩
    · replace b79_z : i.toInt < (rg_v h 23 9).toInt := b79_z
      obtain ⟨k, rfl⟩ : ∃ k2_z, k = k2_z + 1 := ⟨k - 1, by omega⟩
      have ci_z := rt_cl i0_z
      have c1_z := rt_c1 i0_z (by omega)
      replace hc_z := rn_aload_n (am_cur_of (i := (12, 1, .aload_n 0, (0, 0, 0), 0)) (by decide +kernel)) g0_z hc_z
      replace hc_z := rn_getR (x := 27) (am_cur_of (i := (13, 3, .getfield 24, (1, 10, 287), 0)) (by decide +kernel)) (by decide +kernel) hc_z
      replace hc_z := rn_iload_n (am_cur_of (i := (16, 1, .iload_n 3, (0, 0, 0), 0)) (by decide +kernel)) g3_z hc_z
      replace hc_z := rn_iaload (N := 6) (q := i.toNatClampNeg) (v := rg_v h 27 i.toNatClampNeg) (am_cur_of (i := (17, 1, .iaload, (0, 0, 0), 0)) (by decide +kernel)) (by decide +kernel) rfl rfl hc_z
      obtain ⟨p82_z, hc_z⟩ := hc_z
      replace hc_z := rn_aload_n (am_cur_of (i := (18, 1, .aload_n 0, (0, 0, 0), 0)) (by decide +kernel)) g0_z hc_z
      replace hc_z := rn_getR (x := 27) (am_cur_of (i := (19, 3, .getfield 24, (1, 10, 287), 0)) (by decide +kernel)) (by decide +kernel) hc_z
      replace hc_z := rn_iload_n (am_cur_of (i := (22, 1, .iload_n 1, (0, 0, 0), 0)) (by decide +kernel)) g1_z hc_z
      replace hc_z := rn_iaload (N := 6) (q := j.toNatClampNeg) (v := rg_v h 27 j.toNatClampNeg) (am_cur_of (i := (23, 1, .iaload, (0, 0, 0), 0)) (by decide +kernel)) (by decide +kernel) rfl rfl hc_z
      obtain ⟨p83_z, hc_z⟩ := hc_z
      replace hc_z := rn_cmp (am_cur_of (i := (24, 3, .if_icmp .gt 23, (29, 0, 0), 0)) (by decide +kernel)) hc_z
      rcases hc_z with ⟨b84_z, hc_z⟩ | ⟨b84_z, hc_z⟩
      · replace b84_z : (rg_v h 27 j.toNatClampNeg).toInt < (rg_v h 27 i.toNatClampNeg).toInt := b84_z
        replace hc_z := rn_iinc (w := q + 1) (am_cur_of (i := (47, 3, .iinc 2 1, (0, 0, 0), 0)) (by decide +kernel)) g2_z rfl hc_z
        obtain ⟨_, s85_z, s86_z, g2_z, hc_z⟩ := hc_z
        replace g0_z := s85_z 0 _ (by decide) rfl g0_z
        replace g1_z := s85_z 1 _ (by decide) rfl g1_z
        replace g3_z := s85_z 3 _ (by decide) rfl g3_z
        clear s85_z s86_z
        replace hc_z := rn_iinc (w := i + 1) (am_cur_of (i := (50, 3, .iinc 3 1, (0, 0, 0), 0)) (by decide +kernel)) g3_z rfl hc_z
        obtain ⟨_, s87_z, s88_z, g3_z, hc_z⟩ := hc_z
        replace g0_z := s87_z 0 _ (by decide) rfl g0_z
        replace g1_z := s87_z 1 _ (by decide) rfl g1_z
        replace g2_z := s87_z 2 _ (by decide) rfl g2_z
        clear s87_z s88_z
        replace hc_z := rn_gotoL (am_cur_of (i := (53, 3, .goto (-49), (4, 0, 0), 0)) (by decide +kernel)) hc_z
        obtain ⟨e1_z, e2_z⟩ := ih_z k j _ (i + 1) _ _ g0_z g1_z g2_z g3_z (by omega) (by omega) n6_z hc_z
        exact ⟨e1_z.trans (congrArg (fun q => some (Value.int q)) (mnP_1 (k := k) (q := q) (w := fun t => rg_v h 27 t) (show (rg_v h 27 j.toNatClampNeg).toInt < (rg_v h 27 i.toNatClampNeg).toInt ∨ (rg_v h 27 i.toNatClampNeg = rg_v h 27 j.toNatClampNeg ∧ i.toInt < j.toInt) from Or.inl b84_z)).symm), e2_z⟩
      · replace b84_z : (rg_v h 27 i.toNatClampNeg).toInt ≤ (rg_v h 27 j.toNatClampNeg).toInt := b84_z
        replace hc_z := rn_aload_n (am_cur_of (i := (27, 1, .aload_n 0, (0, 0, 0), 0)) (by decide +kernel)) g0_z hc_z
        replace hc_z := rn_getR (x := 27) (am_cur_of (i := (28, 3, .getfield 24, (1, 10, 287), 0)) (by decide +kernel)) (by decide +kernel) hc_z
        replace hc_z := rn_iload_n (am_cur_of (i := (31, 1, .iload_n 3, (0, 0, 0), 0)) (by decide +kernel)) g3_z hc_z
        replace hc_z := rn_iaload (N := 6) (q := i.toNatClampNeg) (v := rg_v h 27 i.toNatClampNeg) (am_cur_of (i := (32, 1, .iaload, (0, 0, 0), 0)) (by decide +kernel)) (by decide +kernel) rfl rfl hc_z
        obtain ⟨p89_z, hc_z⟩ := hc_z
        replace hc_z := rn_aload_n (am_cur_of (i := (33, 1, .aload_n 0, (0, 0, 0), 0)) (by decide +kernel)) g0_z hc_z
        replace hc_z := rn_getR (x := 27) (am_cur_of (i := (34, 3, .getfield 24, (1, 10, 287), 0)) (by decide +kernel)) (by decide +kernel) hc_z
        replace hc_z := rn_iload_n (am_cur_of (i := (37, 1, .iload_n 1, (0, 0, 0), 0)) (by decide +kernel)) g1_z hc_z
        replace hc_z := rn_iaload (N := 6) (q := j.toNatClampNeg) (v := rg_v h 27 j.toNatClampNeg) (am_cur_of (i := (38, 1, .iaload, (0, 0, 0), 0)) (by decide +kernel)) (by decide +kernel) rfl rfl hc_z
        obtain ⟨p90_z, hc_z⟩ := hc_z
        replace hc_z := rn_cmp (am_cur_of (i := (39, 3, .if_icmp .ne 11, (30, 0, 0), 0)) (by decide +kernel)) hc_z
        rcases hc_z with ⟨b91_z, hc_z⟩ | ⟨b91_z, hc_z⟩
        · replace b91_z : ¬ (rg_v h 27 i.toNatClampNeg) = (rg_v h 27 j.toNatClampNeg) ∧ ¬ (rg_v h 27 i.toNatClampNeg).toInt = (rg_v h 27 j.toNatClampNeg).toInt := b91_z
          replace hc_z := rn_iinc (w := i + 1) (am_cur_of (i := (50, 3, .iinc 3 1, (0, 0, 0), 0)) (by decide +kernel)) g3_z rfl hc_z
          obtain ⟨_, s92_z, s93_z, g3_z, hc_z⟩ := hc_z
          replace g0_z := s92_z 0 _ (by decide) rfl g0_z
          replace g1_z := s92_z 1 _ (by decide) rfl g1_z
          replace g2_z := s92_z 2 _ (by decide) rfl g2_z
          clear s92_z s93_z
          replace hc_z := rn_gotoL (am_cur_of (i := (53, 3, .goto (-49), (4, 0, 0), 0)) (by decide +kernel)) hc_z
          obtain ⟨e1_z, e2_z⟩ := ih_z k j _ (i + 1) _ _ g0_z g1_z g2_z g3_z (by omega) (by omega) n6_z hc_z
          exact ⟨e1_z.trans (congrArg (fun q => some (Value.int q)) (mnP_0 (k := k) (q := q) (w := fun t => rg_v h 27 t) (show ¬ ((rg_v h 27 j.toNatClampNeg).toInt < (rg_v h 27 i.toNatClampNeg).toInt ∨ (rg_v h 27 i.toNatClampNeg = rg_v h 27 j.toNatClampNeg ∧ i.toInt < j.toInt)) from fun z => z.elim (fun q => absurd q (by omega)) (fun q => b91_z.1 q.1))).symm), e2_z⟩
        · replace b91_z : (rg_v h 27 i.toNatClampNeg) = (rg_v h 27 j.toNatClampNeg) ∧ (rg_v h 27 i.toNatClampNeg).toInt = (rg_v h 27 j.toNatClampNeg).toInt := b91_z
          replace hc_z := rn_iload_n (am_cur_of (i := (42, 1, .iload_n 3, (0, 0, 0), 0)) (by decide +kernel)) g3_z hc_z
          replace hc_z := rn_iload_n (am_cur_of (i := (43, 1, .iload_n 1, (0, 0, 0), 0)) (by decide +kernel)) g1_z hc_z
          replace hc_z := rn_cmp (am_cur_of (i := (44, 3, .if_icmp .ge 6, (30, 0, 0), 0)) (by decide +kernel)) hc_z
          rcases hc_z with ⟨b94_z, hc_z⟩ | ⟨b94_z, hc_z⟩
          · replace b94_z : j.toInt ≤ i.toInt := b94_z
            replace hc_z := rn_iinc (w := i + 1) (am_cur_of (i := (50, 3, .iinc 3 1, (0, 0, 0), 0)) (by decide +kernel)) g3_z rfl hc_z
            obtain ⟨_, s95_z, s96_z, g3_z, hc_z⟩ := hc_z
            replace g0_z := s95_z 0 _ (by decide) rfl g0_z
            replace g1_z := s95_z 1 _ (by decide) rfl g1_z
            replace g2_z := s95_z 2 _ (by decide) rfl g2_z
            clear s95_z s96_z
            replace hc_z := rn_gotoL (am_cur_of (i := (53, 3, .goto (-49), (4, 0, 0), 0)) (by decide +kernel)) hc_z
            obtain ⟨e1_z, e2_z⟩ := ih_z k j _ (i + 1) _ _ g0_z g1_z g2_z g3_z (by omega) (by omega) n6_z hc_z
            exact ⟨e1_z.trans (congrArg (fun q => some (Value.int q)) (mnP_0 (k := k) (q := q) (w := fun t => rg_v h 27 t) (show ¬ ((rg_v h 27 j.toNatClampNeg).toInt < (rg_v h 27 i.toNatClampNeg).toInt ∨ (rg_v h 27 i.toNatClampNeg = rg_v h 27 j.toNatClampNeg ∧ i.toInt < j.toInt)) from fun z => z.elim (fun q => absurd q (by omega)) (fun q => absurd q.2 (by omega)))).symm), e2_z⟩
          · replace b94_z : i.toInt < j.toInt := b94_z
            replace hc_z := rn_iinc (w := q + 1) (am_cur_of (i := (47, 3, .iinc 2 1, (0, 0, 0), 0)) (by decide +kernel)) g2_z rfl hc_z
            obtain ⟨_, s97_z, s98_z, g2_z, hc_z⟩ := hc_z
            replace g0_z := s97_z 0 _ (by decide) rfl g0_z
            replace g1_z := s97_z 1 _ (by decide) rfl g1_z
            replace g3_z := s97_z 3 _ (by decide) rfl g3_z
            clear s97_z s98_z
            replace hc_z := rn_iinc (w := i + 1) (am_cur_of (i := (50, 3, .iinc 3 1, (0, 0, 0), 0)) (by decide +kernel)) g3_z rfl hc_z
            obtain ⟨_, s99_z, s100_z, g3_z, hc_z⟩ := hc_z
            replace g0_z := s99_z 0 _ (by decide) rfl g0_z
            replace g1_z := s99_z 1 _ (by decide) rfl g1_z
            replace g2_z := s99_z 2 _ (by decide) rfl g2_z
            clear s99_z s100_z
            replace hc_z := rn_gotoL (am_cur_of (i := (53, 3, .goto (-49), (4, 0, 0), 0)) (by decide +kernel)) hc_z
            obtain ⟨e1_z, e2_z⟩ := ih_z k j _ (i + 1) _ _ g0_z g1_z g2_z g3_z (by omega) (by omega) n6_z hc_z
            exact ⟨e1_z.trans (congrArg (fun q => some (Value.int q)) (mnP_1 (k := k) (q := q) (w := fun t => rg_v h 27 t) (show (rg_v h 27 j.toNatClampNeg).toInt < (rg_v h 27 i.toNatClampNeg).toInt ∨ (rg_v h 27 i.toNatClampNeg = rg_v h 27 j.toNatClampNeg ∧ i.toInt < j.toInt) from Or.inr ⟨b91_z.1, b94_z⟩)).symm), e2_z⟩
theorem mn_120_23 {n : Nat} {r : Option Value} {h h' : am_H} {j : Int32} (n0_z : 0 ≤ (rg_v h 23 9).toInt) (n6_z : (rg_v h 23 9).toInt ≤ 6) (hc_z : rn n am_m120 0 (lv_args 0 [.ref 23, .int j]) [] h r h') : r = some (.int (mnP (fun t => rg_v h 27 t) j (rg_v h 23 9).toNatClampNeg 1 0)) ∧ h' = h := by
  have g0_z : am_get (lv_args 0 [.ref 23, .int j]) 0 = some (.ref 23) := rfl
  have g1_z : am_get (lv_args 0 [.ref 23, .int j]) 1 = some (.int j) := rfl
  replace hc_z := rn_iconst (w := 1) (am_cur_of (i := (0, 1, .iconst 1, (0, 0, 0), 0)) (by decide +kernel)) (by decide) hc_z
  replace hc_z := rn_istore_n (am_cur_of (i := (1, 1, .istore_n 2, (0, 0, 0), 0)) (by decide +kernel)) hc_z
  obtain ⟨_, s101_z, s102_z, g2_z, hc_z⟩ := hc_z
  replace g0_z := s101_z 0 _ (by decide) rfl g0_z
  replace g1_z := s101_z 1 _ (by decide) rfl g1_z
  clear s101_z s102_z
  replace hc_z := rn_iconst (w := 0) (am_cur_of (i := (2, 1, .iconst 0, (0, 0, 0), 0)) (by decide +kernel)) (by decide) hc_z
  replace hc_z := rn_istore_n (am_cur_of (i := (3, 1, .istore_n 3, (0, 0, 0), 0)) (by decide +kernel)) hc_z
  obtain ⟨_, s103_z, s104_z, g3_z, hc_z⟩ := hc_z
  replace g0_z := s103_z 0 _ (by decide) rfl g0_z
  replace g1_z := s103_z 1 _ (by decide) rfl g1_z
  replace g2_z := s103_z 2 _ (by decide) rfl g2_z
  clear s103_z s104_z
  have cn := rt_cl n0_z
  exact mn_p23 _ (rg_v h 23 9).toNatClampNeg j 1 0 _ _ g0_z g1_z g2_z g3_z (by decide) (by rw [show (0 : Int32).toInt = 0 by decide]; omega) n6_z hc_z
theorem mn_g {r : Option Value} {h' : am_H} : ∀ (f k : Nat) (a b i : Int32) (ls : am_L) (h : am_H), am_get ls 2 = some (.int a) → am_get ls 3 = some (.int b) → am_get ls 4 = some (.int i) → 0 ≤ i.toInt → i.toInt + k = 64 → rn f am_m121 6 ls [] h r h' → r = some (.int (mnG k a b)) ∧ h' = h := by
  intro f
  induction f with
  | zero => intro k a b i ls h g2_z g3_z g4_z i0_z ik hc_z; exact absurd hc_z rn_0
  | succ f ih_z =>
    intro k a b i ls h g2_z g3_z g4_z i0_z ik hc_z
    have z0_z : (0 : Int32).toInt = 0 := by decide
    have z64_z : (64 : Int32).toInt = 64 := by decide
    replace hc_z := rn_iload (am_cur_of (i := (7, 2, .iload 4, (0, 0, 0), 0)) (by decide +kernel)) g4_z hc_z
    replace hc_z := rn_bipush (w := 64) (am_cur_of (i := (9, 2, .bipush 64, (0, 0, 0), 0)) (by decide +kernel)) (by decide) hc_z
    replace hc_z := rn_cmp (am_cur_of (i := (11, 3, .if_icmp .ge 23, (21, 0, 0), 0)) (by decide +kernel)) hc_z
    rcases hc_z with ⟨b105_z, hc_z⟩ | ⟨b105_z, hc_z⟩
    · replace b105_z : (64 : Int32).toInt ≤ i.toInt := b105_z
      replace hc_z := rn_iload_n (am_cur_of (i := (34, 1, .iload_n 2, (0, 0, 0), 0)) (by decide +kernel)) g2_z hc_z
      replace hc_z := rn_iret (am_cur_of (i := (35, 1, .ireturn, (0, 0, 0), 0)) (by decide +kernel)) hc_z
      obtain ⟨e106_z, e107_z⟩ := hc_z
      obtain rfl : k = 0 := by omega
      exact ⟨e106_z, e107_z⟩
    · replace b105_z : i.toInt < (64 : Int32).toInt := b105_z
      obtain ⟨k, rfl⟩ : ∃ k2_z, k = k2_z + 1 := ⟨k - 1, by omega⟩
      have c1_z := rt_c1 i0_z (by omega)
      replace hc_z := rn_iload_n (am_cur_of (i := (14, 1, .iload_n 3, (0, 0, 0), 0)) (by decide +kernel)) g3_z hc_z
      replace hc_z := rn_if (am_cur_of (i := (15, 3, .ifCond .eq 19, (21, 0, 0), 0)) (by decide +kernel)) hc_z
      rcases hc_z with ⟨b108_z, hc_z⟩ | ⟨b108_z, hc_z⟩
      · replace b108_z : b = (0 : Int32) ∧ b.toInt = (0 : Int32).toInt := b108_z
        replace hc_z := rn_iload_n (am_cur_of (i := (34, 1, .iload_n 2, (0, 0, 0), 0)) (by decide +kernel)) g2_z hc_z
        replace hc_z := rn_iret (am_cur_of (i := (35, 1, .ireturn, (0, 0, 0), 0)) (by decide +kernel)) hc_z
        obtain ⟨e109_z, e110_z⟩ := hc_z
        exact ⟨e109_z.trans (congrArg (fun q => some (Value.int q)) (mnG_z b108_z.1).symm), e110_z⟩
      · replace b108_z : ¬ b = (0 : Int32) ∧ ¬ b.toInt = (0 : Int32).toInt := b108_z
        replace hc_z := rn_iload_n (am_cur_of (i := (18, 1, .iload_n 2, (0, 0, 0), 0)) (by decide +kernel)) g2_z hc_z
        replace hc_z := rn_iload_n (am_cur_of (i := (19, 1, .iload_n 3, (0, 0, 0), 0)) (by decide +kernel)) g3_z hc_z
        replace hc_z := rn_irem (w := a - a / b * b) (am_cur_of (i := (20, 1, .irem, (0, 0, 0), 0)) (by decide +kernel)) rfl hc_z
        obtain ⟨d111_z, hc_z⟩ := hc_z
        replace hc_z := rn_istore (am_cur_of (i := (21, 2, .istore 5, (0, 0, 0), 0)) (by decide +kernel)) hc_z
        obtain ⟨_, s112_z, s113_z, g5_z, hc_z⟩ := hc_z
        replace g2_z := s112_z 2 _ (by decide) rfl g2_z
        replace g3_z := s112_z 3 _ (by decide) rfl g3_z
        replace g4_z := s112_z 4 _ (by decide) rfl g4_z
        clear s112_z s113_z
        replace hc_z := rn_iload_n (am_cur_of (i := (23, 1, .iload_n 3, (0, 0, 0), 0)) (by decide +kernel)) g3_z hc_z
        replace hc_z := rn_istore_n (am_cur_of (i := (24, 1, .istore_n 2, (0, 0, 0), 0)) (by decide +kernel)) hc_z
        obtain ⟨_, s114_z, s115_z, g2_z, hc_z⟩ := hc_z
        replace g3_z := s114_z 3 _ (by decide) rfl g3_z
        replace g4_z := s114_z 4 _ (by decide) rfl g4_z
        replace g5_z := s114_z 5 _ (by decide) rfl g5_z
        clear s114_z s115_z
        replace hc_z := rn_iload (am_cur_of (i := (25, 2, .iload 5, (0, 0, 0), 0)) (by decide +kernel)) g5_z hc_z
        replace hc_z := rn_istore_n (am_cur_of (i := (27, 1, .istore_n 3, (0, 0, 0), 0)) (by decide +kernel)) hc_z
        obtain ⟨_, s116_z, s117_z, g3_z, hc_z⟩ := hc_z
        replace g2_z := s116_z 2 _ (by decide) rfl g2_z
        replace g4_z := s116_z 4 _ (by decide) rfl g4_z
        replace g5_z := s116_z 5 _ (by decide) rfl g5_z
        clear s116_z s117_z
        replace hc_z := rn_iinc (w := i + 1) (am_cur_of (i := (28, 3, .iinc 4 1, (0, 0, 0), 0)) (by decide +kernel)) g4_z rfl hc_z
        obtain ⟨_, s118_z, s119_z, g4_z, hc_z⟩ := hc_z
        replace g2_z := s118_z 2 _ (by decide) rfl g2_z
        replace g3_z := s118_z 3 _ (by decide) rfl g3_z
        replace g5_z := s118_z 5 _ (by decide) rfl g5_z
        clear s118_z s119_z
        replace hc_z := rn_gotoL (am_cur_of (i := (31, 3, .goto (-24), (6, 0, 0), 0)) (by decide +kernel)) hc_z
        obtain ⟨e1_z, e2_z⟩ := ih_z k _ _ (i + 1) _ _ g2_z g3_z g4_z (by omega) (by omega) hc_z
        exact ⟨e1_z.trans (congrArg (fun q => some (Value.int q)) (mnG_1 b108_z.1).symm), e2_z⟩
theorem mn_121 {n : Nat} {r : Option Value} {h h' : am_H} {x s : Int32} (hc_z : rn n am_m121 0 (lv_args 0 [.int x, .int s]) [] h r h') : r = some (.int (mnG 64 x s)) ∧ h' = h := by
  have g0_z : am_get (lv_args 0 [.int x, .int s]) 0 = some (.int x) := rfl
  have g1_z : am_get (lv_args 0 [.int x, .int s]) 1 = some (.int s) := rfl
  replace hc_z := rn_iload_n (am_cur_of (i := (0, 1, .iload_n 0, (0, 0, 0), 0)) (by decide +kernel)) g0_z hc_z
  replace hc_z := rn_istore_n (am_cur_of (i := (1, 1, .istore_n 2, (0, 0, 0), 0)) (by decide +kernel)) hc_z
  obtain ⟨_, s120_z, s121_z, g2_z, hc_z⟩ := hc_z
  replace g0_z := s120_z 0 _ (by decide) rfl g0_z
  replace g1_z := s120_z 1 _ (by decide) rfl g1_z
  clear s120_z s121_z
  replace hc_z := rn_iload_n (am_cur_of (i := (2, 1, .iload_n 1, (0, 0, 0), 0)) (by decide +kernel)) g1_z hc_z
  replace hc_z := rn_istore_n (am_cur_of (i := (3, 1, .istore_n 3, (0, 0, 0), 0)) (by decide +kernel)) hc_z
  obtain ⟨_, s122_z, s123_z, g3_z, hc_z⟩ := hc_z
  replace g0_z := s122_z 0 _ (by decide) rfl g0_z
  replace g1_z := s122_z 1 _ (by decide) rfl g1_z
  replace g2_z := s122_z 2 _ (by decide) rfl g2_z
  clear s122_z s123_z
  replace hc_z := rn_iconst (w := 0) (am_cur_of (i := (4, 1, .iconst 0, (0, 0, 0), 0)) (by decide +kernel)) (by decide) hc_z
  replace hc_z := rn_istore (am_cur_of (i := (5, 2, .istore 4, (0, 0, 0), 0)) (by decide +kernel)) hc_z
  obtain ⟨_, s124_z, s125_z, g4_z, hc_z⟩ := hc_z
  replace g0_z := s124_z 0 _ (by decide) rfl g0_z
  replace g1_z := s124_z 1 _ (by decide) rfl g1_z
  replace g2_z := s124_z 2 _ (by decide) rfl g2_z
  replace g3_z := s124_z 3 _ (by decide) rfl g3_z
  clear s124_z s125_z
  exact mn_g _ 64 x s 0 _ _ g2_z g3_z g4_z (by decide) (by decide) hc_z
theorem mn_h {r : Option Value} {g' : am_H} : ∀ (f j : Nat) (a b : Int32) (ls : am_L) (g : am_H), am_get ls 2 = some (.int a) → am_get ls 3 = some (.int b) → mgE j a b → rn f am_m235 4 ls [] g r g' → r = some (.int (mnG j a b)) ∧ g' = g := by
  intro f
  induction f with
  | zero => intro j a b ls g g2_z g3_z E hm_z; exact absurd hm_z rn_0
  | succ f ih_z =>
    intro j a b ls g g2_z g3_z E hm_z
    have z0_z : (0 : Int32).toInt = 0 := by decide
    replace hm_z := rn_iload_n (am_cur_of (i := (4, 1, .iload_n 3, (0, 0, 0), 0)) (by decide +kernel)) g3_z hm_z
    replace hm_z := rn_if (am_cur_of (i := (5, 3, .ifCond .eq 16, (15, 0, 0), 0)) (by decide +kernel)) hm_z
    rcases hm_z with ⟨b126_z, hm_z⟩ | ⟨b126_z, hm_z⟩
    · replace b126_z : b = (0 : Int32) ∧ b.toInt = (0 : Int32).toInt := b126_z
      replace hm_z := rn_iload_n (am_cur_of (i := (21, 1, .iload_n 2, (0, 0, 0), 0)) (by decide +kernel)) g2_z hm_z
      replace hm_z := rn_iret (am_cur_of (i := (22, 1, .ireturn, (0, 0, 0), 0)) (by decide +kernel)) hm_z
      obtain ⟨e127_z, e128_z⟩ := hm_z
      exact ⟨e127_z.trans (congrArg (fun q => some (Value.int q)) (mnG_z b126_z.1).symm), e128_z⟩
    · replace b126_z : ¬ b = (0 : Int32) ∧ ¬ b.toInt = (0 : Int32).toInt := b126_z
      replace hm_z := rn_iload_n (am_cur_of (i := (8, 1, .iload_n 2, (0, 0, 0), 0)) (by decide +kernel)) g2_z hm_z
      replace hm_z := rn_iload_n (am_cur_of (i := (9, 1, .iload_n 3, (0, 0, 0), 0)) (by decide +kernel)) g3_z hm_z
      replace hm_z := rn_irem (w := a - a / b * b) (am_cur_of (i := (10, 1, .irem, (0, 0, 0), 0)) (by decide +kernel)) rfl hm_z
      obtain ⟨d129_z, hm_z⟩ := hm_z
      replace hm_z := rn_istore (am_cur_of (i := (11, 2, .istore 4, (0, 0, 0), 0)) (by decide +kernel)) hm_z
      obtain ⟨_, s130_z, s131_z, g4_z, hm_z⟩ := hm_z
      replace g2_z := s130_z 2 _ (by decide) rfl g2_z
      replace g3_z := s130_z 3 _ (by decide) rfl g3_z
      clear s130_z s131_z
      replace hm_z := rn_iload_n (am_cur_of (i := (13, 1, .iload_n 3, (0, 0, 0), 0)) (by decide +kernel)) g3_z hm_z
      replace hm_z := rn_istore_n (am_cur_of (i := (14, 1, .istore_n 2, (0, 0, 0), 0)) (by decide +kernel)) hm_z
      obtain ⟨_, s132_z, s133_z, g2_z, hm_z⟩ := hm_z
      replace g3_z := s132_z 3 _ (by decide) rfl g3_z
      replace g4_z := s132_z 4 _ (by decide) rfl g4_z
      clear s132_z s133_z
      replace hm_z := rn_iload (am_cur_of (i := (15, 2, .iload 4, (0, 0, 0), 0)) (by decide +kernel)) g4_z hm_z
      replace hm_z := rn_istore_n (am_cur_of (i := (17, 1, .istore_n 3, (0, 0, 0), 0)) (by decide +kernel)) hm_z
      obtain ⟨_, s134_z, s135_z, g3_z, hm_z⟩ := hm_z
      replace g2_z := s134_z 2 _ (by decide) rfl g2_z
      replace g4_z := s134_z 4 _ (by decide) rfl g4_z
      clear s134_z s135_z
      replace hm_z := rn_gotoL (am_cur_of (i := (18, 3, .goto (-14), (4, 0, 0), 0)) (by decide +kernel)) hm_z
      obtain ⟨j, rfl⟩ : ∃ j2_z, j = j2_z + 1 := by
        match j, E with
        | 0, E => exact absurd E b126_z.1
        | j + 1, _ => exact ⟨j, rfl⟩
      obtain ⟨e1_z, e2_z⟩ := ih_z j _ _ _ _ g2_z g3_z (E.resolve_left b126_z.1) hm_z
      exact ⟨e1_z.trans (congrArg (fun q => some (Value.int q)) (mnG_1 b126_z.1).symm), e2_z⟩
theorem mn_235 {n : Nat} {r : Option Value} {g g' : am_H} {x s : Int32} (hm_z : rn n am_m235 0 (lv_args 0 [.int x, .int s]) [] g r g') : r = some (.int (mnG 64 x s)) ∧ g' = g := by
  have g0_z : am_get (lv_args 0 [.int x, .int s]) 0 = some (.int x) := rfl
  have g1_z : am_get (lv_args 0 [.int x, .int s]) 1 = some (.int s) := rfl
  replace hm_z := rn_iload_n (am_cur_of (i := (0, 1, .iload_n 0, (0, 0, 0), 0)) (by decide +kernel)) g0_z hm_z
  replace hm_z := rn_istore_n (am_cur_of (i := (1, 1, .istore_n 2, (0, 0, 0), 0)) (by decide +kernel)) hm_z
  obtain ⟨_, s136_z, s137_z, g2_z, hm_z⟩ := hm_z
  replace g0_z := s136_z 0 _ (by decide) rfl g0_z
  replace g1_z := s136_z 1 _ (by decide) rfl g1_z
  clear s136_z s137_z
  replace hm_z := rn_iload_n (am_cur_of (i := (2, 1, .iload_n 1, (0, 0, 0), 0)) (by decide +kernel)) g1_z hm_z
  replace hm_z := rn_istore_n (am_cur_of (i := (3, 1, .istore_n 3, (0, 0, 0), 0)) (by decide +kernel)) hm_z
  obtain ⟨_, s138_z, s139_z, g3_z, hm_z⟩ := hm_z
  replace g0_z := s138_z 0 _ (by decide) rfl g0_z
  replace g1_z := s138_z 1 _ (by decide) rfl g1_z
  replace g2_z := s138_z 2 _ (by decide) rfl g2_z
  clear s138_z s139_z
  exact mn_h _ 64 x s _ _ g2_z g3_z (mgE_64 x s) hm_z
theorem mn_62 {n : Nat} {h h' : am_H} {r : Option Value} {x : Int32}  (hc_z : rn n am_m62 0 (lv_args 0 [.int x, .int 0, .int 1]) [] h r h') : ((x.toInt < (0 : Int32).toInt) ∧ r = some (.int 0) ∧ h' = h) ∨ (((0 : Int32).toInt ≤ x.toInt) ∧ ((1 : Int32).toInt < x.toInt) ∧ r = some (.int 0) ∧ h' = h) ∨ (((0 : Int32).toInt ≤ x.toInt) ∧ (x.toInt ≤ (1 : Int32).toInt) ∧ r = some (.int 1) ∧ h' = h) := by
  have g0_z : am_get (lv_args 0 [.int x, .int 0, .int 1]) 0 = some (.int x) := rfl
  have g1_z : am_get (lv_args 0 [.int x, .int 0, .int 1]) 1 = some (.int 0) := rfl
  have g2_z : am_get (lv_args 0 [.int x, .int 0, .int 1]) 2 = some (.int 1) := rfl
  replace hc_z := rn_iload_n (am_cur_of (i := (0, 1, .iload_n 0, (0, 0, 0), 0)) (by decide +kernel)) g0_z hc_z
  replace hc_z := rn_iload_n (am_cur_of (i := (1, 1, .iload_n 1, (0, 0, 0), 0)) (by decide +kernel)) g1_z hc_z
  replace hc_z := rn_cmp (am_cur_of (i := (2, 3, .if_icmp .lt 12, (8, 0, 0), 0)) (by decide +kernel)) hc_z
  rcases hc_z with ⟨b140_z, hc_z⟩ | ⟨b140_z, hc_z⟩
  · replace b140_z : x.toInt < (0 : Int32).toInt := b140_z
    replace hc_z := rn_iconst (w := 0) (am_cur_of (i := (14, 1, .iconst 0, (0, 0, 0), 0)) (by decide +kernel)) (by decide) hc_z
    replace hc_z := rn_iret (am_cur_of (i := (15, 1, .ireturn, (0, 0, 0), 0)) (by decide +kernel)) hc_z
    obtain ⟨e141_z, e142_z⟩ := hc_z
    exact Or.inl ⟨b140_z, e141_z, e142_z⟩
  · replace b140_z : (0 : Int32).toInt ≤ x.toInt := b140_z
    replace hc_z := rn_iload_n (am_cur_of (i := (5, 1, .iload_n 0, (0, 0, 0), 0)) (by decide +kernel)) g0_z hc_z
    replace hc_z := rn_iload_n (am_cur_of (i := (6, 1, .iload_n 2, (0, 0, 0), 0)) (by decide +kernel)) g2_z hc_z
    replace hc_z := rn_cmp (am_cur_of (i := (7, 3, .if_icmp .gt 7, (8, 0, 0), 0)) (by decide +kernel)) hc_z
    rcases hc_z with ⟨b143_z, hc_z⟩ | ⟨b143_z, hc_z⟩
    · replace b143_z : (1 : Int32).toInt < x.toInt := b143_z
      replace hc_z := rn_iconst (w := 0) (am_cur_of (i := (14, 1, .iconst 0, (0, 0, 0), 0)) (by decide +kernel)) (by decide) hc_z
      replace hc_z := rn_iret (am_cur_of (i := (15, 1, .ireturn, (0, 0, 0), 0)) (by decide +kernel)) hc_z
      obtain ⟨e144_z, e145_z⟩ := hc_z
      exact Or.inr (Or.inl ⟨b140_z, b143_z, e144_z, e145_z⟩)
    · replace b143_z : x.toInt ≤ (1 : Int32).toInt := b143_z
      replace hc_z := rn_iconst (w := 1) (am_cur_of (i := (10, 1, .iconst 1, (0, 0, 0), 0)) (by decide +kernel)) (by decide) hc_z
      replace hc_z := rn_goto (am_cur_of (i := (11, 3, .goto 4, (9, 0, 0), 0)) (by decide +kernel)) hc_z
      replace hc_z := rn_iret (am_cur_of (i := (15, 1, .ireturn, (0, 0, 0), 0)) (by decide +kernel)) hc_z
      obtain ⟨e146_z, e147_z⟩ := hc_z
      exact Or.inr (Or.inr (⟨b140_z, b143_z, e146_z, e147_z⟩))
theorem mn_162 {n : Nat} {h h' : am_H} {r : Option Value} {x : Int32}  (hc_z : rn n am_m162 0 (lv_args 0 [.int x, .int 0, .int 1]) [] h r h') : ((x.toInt < (0 : Int32).toInt) ∧ r = some (.int 0) ∧ h' = h) ∨ (((0 : Int32).toInt ≤ x.toInt) ∧ ((1 : Int32).toInt < x.toInt) ∧ r = some (.int 0) ∧ h' = h) ∨ (((0 : Int32).toInt ≤ x.toInt) ∧ (x.toInt ≤ (1 : Int32).toInt) ∧ r = some (.int 1) ∧ h' = h) := by
  have g0_z : am_get (lv_args 0 [.int x, .int 0, .int 1]) 0 = some (.int x) := rfl
  have g1_z : am_get (lv_args 0 [.int x, .int 0, .int 1]) 1 = some (.int 0) := rfl
  have g2_z : am_get (lv_args 0 [.int x, .int 0, .int 1]) 2 = some (.int 1) := rfl
  replace hc_z := rn_iload_n (am_cur_of (i := (0, 1, .iload_n 0, (0, 0, 0), 0)) (by decide +kernel)) g0_z hc_z
  replace hc_z := rn_iload_n (am_cur_of (i := (1, 1, .iload_n 1, (0, 0, 0), 0)) (by decide +kernel)) g1_z hc_z
  replace hc_z := rn_cmp (am_cur_of (i := (2, 3, .if_icmp .lt 12, (8, 0, 0), 0)) (by decide +kernel)) hc_z
  rcases hc_z with ⟨b148_z, hc_z⟩ | ⟨b148_z, hc_z⟩
  · replace b148_z : x.toInt < (0 : Int32).toInt := b148_z
    replace hc_z := rn_iconst (w := 0) (am_cur_of (i := (14, 1, .iconst 0, (0, 0, 0), 0)) (by decide +kernel)) (by decide) hc_z
    replace hc_z := rn_iret (am_cur_of (i := (15, 1, .ireturn, (0, 0, 0), 0)) (by decide +kernel)) hc_z
    obtain ⟨e149_z, e150_z⟩ := hc_z
    exact Or.inl ⟨b148_z, e149_z, e150_z⟩
  · replace b148_z : (0 : Int32).toInt ≤ x.toInt := b148_z
    replace hc_z := rn_iload_n (am_cur_of (i := (5, 1, .iload_n 0, (0, 0, 0), 0)) (by decide +kernel)) g0_z hc_z
    replace hc_z := rn_iload_n (am_cur_of (i := (6, 1, .iload_n 2, (0, 0, 0), 0)) (by decide +kernel)) g2_z hc_z
    replace hc_z := rn_cmp (am_cur_of (i := (7, 3, .if_icmp .gt 7, (8, 0, 0), 0)) (by decide +kernel)) hc_z
    rcases hc_z with ⟨b151_z, hc_z⟩ | ⟨b151_z, hc_z⟩
    · replace b151_z : (1 : Int32).toInt < x.toInt := b151_z
      replace hc_z := rn_iconst (w := 0) (am_cur_of (i := (14, 1, .iconst 0, (0, 0, 0), 0)) (by decide +kernel)) (by decide) hc_z
      replace hc_z := rn_iret (am_cur_of (i := (15, 1, .ireturn, (0, 0, 0), 0)) (by decide +kernel)) hc_z
      obtain ⟨e152_z, e153_z⟩ := hc_z
      exact Or.inr (Or.inl ⟨b148_z, b151_z, e152_z, e153_z⟩)
    · replace b151_z : x.toInt ≤ (1 : Int32).toInt := b151_z
      replace hc_z := rn_iconst (w := 1) (am_cur_of (i := (10, 1, .iconst 1, (0, 0, 0), 0)) (by decide +kernel)) (by decide) hc_z
      replace hc_z := rn_goto (am_cur_of (i := (11, 3, .goto 4, (9, 0, 0), 0)) (by decide +kernel)) hc_z
      replace hc_z := rn_iret (am_cur_of (i := (15, 1, .ireturn, (0, 0, 0), 0)) (by decide +kernel)) hc_z
      obtain ⟨e154_z, e155_z⟩ := hc_z
      exact Or.inr (Or.inr (⟨b148_z, b151_z, e154_z, e155_z⟩))
theorem mn_c2 {r : Option Value} {h' : am_H} {q m : Int32} : ∀ (f k : Nat) (x s i : Int32) (ls : am_L) (h : am_H), h 0 2 = .ref 2 → am_get ls 0 = some (.ref 0) → am_get ls 1 = some (.int q) → am_get ls 2 = some (.int m) → am_get ls 3 = some (.int x) → am_get ls 4 = some (.int s) → am_get ls 5 = some (.int i) → 0 ≤ i.toInt → i.toInt + k = (rg_v h 2 9).toInt → (rg_v h 2 9).toInt ≤ 6 → rn f am_m118 24 ls [] h r h' → r = some (.int (mnQ q (mnX (fun t => rg_v h 6 t) m (rg_v h 2 9).toNatClampNeg k x i) (mnS (fun t => rg_v h 6 t) k s i))) := by
  intro f
  induction f with
  | zero => intro k x s i ls h D g0_z g1_z g2_z g3_z g4_z g5_z i0_z ik n6_z hc_z; exact absurd hc_z rn_0
  | succ f ih_z =>
    intro k x s i ls h D g0_z g1_z g2_z g3_z g4_z g5_z i0_z ik n6_z hc_z
    have z0_z : (0 : Int32).toInt = 0 := by decide
    replace hc_z := rn_iload (am_cur_of (i := (42, 2, .iload 5, (0, 0, 0), 0)) (by decide +kernel)) g5_z hc_z
    replace hc_z := rn_aload_n (am_cur_of (i := (44, 1, .aload_n 0, (0, 0, 0), 0)) (by decide +kernel)) g0_z hc_z
    replace hc_z := rn_getM (x := 2) (am_cur_of (i := (45, 3, .getfield 18, (0, 2, 663), 0)) (by decide +kernel)) D hc_z
    replace hc_z := rn_getI (v := rg_v h 2 9) (am_cur_of (i := (48, 3, .getfield 241, (1, 9, 285), 0)) (by decide +kernel)) (by decide +kernel) rfl hc_z
    replace hc_z := rn_cmp (am_cur_of (i := (51, 3, .if_icmp .ge 49, (54, 0, 0), 0)) (by decide +kernel)) hc_z
    rcases hc_z with ⟨b156_z, hc_z⟩ | ⟨b156_z, hc_z⟩
    · replace b156_z : (rg_v h 2 9).toInt ≤ i.toInt := b156_z
      obtain rfl : k = 0 := by omega
      replace hc_z := rn_iload_n (am_cur_of (i := (100, 1, .iload_n 3, (0, 0, 0), 0)) (by decide +kernel)) g3_z hc_z
      replace hc_z := rn_iload (am_cur_of (i := (101, 2, .iload 4, (0, 0, 0), 0)) (by decide +kernel)) g4_z hc_z
      replace hc_z := rn_callS (M' := am_m121) (ar := [.int s, .int x]) (rest := []) (L := lv_args 0 [.int x, .int s]) (am_cur_of (i := (103, 3, .invokestatic 321, (121, 1170, 3), 0)) (by decide +kernel)) rfl rfl rfl rfl hc_z
      obtain ⟨r157_z, h158_z, q159_z, hc_z⟩ := hc_z
      obtain ⟨e160_z, y161_z⟩ := mn_121 q159_z
      replace y161_z := y161_z.symm
      subst y161_z
      subst e160_z
      replace hc_z : rn _ _ _ _ [.int (mnG 64 x s)] _ _ _ := hc_z
      replace hc_z := rn_istore (am_cur_of (i := (106, 2, .istore 5, (0, 0, 0), 0)) (by decide +kernel)) hc_z
      obtain ⟨_, s162_z, s163_z, g5_z, hc_z⟩ := hc_z
      replace g0_z := s162_z 0 _ (by decide) rfl g0_z
      replace g1_z := s162_z 1 _ (by decide) rfl g1_z
      replace g2_z := s162_z 2 _ (by decide) rfl g2_z
      replace g3_z := s162_z 3 _ (by decide) rfl g3_z
      replace g4_z := s162_z 4 _ (by decide) rfl g4_z
      clear s162_z s163_z
      replace hc_z := rn_iload (am_cur_of (i := (108, 2, .iload 5, (0, 0, 0), 0)) (by decide +kernel)) g5_z hc_z
      replace hc_z := rn_if (am_cur_of (i := (110, 3, .ifCond .ne 5, (62, 0, 0), 0)) (by decide +kernel)) hc_z
      rcases hc_z with ⟨b164_z, hc_z⟩ | ⟨b164_z, hc_z⟩
      · replace b164_z : ¬ (mnG 64 x s) = (0 : Int32) ∧ ¬ (mnG 64 x s).toInt = (0 : Int32).toInt := b164_z
        replace hc_z := rn_iload_n (am_cur_of (i := (115, 1, .iload_n 1, (0, 0, 0), 0)) (by decide +kernel)) g1_z hc_z
        replace hc_z := rn_if (am_cur_of (i := (116, 3, .ifCond .ne 10, (68, 0, 0), 0)) (by decide +kernel)) hc_z
        rcases hc_z with ⟨b165_z, hc_z⟩ | ⟨b165_z, hc_z⟩
        · replace b165_z : ¬ q = (0 : Int32) ∧ ¬ q.toInt = (0 : Int32).toInt := b165_z
          replace hc_z := rn_iload (am_cur_of (i := (126, 2, .iload 4, (0, 0, 0), 0)) (by decide +kernel)) g4_z hc_z
          replace hc_z := rn_iload (am_cur_of (i := (128, 2, .iload 5, (0, 0, 0), 0)) (by decide +kernel)) g5_z hc_z
          replace hc_z := rn_idiv (w := s / (mnG 64 x s)) (am_cur_of (i := (130, 1, .idiv, (0, 0, 0), 0)) (by decide +kernel)) rfl hc_z
          obtain ⟨d166_z, hc_z⟩ := hc_z
          replace hc_z := rn_iret (am_cur_of (i := (131, 1, .ireturn, (0, 0, 0), 0)) (by decide +kernel)) hc_z
          obtain ⟨e167_z, e168_z⟩ := hc_z
          exact e167_z.trans (congrArg (fun q => some (Value.int q)) (mnQ_2 b164_z.1 b165_z.1).symm)
        · replace b165_z : q = (0 : Int32) ∧ q.toInt = (0 : Int32).toInt := b165_z
          replace hc_z := rn_iload_n (am_cur_of (i := (119, 1, .iload_n 3, (0, 0, 0), 0)) (by decide +kernel)) g3_z hc_z
          replace hc_z := rn_iload (am_cur_of (i := (120, 2, .iload 5, (0, 0, 0), 0)) (by decide +kernel)) g5_z hc_z
          replace hc_z := rn_idiv (w := x / (mnG 64 x s)) (am_cur_of (i := (122, 1, .idiv, (0, 0, 0), 0)) (by decide +kernel)) rfl hc_z
          obtain ⟨d169_z, hc_z⟩ := hc_z
          replace hc_z := rn_goto (am_cur_of (i := (123, 3, .goto 8, (71, 0, 0), 0)) (by decide +kernel)) hc_z
          replace hc_z := rn_iret (am_cur_of (i := (131, 1, .ireturn, (0, 0, 0), 0)) (by decide +kernel)) hc_z
          obtain ⟨e170_z, e171_z⟩ := hc_z
          exact e170_z.trans (congrArg (fun q => some (Value.int q)) (mnQ_1 b164_z.1 b165_z.1).symm)
      · replace b164_z : (mnG 64 x s) = (0 : Int32) ∧ (mnG 64 x s).toInt = (0 : Int32).toInt := b164_z
        replace hc_z := rn_iconst (w := (-1)) (am_cur_of (i := (113, 1, .iconst (-1), (0, 0, 0), 0)) (by decide +kernel)) (by decide) hc_z
        replace hc_z := rn_iret (am_cur_of (i := (114, 1, .ireturn, (0, 0, 0), 0)) (by decide +kernel)) hc_z
        obtain ⟨e172_z, e173_z⟩ := hc_z
        exact e172_z.trans (congrArg (fun q => some (Value.int q)) (mnQ_0 b164_z.1).symm)
    · replace b156_z : i.toInt < (rg_v h 2 9).toInt := b156_z
      obtain ⟨k, rfl⟩ : ∃ k2_z, k = k2_z + 1 := ⟨k - 1, by omega⟩
      have ci_z := rt_cl i0_z
      have c1_z := rt_c1 i0_z (by omega)
      replace hc_z := rn_iload_n (am_cur_of (i := (54, 1, .iload_n 3, (0, 0, 0), 0)) (by decide +kernel)) g3_z hc_z
      replace hc_z := rn_iload_n (am_cur_of (i := (55, 1, .iload_n 2, (0, 0, 0), 0)) (by decide +kernel)) g2_z hc_z
      replace hc_z := rn_aload_n (am_cur_of (i := (56, 1, .aload_n 0, (0, 0, 0), 0)) (by decide +kernel)) g0_z hc_z
      replace hc_z := rn_getM (x := 2) (am_cur_of (i := (57, 3, .getfield 18, (0, 2, 663), 0)) (by decide +kernel)) D hc_z
      replace hc_z := rn_iload (am_cur_of (i := (60, 2, .iload 5, (0, 0, 0), 0)) (by decide +kernel)) g5_z hc_z
      replace hc_z := rn_callV (M' := am_m120) (o := 2) (ar := [.int i]) (rest := [.int m, .int x]) (L := lv_args 0 [.ref 2, .int i]) (am_cur_of (i := (62, 3, .invokevirtual 315, (120, 1166, 3), 0)) (by decide +kernel)) rfl rfl rfl rfl hc_z
      obtain ⟨r174_z, h175_z, q176_z, hc_z⟩ := hc_z
      obtain ⟨e177_z, y178_z⟩ := mn_120_2 (by omega) n6_z q176_z
      replace y178_z := y178_z.symm
      subst y178_z
      subst e177_z
      replace hc_z : rn _ _ _ _ [.int (mnP (fun t => rg_v h 6 t) i (rg_v h 2 9).toNatClampNeg 1 0), .int m, .int x] _ _ _ := hc_z
      replace hc_z := rn_imul (w := m * (mnP (fun t => rg_v h 6 t) i (rg_v h 2 9).toNatClampNeg 1 0)) (am_cur_of (i := (65, 1, .imul, (0, 0, 0), 0)) (by decide +kernel)) rfl hc_z
      replace hc_z := rn_aload_n (am_cur_of (i := (66, 1, .aload_n 0, (0, 0, 0), 0)) (by decide +kernel)) g0_z hc_z
      replace hc_z := rn_getM (x := 2) (am_cur_of (i := (67, 3, .getfield 18, (0, 2, 663), 0)) (by decide +kernel)) D hc_z
      replace hc_z := rn_getR (x := 6) (am_cur_of (i := (70, 3, .getfield 318, (1, 10, 290), 0)) (by decide +kernel)) (by decide +kernel) hc_z
      replace hc_z := rn_iload (am_cur_of (i := (73, 2, .iload 5, (0, 0, 0), 0)) (by decide +kernel)) g5_z hc_z
      replace hc_z := rn_iaload (N := 6) (q := i.toNatClampNeg) (v := rg_v h 6 i.toNatClampNeg) (am_cur_of (i := (75, 1, .iaload, (0, 0, 0), 0)) (by decide +kernel)) (by decide +kernel) rfl rfl hc_z
      obtain ⟨p179_z, hc_z⟩ := hc_z
      replace hc_z := rn_imul (w := (m * (mnP (fun t => rg_v h 6 t) i (rg_v h 2 9).toNatClampNeg 1 0)) * (rg_v h 6 i.toNatClampNeg)) (am_cur_of (i := (76, 1, .imul, (0, 0, 0), 0)) (by decide +kernel)) rfl hc_z
      replace hc_z := rn_iadd (w := x + ((m * (mnP (fun t => rg_v h 6 t) i (rg_v h 2 9).toNatClampNeg 1 0)) * (rg_v h 6 i.toNatClampNeg))) (am_cur_of (i := (77, 1, .iadd, (0, 0, 0), 0)) (by decide +kernel)) rfl hc_z
      replace hc_z := rn_istore_n (am_cur_of (i := (78, 1, .istore_n 3, (0, 0, 0), 0)) (by decide +kernel)) hc_z
      obtain ⟨_, s180_z, s181_z, g3_z, hc_z⟩ := hc_z
      replace g0_z := s180_z 0 _ (by decide) rfl g0_z
      replace g1_z := s180_z 1 _ (by decide) rfl g1_z
      replace g2_z := s180_z 2 _ (by decide) rfl g2_z
      replace g4_z := s180_z 4 _ (by decide) rfl g4_z
      replace g5_z := s180_z 5 _ (by decide) rfl g5_z
      clear s180_z s181_z
      replace hc_z := rn_iload (am_cur_of (i := (79, 2, .iload 4, (0, 0, 0), 0)) (by decide +kernel)) g4_z hc_z
      replace hc_z := rn_aload_n (am_cur_of (i := (81, 1, .aload_n 0, (0, 0, 0), 0)) (by decide +kernel)) g0_z hc_z
      replace hc_z := rn_getM (x := 2) (am_cur_of (i := (82, 3, .getfield 18, (0, 2, 663), 0)) (by decide +kernel)) D hc_z
      replace hc_z := rn_getR (x := 6) (am_cur_of (i := (85, 3, .getfield 318, (1, 10, 290), 0)) (by decide +kernel)) (by decide +kernel) hc_z
      replace hc_z := rn_iload (am_cur_of (i := (88, 2, .iload 5, (0, 0, 0), 0)) (by decide +kernel)) g5_z hc_z
      replace hc_z := rn_iaload (N := 6) (q := i.toNatClampNeg) (v := rg_v h 6 i.toNatClampNeg) (am_cur_of (i := (90, 1, .iaload, (0, 0, 0), 0)) (by decide +kernel)) (by decide +kernel) rfl rfl hc_z
      obtain ⟨p182_z, hc_z⟩ := hc_z
      replace hc_z := rn_iadd (w := s + (rg_v h 6 i.toNatClampNeg)) (am_cur_of (i := (91, 1, .iadd, (0, 0, 0), 0)) (by decide +kernel)) rfl hc_z
      replace hc_z := rn_istore (am_cur_of (i := (92, 2, .istore 4, (0, 0, 0), 0)) (by decide +kernel)) hc_z
      obtain ⟨_, s183_z, s184_z, g4_z, hc_z⟩ := hc_z
      replace g0_z := s183_z 0 _ (by decide) rfl g0_z
      replace g1_z := s183_z 1 _ (by decide) rfl g1_z
      replace g2_z := s183_z 2 _ (by decide) rfl g2_z
      replace g3_z := s183_z 3 _ (by decide) rfl g3_z
      replace g5_z := s183_z 5 _ (by decide) rfl g5_z
      clear s183_z s184_z
      replace hc_z := rn_iinc (w := i + 1) (am_cur_of (i := (94, 3, .iinc 5 1, (0, 0, 0), 0)) (by decide +kernel)) g5_z rfl hc_z
      obtain ⟨_, s185_z, s186_z, g5_z, hc_z⟩ := hc_z
      replace g0_z := s185_z 0 _ (by decide) rfl g0_z
      replace g1_z := s185_z 1 _ (by decide) rfl g1_z
      replace g2_z := s185_z 2 _ (by decide) rfl g2_z
      replace g3_z := s185_z 3 _ (by decide) rfl g3_z
      replace g4_z := s185_z 4 _ (by decide) rfl g4_z
      clear s185_z s186_z
      replace hc_z := rn_gotoL (am_cur_of (i := (97, 3, .goto (-55), (24, 0, 0), 0)) (by decide +kernel)) hc_z
      exact ih_z k _ _ (i + 1) _ _ D g0_z g1_z g2_z g3_z g4_z g5_z (by omega) (by omega) n6_z hc_z
theorem mn_118_2 {n : Nat} {r : Option Value} {h h' : am_H} {q : Int32} (D : h 0 2 = .ref 2) (t0_z : 0 ≤ (rg_v h 2 12).toInt) (t3_z : (rg_v h 2 12).toInt ≤ 3) (n0_z : 0 ≤ (rg_v h 2 9).toInt) (n6_z : (rg_v h 2 9).toInt ≤ 6) (hc_z : rn n am_m118 0 (lv_args 0 [.ref 0, .int q]) [] h r h') : r = some (.int (mnV (fun t => rg_v h 6 t) (rg_v h 2 9).toNatClampNeg q (mnU (fun t => rg_v h 9 t) (fun t => rg_v h 10 t) (rg_v h 2 12).toNatClampNeg (-1) 0))) := by
  have zm1_z : ((-1) : Int32).toInt = (-1) := by decide
  have z0_z : (0 : Int32).toInt = 0 := by decide
  have z1_z : (1 : Int32).toInt = 1 := by decide
  have g0_z : am_get (lv_args 0 [.ref 0, .int q]) 0 = some (.ref 0) := rfl
  have g1_z : am_get (lv_args 0 [.ref 0, .int q]) 1 = some (.int q) := rfl
  replace hc_z := rn_aload_n (am_cur_of (i := (0, 1, .aload_n 0, (0, 0, 0), 0)) (by decide +kernel)) g0_z hc_z
  replace hc_z := rn_getM (x := 2) (am_cur_of (i := (1, 3, .getfield 18, (0, 2, 663), 0)) (by decide +kernel)) D hc_z
  replace hc_z := rn_callV (M' := am_m119) (o := 2) (ar := []) (rest := []) (L := lv_args 0 [.ref 2]) (am_cur_of (i := (4, 3, .invokevirtual 312, (119, 1162, 3), 0)) (by decide +kernel)) rfl rfl rfl rfl hc_z
  obtain ⟨r187_z, h188_z, q189_z, hc_z⟩ := hc_z
  have q119_z := mn_119_2 t0_z t3_z q189_z
  obtain ⟨m, em⟩ : ∃ m2_z : Int32, (mnU (fun t => rg_v h 9 t) (fun t => rg_v h 10 t) (rg_v h 2 12).toNatClampNeg (-1) 0) = m2_z := ⟨_, rfl⟩
  rw [em] at q119_z ⊢
  obtain ⟨rfl, hh⟩ := q119_z
  replace hh := hh.symm
  subst hh
  have cn := rt_cl n0_z
  replace hc_z : rn _ _ _ _ [.int m] _ _ _ := hc_z
  replace hc_z := rn_istore_n (am_cur_of (i := (7, 1, .istore_n 2, (0, 0, 0), 0)) (by decide +kernel)) hc_z
  obtain ⟨_, s190_z, s191_z, g2_z, hc_z⟩ := hc_z
  replace g0_z := s190_z 0 _ (by decide) rfl g0_z
  replace g1_z := s190_z 1 _ (by decide) rfl g1_z
  clear s190_z s191_z
  replace hc_z := rn_iload_n (am_cur_of (i := (8, 1, .iload_n 1, (0, 0, 0), 0)) (by decide +kernel)) g1_z hc_z
  replace hc_z := rn_iconst (w := 0) (am_cur_of (i := (9, 1, .iconst 0, (0, 0, 0), 0)) (by decide +kernel)) (by decide) hc_z
  replace hc_z := rn_iconst (w := 1) (am_cur_of (i := (10, 1, .iconst 1, (0, 0, 0), 0)) (by decide +kernel)) (by decide) hc_z
  replace hc_z := rn_callS (M' := am_m62) (ar := [.int 1, .int 0, .int q]) (rest := []) (L := lv_args 0 [.int q, .int 0, .int 1]) (am_cur_of (i := (11, 3, .invokestatic 172, (62, 908, 3), 0)) (by decide +kernel)) rfl rfl rfl rfl hc_z
  obtain ⟨r192_z, h193_z, q194_z, hc_z⟩ := hc_z
  rcases mn_62 q194_z with ⟨b195_z, rfl, y196_z⟩ | ⟨b197_z, b198_z, rfl, y199_z⟩ | ⟨b200_z, b201_z, rfl, y202_z⟩
  · replace y196_z := y196_z.symm
    subst y196_z
    replace b195_z : q.toInt < (0 : Int32).toInt := b195_z
    replace hc_z : rn _ _ _ _ [.int 0] _ _ _ := hc_z
    replace hc_z := rn_ifT (am_cur_of (i := (14, 3, .ifCond .eq 18, (16, 0, 0), 0)) (by decide +kernel)) (by decide) hc_z
    replace hc_z := rn_iconst (w := (-1)) (am_cur_of (i := (32, 1, .iconst (-1), (0, 0, 0), 0)) (by decide +kernel)) (by decide) hc_z
    replace hc_z := rn_iret (am_cur_of (i := (33, 1, .ireturn, (0, 0, 0), 0)) (by decide +kernel)) hc_z
    obtain ⟨e203_z, e204_z⟩ := hc_z
    exact e203_z.trans (congrArg (fun q => some (Value.int q)) (mnV_0 (by omega)).symm)
  · replace y199_z := y199_z.symm
    subst y199_z
    replace b197_z : (0 : Int32).toInt ≤ q.toInt := b197_z
    replace b198_z : (1 : Int32).toInt < q.toInt := b198_z
    replace hc_z : rn _ _ _ _ [.int 0] _ _ _ := hc_z
    replace hc_z := rn_ifT (am_cur_of (i := (14, 3, .ifCond .eq 18, (16, 0, 0), 0)) (by decide +kernel)) (by decide) hc_z
    replace hc_z := rn_iconst (w := (-1)) (am_cur_of (i := (32, 1, .iconst (-1), (0, 0, 0), 0)) (by decide +kernel)) (by decide) hc_z
    replace hc_z := rn_iret (am_cur_of (i := (33, 1, .ireturn, (0, 0, 0), 0)) (by decide +kernel)) hc_z
    obtain ⟨e205_z, e206_z⟩ := hc_z
    exact e205_z.trans (congrArg (fun q => some (Value.int q)) (mnV_0 (by omega)).symm)
  · replace y202_z := y202_z.symm
    subst y202_z
    replace b200_z : (0 : Int32).toInt ≤ q.toInt := b200_z
    replace b201_z : q.toInt ≤ (1 : Int32).toInt := b201_z
    replace hc_z : rn _ _ _ _ [.int 1] _ _ _ := hc_z
    replace hc_z := rn_ifF (am_cur_of (i := (14, 3, .ifCond .eq 18, (16, 0, 0), 0)) (by decide +kernel)) (by decide) hc_z
    replace hc_z := rn_aload_n (am_cur_of (i := (17, 1, .aload_n 0, (0, 0, 0), 0)) (by decide +kernel)) g0_z hc_z
    replace hc_z := rn_getM (x := 2) (am_cur_of (i := (18, 3, .getfield 18, (0, 2, 663), 0)) (by decide +kernel)) D hc_z
    replace hc_z := rn_getI (v := rg_v h 2 9) (am_cur_of (i := (21, 3, .getfield 241, (1, 9, 285), 0)) (by decide +kernel)) (by decide +kernel) rfl hc_z
    replace hc_z := rn_if (am_cur_of (i := (24, 3, .ifCond .eq 8, (16, 0, 0), 0)) (by decide +kernel)) hc_z
    rcases hc_z with ⟨b207_z, hc_z⟩ | ⟨b207_z, hc_z⟩
    · replace b207_z : (rg_v h 2 9) = (0 : Int32) ∧ (rg_v h 2 9).toInt = (0 : Int32).toInt := b207_z
      replace hc_z := rn_iconst (w := (-1)) (am_cur_of (i := (32, 1, .iconst (-1), (0, 0, 0), 0)) (by decide +kernel)) (by decide) hc_z
      replace hc_z := rn_iret (am_cur_of (i := (33, 1, .ireturn, (0, 0, 0), 0)) (by decide +kernel)) hc_z
      obtain ⟨e208_z, e209_z⟩ := hc_z
      exact e208_z.trans (congrArg (fun q => some (Value.int q)) (mnV_0 (by omega)).symm)
    · replace b207_z : ¬ (rg_v h 2 9) = (0 : Int32) ∧ ¬ (rg_v h 2 9).toInt = (0 : Int32).toInt := b207_z
      have nz : ¬ (rg_v h 2 9).toInt = 0 := fun z => b207_z.2 (z.trans (by decide))
      replace hc_z := rn_iload_n (am_cur_of (i := (27, 1, .iload_n 2, (0, 0, 0), 0)) (by decide +kernel)) g2_z hc_z
      replace hc_z := rn_iconst (w := (-1)) (am_cur_of (i := (28, 1, .iconst (-1), (0, 0, 0), 0)) (by decide +kernel)) (by decide) hc_z
      replace hc_z := rn_cmp (am_cur_of (i := (29, 3, .if_icmp .ne 5, (18, 0, 0), 0)) (by decide +kernel)) hc_z
      rcases hc_z with ⟨b210_z, hc_z⟩ | ⟨b210_z, hc_z⟩
      · replace b210_z : ¬ m = ((-1) : Int32) ∧ ¬ m.toInt = ((-1) : Int32).toInt := b210_z
        replace hc_z := rn_iconst (w := 0) (am_cur_of (i := (34, 1, .iconst 0, (0, 0, 0), 0)) (by decide +kernel)) (by decide) hc_z
        replace hc_z := rn_istore_n (am_cur_of (i := (35, 1, .istore_n 3, (0, 0, 0), 0)) (by decide +kernel)) hc_z
        obtain ⟨_, s211_z, s212_z, g3_z, hc_z⟩ := hc_z
        replace g0_z := s211_z 0 _ (by decide) rfl g0_z
        replace g1_z := s211_z 1 _ (by decide) rfl g1_z
        replace g2_z := s211_z 2 _ (by decide) rfl g2_z
        clear s211_z s212_z
        replace hc_z := rn_iconst (w := 0) (am_cur_of (i := (36, 1, .iconst 0, (0, 0, 0), 0)) (by decide +kernel)) (by decide) hc_z
        replace hc_z := rn_istore (am_cur_of (i := (37, 2, .istore 4, (0, 0, 0), 0)) (by decide +kernel)) hc_z
        obtain ⟨_, s213_z, s214_z, g4_z, hc_z⟩ := hc_z
        replace g0_z := s213_z 0 _ (by decide) rfl g0_z
        replace g1_z := s213_z 1 _ (by decide) rfl g1_z
        replace g2_z := s213_z 2 _ (by decide) rfl g2_z
        replace g3_z := s213_z 3 _ (by decide) rfl g3_z
        clear s213_z s214_z
        replace hc_z := rn_iconst (w := 0) (am_cur_of (i := (39, 1, .iconst 0, (0, 0, 0), 0)) (by decide +kernel)) (by decide) hc_z
        replace hc_z := rn_istore (am_cur_of (i := (40, 2, .istore 5, (0, 0, 0), 0)) (by decide +kernel)) hc_z
        obtain ⟨_, s215_z, s216_z, g5_z, hc_z⟩ := hc_z
        replace g0_z := s215_z 0 _ (by decide) rfl g0_z
        replace g1_z := s215_z 1 _ (by decide) rfl g1_z
        replace g2_z := s215_z 2 _ (by decide) rfl g2_z
        replace g3_z := s215_z 3 _ (by decide) rfl g3_z
        replace g4_z := s215_z 4 _ (by decide) rfl g4_z
        clear s215_z s216_z
        refine (mn_c2 _ (rg_v h 2 9).toNatClampNeg 0 0 0 _ _ D g0_z g1_z g2_z g3_z g4_z g5_z (by decide) (by rw [show (0 : Int32).toInt = 0 by decide]; omega) n6_z hc_z).trans (congrArg (fun q => some (Value.int q)) (mnV_1 ⟨by omega, by omega, by omega, by omega⟩).symm)
      · replace b210_z : m = ((-1) : Int32) ∧ m.toInt = ((-1) : Int32).toInt := b210_z
        replace hc_z := rn_iconst (w := (-1)) (am_cur_of (i := (32, 1, .iconst (-1), (0, 0, 0), 0)) (by decide +kernel)) (by decide) hc_z
        replace hc_z := rn_iret (am_cur_of (i := (33, 1, .ireturn, (0, 0, 0), 0)) (by decide +kernel)) hc_z
        obtain ⟨e217_z, e218_z⟩ := hc_z
        exact e217_z.trans (congrArg (fun q => some (Value.int q)) (mnV_0 (by omega)).symm)
theorem mn_c23 {r : Option Value} {h' : am_H} {q m : Int32} : ∀ (f k : Nat) (x s i : Int32) (ls : am_L) (h : am_H), h 0 2 = .ref 23 → am_get ls 0 = some (.ref 0) → am_get ls 1 = some (.int q) → am_get ls 2 = some (.int m) → am_get ls 3 = some (.int x) → am_get ls 4 = some (.int s) → am_get ls 5 = some (.int i) → 0 ≤ i.toInt → i.toInt + k = (rg_v h 23 9).toInt → (rg_v h 23 9).toInt ≤ 6 → rn f am_m118 24 ls [] h r h' → r = some (.int (mnQ q (mnX (fun t => rg_v h 27 t) m (rg_v h 23 9).toNatClampNeg k x i) (mnS (fun t => rg_v h 27 t) k s i))) := by
  intro f
  induction f with
  | zero => intro k x s i ls h D g0_z g1_z g2_z g3_z g4_z g5_z i0_z ik n6_z hc_z; exact absurd hc_z rn_0
  | succ f ih_z =>
    intro k x s i ls h D g0_z g1_z g2_z g3_z g4_z g5_z i0_z ik n6_z hc_z
    have z0_z : (0 : Int32).toInt = 0 := by decide
    replace hc_z := rn_iload (am_cur_of (i := (42, 2, .iload 5, (0, 0, 0), 0)) (by decide +kernel)) g5_z hc_z
    replace hc_z := rn_aload_n (am_cur_of (i := (44, 1, .aload_n 0, (0, 0, 0), 0)) (by decide +kernel)) g0_z hc_z
    replace hc_z := rn_getM (x := 23) (am_cur_of (i := (45, 3, .getfield 18, (0, 2, 663), 0)) (by decide +kernel)) D hc_z
    replace hc_z := rn_getI (v := rg_v h 23 9) (am_cur_of (i := (48, 3, .getfield 241, (1, 9, 285), 0)) (by decide +kernel)) (by decide +kernel) rfl hc_z
    replace hc_z := rn_cmp (am_cur_of (i := (51, 3, .if_icmp .ge 49, (54, 0, 0), 0)) (by decide +kernel)) hc_z
    rcases hc_z with ⟨b219_z, hc_z⟩ | ⟨b219_z, hc_z⟩
    · replace b219_z : (rg_v h 23 9).toInt ≤ i.toInt := b219_z
      obtain rfl : k = 0 := by omega
      replace hc_z := rn_iload_n (am_cur_of (i := (100, 1, .iload_n 3, (0, 0, 0), 0)) (by decide +kernel)) g3_z hc_z
      replace hc_z := rn_iload (am_cur_of (i := (101, 2, .iload 4, (0, 0, 0), 0)) (by decide +kernel)) g4_z hc_z
      replace hc_z := rn_callS (M' := am_m121) (ar := [.int s, .int x]) (rest := []) (L := lv_args 0 [.int x, .int s]) (am_cur_of (i := (103, 3, .invokestatic 321, (121, 1170, 3), 0)) (by decide +kernel)) rfl rfl rfl rfl hc_z
      obtain ⟨r220_z, h221_z, q222_z, hc_z⟩ := hc_z
      obtain ⟨e223_z, y224_z⟩ := mn_121 q222_z
      replace y224_z := y224_z.symm
      subst y224_z
      subst e223_z
      replace hc_z : rn _ _ _ _ [.int (mnG 64 x s)] _ _ _ := hc_z
      replace hc_z := rn_istore (am_cur_of (i := (106, 2, .istore 5, (0, 0, 0), 0)) (by decide +kernel)) hc_z
      obtain ⟨_, s225_z, s226_z, g5_z, hc_z⟩ := hc_z
      replace g0_z := s225_z 0 _ (by decide) rfl g0_z
      replace g1_z := s225_z 1 _ (by decide) rfl g1_z
      replace g2_z := s225_z 2 _ (by decide) rfl g2_z
      replace g3_z := s225_z 3 _ (by decide) rfl g3_z
      replace g4_z := s225_z 4 _ (by decide) rfl g4_z
      clear s225_z s226_z
      replace hc_z := rn_iload (am_cur_of (i := (108, 2, .iload 5, (0, 0, 0), 0)) (by decide +kernel)) g5_z hc_z
      replace hc_z := rn_if (am_cur_of (i := (110, 3, .ifCond .ne 5, (62, 0, 0), 0)) (by decide +kernel)) hc_z
      rcases hc_z with ⟨b227_z, hc_z⟩ | ⟨b227_z, hc_z⟩
      · replace b227_z : ¬ (mnG 64 x s) = (0 : Int32) ∧ ¬ (mnG 64 x s).toInt = (0 : Int32).toInt := b227_z
        replace hc_z := rn_iload_n (am_cur_of (i := (115, 1, .iload_n 1, (0, 0, 0), 0)) (by decide +kernel)) g1_z hc_z
        replace hc_z := rn_if (am_cur_of (i := (116, 3, .ifCond .ne 10, (68, 0, 0), 0)) (by decide +kernel)) hc_z
        rcases hc_z with ⟨b228_z, hc_z⟩ | ⟨b228_z, hc_z⟩
        · replace b228_z : ¬ q = (0 : Int32) ∧ ¬ q.toInt = (0 : Int32).toInt := b228_z
          replace hc_z := rn_iload (am_cur_of (i := (126, 2, .iload 4, (0, 0, 0), 0)) (by decide +kernel)) g4_z hc_z
          replace hc_z := rn_iload (am_cur_of (i := (128, 2, .iload 5, (0, 0, 0), 0)) (by decide +kernel)) g5_z hc_z
          replace hc_z := rn_idiv (w := s / (mnG 64 x s)) (am_cur_of (i := (130, 1, .idiv, (0, 0, 0), 0)) (by decide +kernel)) rfl hc_z
          obtain ⟨d229_z, hc_z⟩ := hc_z
          replace hc_z := rn_iret (am_cur_of (i := (131, 1, .ireturn, (0, 0, 0), 0)) (by decide +kernel)) hc_z
          obtain ⟨e230_z, e231_z⟩ := hc_z
          exact e230_z.trans (congrArg (fun q => some (Value.int q)) (mnQ_2 b227_z.1 b228_z.1).symm)
        · replace b228_z : q = (0 : Int32) ∧ q.toInt = (0 : Int32).toInt := b228_z
          replace hc_z := rn_iload_n (am_cur_of (i := (119, 1, .iload_n 3, (0, 0, 0), 0)) (by decide +kernel)) g3_z hc_z
          replace hc_z := rn_iload (am_cur_of (i := (120, 2, .iload 5, (0, 0, 0), 0)) (by decide +kernel)) g5_z hc_z
          replace hc_z := rn_idiv (w := x / (mnG 64 x s)) (am_cur_of (i := (122, 1, .idiv, (0, 0, 0), 0)) (by decide +kernel)) rfl hc_z
          obtain ⟨d232_z, hc_z⟩ := hc_z
          replace hc_z := rn_goto (am_cur_of (i := (123, 3, .goto 8, (71, 0, 0), 0)) (by decide +kernel)) hc_z
          replace hc_z := rn_iret (am_cur_of (i := (131, 1, .ireturn, (0, 0, 0), 0)) (by decide +kernel)) hc_z
          obtain ⟨e233_z, e234_z⟩ := hc_z
          exact e233_z.trans (congrArg (fun q => some (Value.int q)) (mnQ_1 b227_z.1 b228_z.1).symm)
      · replace b227_z : (mnG 64 x s) = (0 : Int32) ∧ (mnG 64 x s).toInt = (0 : Int32).toInt := b227_z
        replace hc_z := rn_iconst (w := (-1)) (am_cur_of (i := (113, 1, .iconst (-1), (0, 0, 0), 0)) (by decide +kernel)) (by decide) hc_z
        replace hc_z := rn_iret (am_cur_of (i := (114, 1, .ireturn, (0, 0, 0), 0)) (by decide +kernel)) hc_z
        obtain ⟨e235_z, e236_z⟩ := hc_z
        exact e235_z.trans (congrArg (fun q => some (Value.int q)) (mnQ_0 b227_z.1).symm)
    · replace b219_z : i.toInt < (rg_v h 23 9).toInt := b219_z
      obtain ⟨k, rfl⟩ : ∃ k2_z, k = k2_z + 1 := ⟨k - 1, by omega⟩
      have ci_z := rt_cl i0_z
      have c1_z := rt_c1 i0_z (by omega)
      replace hc_z := rn_iload_n (am_cur_of (i := (54, 1, .iload_n 3, (0, 0, 0), 0)) (by decide +kernel)) g3_z hc_z
      replace hc_z := rn_iload_n (am_cur_of (i := (55, 1, .iload_n 2, (0, 0, 0), 0)) (by decide +kernel)) g2_z hc_z
      replace hc_z := rn_aload_n (am_cur_of (i := (56, 1, .aload_n 0, (0, 0, 0), 0)) (by decide +kernel)) g0_z hc_z
      replace hc_z := rn_getM (x := 23) (am_cur_of (i := (57, 3, .getfield 18, (0, 2, 663), 0)) (by decide +kernel)) D hc_z
      replace hc_z := rn_iload (am_cur_of (i := (60, 2, .iload 5, (0, 0, 0), 0)) (by decide +kernel)) g5_z hc_z
      replace hc_z := rn_callV (M' := am_m120) (o := 23) (ar := [.int i]) (rest := [.int m, .int x]) (L := lv_args 0 [.ref 23, .int i]) (am_cur_of (i := (62, 3, .invokevirtual 315, (120, 1166, 3), 0)) (by decide +kernel)) rfl rfl rfl rfl hc_z
      obtain ⟨r237_z, h238_z, q239_z, hc_z⟩ := hc_z
      obtain ⟨e240_z, y241_z⟩ := mn_120_23 (by omega) n6_z q239_z
      replace y241_z := y241_z.symm
      subst y241_z
      subst e240_z
      replace hc_z : rn _ _ _ _ [.int (mnP (fun t => rg_v h 27 t) i (rg_v h 23 9).toNatClampNeg 1 0), .int m, .int x] _ _ _ := hc_z
      replace hc_z := rn_imul (w := m * (mnP (fun t => rg_v h 27 t) i (rg_v h 23 9).toNatClampNeg 1 0)) (am_cur_of (i := (65, 1, .imul, (0, 0, 0), 0)) (by decide +kernel)) rfl hc_z
      replace hc_z := rn_aload_n (am_cur_of (i := (66, 1, .aload_n 0, (0, 0, 0), 0)) (by decide +kernel)) g0_z hc_z
      replace hc_z := rn_getM (x := 23) (am_cur_of (i := (67, 3, .getfield 18, (0, 2, 663), 0)) (by decide +kernel)) D hc_z
      replace hc_z := rn_getR (x := 27) (am_cur_of (i := (70, 3, .getfield 318, (1, 10, 290), 0)) (by decide +kernel)) (by decide +kernel) hc_z
      replace hc_z := rn_iload (am_cur_of (i := (73, 2, .iload 5, (0, 0, 0), 0)) (by decide +kernel)) g5_z hc_z
      replace hc_z := rn_iaload (N := 6) (q := i.toNatClampNeg) (v := rg_v h 27 i.toNatClampNeg) (am_cur_of (i := (75, 1, .iaload, (0, 0, 0), 0)) (by decide +kernel)) (by decide +kernel) rfl rfl hc_z
      obtain ⟨p242_z, hc_z⟩ := hc_z
      replace hc_z := rn_imul (w := (m * (mnP (fun t => rg_v h 27 t) i (rg_v h 23 9).toNatClampNeg 1 0)) * (rg_v h 27 i.toNatClampNeg)) (am_cur_of (i := (76, 1, .imul, (0, 0, 0), 0)) (by decide +kernel)) rfl hc_z
      replace hc_z := rn_iadd (w := x + ((m * (mnP (fun t => rg_v h 27 t) i (rg_v h 23 9).toNatClampNeg 1 0)) * (rg_v h 27 i.toNatClampNeg))) (am_cur_of (i := (77, 1, .iadd, (0, 0, 0), 0)) (by decide +kernel)) rfl hc_z
      replace hc_z := rn_istore_n (am_cur_of (i := (78, 1, .istore_n 3, (0, 0, 0), 0)) (by decide +kernel)) hc_z
      obtain ⟨_, s243_z, s244_z, g3_z, hc_z⟩ := hc_z
      replace g0_z := s243_z 0 _ (by decide) rfl g0_z
      replace g1_z := s243_z 1 _ (by decide) rfl g1_z
      replace g2_z := s243_z 2 _ (by decide) rfl g2_z
      replace g4_z := s243_z 4 _ (by decide) rfl g4_z
      replace g5_z := s243_z 5 _ (by decide) rfl g5_z
      clear s243_z s244_z
      replace hc_z := rn_iload (am_cur_of (i := (79, 2, .iload 4, (0, 0, 0), 0)) (by decide +kernel)) g4_z hc_z
      replace hc_z := rn_aload_n (am_cur_of (i := (81, 1, .aload_n 0, (0, 0, 0), 0)) (by decide +kernel)) g0_z hc_z
      replace hc_z := rn_getM (x := 23) (am_cur_of (i := (82, 3, .getfield 18, (0, 2, 663), 0)) (by decide +kernel)) D hc_z
      replace hc_z := rn_getR (x := 27) (am_cur_of (i := (85, 3, .getfield 318, (1, 10, 290), 0)) (by decide +kernel)) (by decide +kernel) hc_z
      replace hc_z := rn_iload (am_cur_of (i := (88, 2, .iload 5, (0, 0, 0), 0)) (by decide +kernel)) g5_z hc_z
      replace hc_z := rn_iaload (N := 6) (q := i.toNatClampNeg) (v := rg_v h 27 i.toNatClampNeg) (am_cur_of (i := (90, 1, .iaload, (0, 0, 0), 0)) (by decide +kernel)) (by decide +kernel) rfl rfl hc_z
      obtain ⟨p245_z, hc_z⟩ := hc_z
      replace hc_z := rn_iadd (w := s + (rg_v h 27 i.toNatClampNeg)) (am_cur_of (i := (91, 1, .iadd, (0, 0, 0), 0)) (by decide +kernel)) rfl hc_z
      replace hc_z := rn_istore (am_cur_of (i := (92, 2, .istore 4, (0, 0, 0), 0)) (by decide +kernel)) hc_z
      obtain ⟨_, s246_z, s247_z, g4_z, hc_z⟩ := hc_z
      replace g0_z := s246_z 0 _ (by decide) rfl g0_z
      replace g1_z := s246_z 1 _ (by decide) rfl g1_z
      replace g2_z := s246_z 2 _ (by decide) rfl g2_z
      replace g3_z := s246_z 3 _ (by decide) rfl g3_z
      replace g5_z := s246_z 5 _ (by decide) rfl g5_z
      clear s246_z s247_z
      replace hc_z := rn_iinc (w := i + 1) (am_cur_of (i := (94, 3, .iinc 5 1, (0, 0, 0), 0)) (by decide +kernel)) g5_z rfl hc_z
      obtain ⟨_, s248_z, s249_z, g5_z, hc_z⟩ := hc_z
      replace g0_z := s248_z 0 _ (by decide) rfl g0_z
      replace g1_z := s248_z 1 _ (by decide) rfl g1_z
      replace g2_z := s248_z 2 _ (by decide) rfl g2_z
      replace g3_z := s248_z 3 _ (by decide) rfl g3_z
      replace g4_z := s248_z 4 _ (by decide) rfl g4_z
      clear s248_z s249_z
      replace hc_z := rn_gotoL (am_cur_of (i := (97, 3, .goto (-55), (24, 0, 0), 0)) (by decide +kernel)) hc_z
      exact ih_z k _ _ (i + 1) _ _ D g0_z g1_z g2_z g3_z g4_z g5_z (by omega) (by omega) n6_z hc_z
theorem mn_118_23 {n : Nat} {r : Option Value} {h h' : am_H} {q : Int32} (D : h 0 2 = .ref 23) (t0_z : 0 ≤ (rg_v h 23 12).toInt) (t3_z : (rg_v h 23 12).toInt ≤ 3) (n0_z : 0 ≤ (rg_v h 23 9).toInt) (n6_z : (rg_v h 23 9).toInt ≤ 6) (hc_z : rn n am_m118 0 (lv_args 0 [.ref 0, .int q]) [] h r h') : r = some (.int (mnV (fun t => rg_v h 27 t) (rg_v h 23 9).toNatClampNeg q (mnU (fun t => rg_v h 30 t) (fun t => rg_v h 31 t) (rg_v h 23 12).toNatClampNeg (-1) 0))) := by
  have zm1_z : ((-1) : Int32).toInt = (-1) := by decide
  have z0_z : (0 : Int32).toInt = 0 := by decide
  have z1_z : (1 : Int32).toInt = 1 := by decide
  have g0_z : am_get (lv_args 0 [.ref 0, .int q]) 0 = some (.ref 0) := rfl
  have g1_z : am_get (lv_args 0 [.ref 0, .int q]) 1 = some (.int q) := rfl
  replace hc_z := rn_aload_n (am_cur_of (i := (0, 1, .aload_n 0, (0, 0, 0), 0)) (by decide +kernel)) g0_z hc_z
  replace hc_z := rn_getM (x := 23) (am_cur_of (i := (1, 3, .getfield 18, (0, 2, 663), 0)) (by decide +kernel)) D hc_z
  replace hc_z := rn_callV (M' := am_m119) (o := 23) (ar := []) (rest := []) (L := lv_args 0 [.ref 23]) (am_cur_of (i := (4, 3, .invokevirtual 312, (119, 1162, 3), 0)) (by decide +kernel)) rfl rfl rfl rfl hc_z
  obtain ⟨r250_z, h251_z, q252_z, hc_z⟩ := hc_z
  have q119_z := mn_119_23 t0_z t3_z q252_z
  obtain ⟨m, em⟩ : ∃ m2_z : Int32, (mnU (fun t => rg_v h 30 t) (fun t => rg_v h 31 t) (rg_v h 23 12).toNatClampNeg (-1) 0) = m2_z := ⟨_, rfl⟩
  rw [em] at q119_z ⊢
  obtain ⟨rfl, hh⟩ := q119_z
  replace hh := hh.symm
  subst hh
  have cn := rt_cl n0_z
  replace hc_z : rn _ _ _ _ [.int m] _ _ _ := hc_z
  replace hc_z := rn_istore_n (am_cur_of (i := (7, 1, .istore_n 2, (0, 0, 0), 0)) (by decide +kernel)) hc_z
  obtain ⟨_, s253_z, s254_z, g2_z, hc_z⟩ := hc_z
  replace g0_z := s253_z 0 _ (by decide) rfl g0_z
  replace g1_z := s253_z 1 _ (by decide) rfl g1_z
  clear s253_z s254_z
  replace hc_z := rn_iload_n (am_cur_of (i := (8, 1, .iload_n 1, (0, 0, 0), 0)) (by decide +kernel)) g1_z hc_z
  replace hc_z := rn_iconst (w := 0) (am_cur_of (i := (9, 1, .iconst 0, (0, 0, 0), 0)) (by decide +kernel)) (by decide) hc_z
  replace hc_z := rn_iconst (w := 1) (am_cur_of (i := (10, 1, .iconst 1, (0, 0, 0), 0)) (by decide +kernel)) (by decide) hc_z
  replace hc_z := rn_callS (M' := am_m62) (ar := [.int 1, .int 0, .int q]) (rest := []) (L := lv_args 0 [.int q, .int 0, .int 1]) (am_cur_of (i := (11, 3, .invokestatic 172, (62, 908, 3), 0)) (by decide +kernel)) rfl rfl rfl rfl hc_z
  obtain ⟨r255_z, h256_z, q257_z, hc_z⟩ := hc_z
  rcases mn_62 q257_z with ⟨b258_z, rfl, y259_z⟩ | ⟨b260_z, b261_z, rfl, y262_z⟩ | ⟨b263_z, b264_z, rfl, y265_z⟩
  · replace y259_z := y259_z.symm
    subst y259_z
    replace b258_z : q.toInt < (0 : Int32).toInt := b258_z
    replace hc_z : rn _ _ _ _ [.int 0] _ _ _ := hc_z
    replace hc_z := rn_ifT (am_cur_of (i := (14, 3, .ifCond .eq 18, (16, 0, 0), 0)) (by decide +kernel)) (by decide) hc_z
    replace hc_z := rn_iconst (w := (-1)) (am_cur_of (i := (32, 1, .iconst (-1), (0, 0, 0), 0)) (by decide +kernel)) (by decide) hc_z
    replace hc_z := rn_iret (am_cur_of (i := (33, 1, .ireturn, (0, 0, 0), 0)) (by decide +kernel)) hc_z
    obtain ⟨e266_z, e267_z⟩ := hc_z
    exact e266_z.trans (congrArg (fun q => some (Value.int q)) (mnV_0 (by omega)).symm)
  · replace y262_z := y262_z.symm
    subst y262_z
    replace b260_z : (0 : Int32).toInt ≤ q.toInt := b260_z
    replace b261_z : (1 : Int32).toInt < q.toInt := b261_z
    replace hc_z : rn _ _ _ _ [.int 0] _ _ _ := hc_z
    replace hc_z := rn_ifT (am_cur_of (i := (14, 3, .ifCond .eq 18, (16, 0, 0), 0)) (by decide +kernel)) (by decide) hc_z
    replace hc_z := rn_iconst (w := (-1)) (am_cur_of (i := (32, 1, .iconst (-1), (0, 0, 0), 0)) (by decide +kernel)) (by decide) hc_z
    replace hc_z := rn_iret (am_cur_of (i := (33, 1, .ireturn, (0, 0, 0), 0)) (by decide +kernel)) hc_z
    obtain ⟨e268_z, e269_z⟩ := hc_z
    exact e268_z.trans (congrArg (fun q => some (Value.int q)) (mnV_0 (by omega)).symm)
  · replace y265_z := y265_z.symm
    subst y265_z
    replace b263_z : (0 : Int32).toInt ≤ q.toInt := b263_z
    replace b264_z : q.toInt ≤ (1 : Int32).toInt := b264_z
    replace hc_z : rn _ _ _ _ [.int 1] _ _ _ := hc_z
    replace hc_z := rn_ifF (am_cur_of (i := (14, 3, .ifCond .eq 18, (16, 0, 0), 0)) (by decide +kernel)) (by decide) hc_z
    replace hc_z := rn_aload_n (am_cur_of (i := (17, 1, .aload_n 0, (0, 0, 0), 0)) (by decide +kernel)) g0_z hc_z
    replace hc_z := rn_getM (x := 23) (am_cur_of (i := (18, 3, .getfield 18, (0, 2, 663), 0)) (by decide +kernel)) D hc_z
    replace hc_z := rn_getI (v := rg_v h 23 9) (am_cur_of (i := (21, 3, .getfield 241, (1, 9, 285), 0)) (by decide +kernel)) (by decide +kernel) rfl hc_z
    replace hc_z := rn_if (am_cur_of (i := (24, 3, .ifCond .eq 8, (16, 0, 0), 0)) (by decide +kernel)) hc_z
    rcases hc_z with ⟨b270_z, hc_z⟩ | ⟨b270_z, hc_z⟩
    · replace b270_z : (rg_v h 23 9) = (0 : Int32) ∧ (rg_v h 23 9).toInt = (0 : Int32).toInt := b270_z
      replace hc_z := rn_iconst (w := (-1)) (am_cur_of (i := (32, 1, .iconst (-1), (0, 0, 0), 0)) (by decide +kernel)) (by decide) hc_z
      replace hc_z := rn_iret (am_cur_of (i := (33, 1, .ireturn, (0, 0, 0), 0)) (by decide +kernel)) hc_z
      obtain ⟨e271_z, e272_z⟩ := hc_z
      exact e271_z.trans (congrArg (fun q => some (Value.int q)) (mnV_0 (by omega)).symm)
    · replace b270_z : ¬ (rg_v h 23 9) = (0 : Int32) ∧ ¬ (rg_v h 23 9).toInt = (0 : Int32).toInt := b270_z
      have nz : ¬ (rg_v h 23 9).toInt = 0 := fun z => b270_z.2 (z.trans (by decide))
      replace hc_z := rn_iload_n (am_cur_of (i := (27, 1, .iload_n 2, (0, 0, 0), 0)) (by decide +kernel)) g2_z hc_z
      replace hc_z := rn_iconst (w := (-1)) (am_cur_of (i := (28, 1, .iconst (-1), (0, 0, 0), 0)) (by decide +kernel)) (by decide) hc_z
      replace hc_z := rn_cmp (am_cur_of (i := (29, 3, .if_icmp .ne 5, (18, 0, 0), 0)) (by decide +kernel)) hc_z
      rcases hc_z with ⟨b273_z, hc_z⟩ | ⟨b273_z, hc_z⟩
      · replace b273_z : ¬ m = ((-1) : Int32) ∧ ¬ m.toInt = ((-1) : Int32).toInt := b273_z
        replace hc_z := rn_iconst (w := 0) (am_cur_of (i := (34, 1, .iconst 0, (0, 0, 0), 0)) (by decide +kernel)) (by decide) hc_z
        replace hc_z := rn_istore_n (am_cur_of (i := (35, 1, .istore_n 3, (0, 0, 0), 0)) (by decide +kernel)) hc_z
        obtain ⟨_, s274_z, s275_z, g3_z, hc_z⟩ := hc_z
        replace g0_z := s274_z 0 _ (by decide) rfl g0_z
        replace g1_z := s274_z 1 _ (by decide) rfl g1_z
        replace g2_z := s274_z 2 _ (by decide) rfl g2_z
        clear s274_z s275_z
        replace hc_z := rn_iconst (w := 0) (am_cur_of (i := (36, 1, .iconst 0, (0, 0, 0), 0)) (by decide +kernel)) (by decide) hc_z
        replace hc_z := rn_istore (am_cur_of (i := (37, 2, .istore 4, (0, 0, 0), 0)) (by decide +kernel)) hc_z
        obtain ⟨_, s276_z, s277_z, g4_z, hc_z⟩ := hc_z
        replace g0_z := s276_z 0 _ (by decide) rfl g0_z
        replace g1_z := s276_z 1 _ (by decide) rfl g1_z
        replace g2_z := s276_z 2 _ (by decide) rfl g2_z
        replace g3_z := s276_z 3 _ (by decide) rfl g3_z
        clear s276_z s277_z
        replace hc_z := rn_iconst (w := 0) (am_cur_of (i := (39, 1, .iconst 0, (0, 0, 0), 0)) (by decide +kernel)) (by decide) hc_z
        replace hc_z := rn_istore (am_cur_of (i := (40, 2, .istore 5, (0, 0, 0), 0)) (by decide +kernel)) hc_z
        obtain ⟨_, s278_z, s279_z, g5_z, hc_z⟩ := hc_z
        replace g0_z := s278_z 0 _ (by decide) rfl g0_z
        replace g1_z := s278_z 1 _ (by decide) rfl g1_z
        replace g2_z := s278_z 2 _ (by decide) rfl g2_z
        replace g3_z := s278_z 3 _ (by decide) rfl g3_z
        replace g4_z := s278_z 4 _ (by decide) rfl g4_z
        clear s278_z s279_z
        refine (mn_c23 _ (rg_v h 23 9).toNatClampNeg 0 0 0 _ _ D g0_z g1_z g2_z g3_z g4_z g5_z (by decide) (by rw [show (0 : Int32).toInt = 0 by decide]; omega) n6_z hc_z).trans (congrArg (fun q => some (Value.int q)) (mnV_1 ⟨by omega, by omega, by omega, by omega⟩).symm)
      · replace b273_z : m = ((-1) : Int32) ∧ m.toInt = ((-1) : Int32).toInt := b273_z
        replace hc_z := rn_iconst (w := (-1)) (am_cur_of (i := (32, 1, .iconst (-1), (0, 0, 0), 0)) (by decide +kernel)) (by decide) hc_z
        replace hc_z := rn_iret (am_cur_of (i := (33, 1, .ireturn, (0, 0, 0), 0)) (by decide +kernel)) hc_z
        obtain ⟨e280_z, e281_z⟩ := hc_z
        exact e280_z.trans (congrArg (fun q => some (Value.int q)) (mnV_0 (by omega)).symm)
theorem mn_mu {r : Option Value} {g' : am_H} {q : Int32} : ∀ (f k : Nat) (m i : Int32) (ls : am_L) (g : am_H), (∀ t, t < 3 → 0 ≤ (rg_v g 177 t).toInt) → am_get ls 0 = some (.ref 164) → am_get ls 1 = some (.int q) → am_get ls 2 = some (.int m) → am_get ls 3 = some (.int i) → -1 ≤ m.toInt → 0 ≤ i.toInt → i.toInt + k = (rg_v g 164 15).toInt → (rg_v g 164 15).toInt ≤ 3 → rn f am_m234 7 ls [] g r g' → ∃ ls2_z, am_get ls2_z 0 = some (.ref 164) ∧ am_get ls2_z 1 = some (.int q) ∧ am_get ls2_z 2 = some (.int (mnU (fun t => rg_v g 176 t) (fun t => rg_v g 177 t) k m i)) ∧ -1 ≤ (mnU (fun t => rg_v g 176 t) (fun t => rg_v g 177 t) k m i).toInt ∧ rn f am_m234 34 ls2_z [] g r g' := by
  intro f
  induction f with
  | zero => intro k m i ls g R g0_z g1_z g2_z g3_z m0_z i0_z ik n3_z hm_z; exact absurd hm_z rn_0
  | succ f ih_z =>
    intro k m i ls g R g0_z g1_z g2_z g3_z m0_z i0_z ik n3_z hm_z
    have z0_z : (0 : Int32).toInt = 0 := by decide
    have z100_z : (100 : Int32).toInt = 100 := by decide
    replace hm_z := rn_iload_n (am_cur_of (i := (9, 1, .iload_n 3, (0, 0, 0), 0)) (by decide +kernel)) g3_z hm_z
    replace hm_z := rn_aload_n (am_cur_of (i := (10, 1, .aload_n 0, (0, 0, 0), 0)) (by decide +kernel)) g0_z hm_z
    replace hm_z := rn_getI (v := rg_v g 164 15) (am_cur_of (i := (11, 3, .getfield 228, (12, 15, 1399), 0)) (by decide +kernel)) (by decide +kernel) rfl hm_z
    replace hm_z := rn_cmp (am_cur_of (i := (14, 3, .if_icmp .ge 45, (34, 0, 0), 0)) (by decide +kernel)) hm_z
    rcases hm_z with ⟨b282_z, hm_z⟩ | ⟨b282_z, hm_z⟩
    · replace b282_z : (rg_v g 164 15).toInt ≤ i.toInt := b282_z
      obtain rfl : k = 0 := by omega
      exact ⟨_, g0_z, g1_z, g2_z, m0_z, hm_z⟩
    · replace b282_z : i.toInt < (rg_v g 164 15).toInt := b282_z
      obtain ⟨k, rfl⟩ : ∃ k2_z, k = k2_z + 1 := ⟨k - 1, by omega⟩
      have ci_z := rt_cl i0_z
      have c1_z := rt_c1 i0_z (by omega)
      have Ri := R i.toNatClampNeg (by omega)
      replace hm_z := rn_aload_n (am_cur_of (i := (17, 1, .aload_n 0, (0, 0, 0), 0)) (by decide +kernel)) g0_z hm_z
      replace hm_z := rn_getR (x := 176) (am_cur_of (i := (18, 3, .getfield 48, (12, 31, 1415), 0)) (by decide +kernel)) (by decide +kernel) hm_z
      replace hm_z := rn_iload_n (am_cur_of (i := (21, 1, .iload_n 3, (0, 0, 0), 0)) (by decide +kernel)) g3_z hm_z
      replace hm_z := rn_iaload (N := 6) (q := i.toNatClampNeg) (v := rg_v g 176 i.toNatClampNeg) (am_cur_of (i := (22, 1, .iaload, (0, 0, 0), 0)) (by decide +kernel)) (by decide +kernel) rfl rfl hm_z
      obtain ⟨p283_z, hm_z⟩ := hm_z
      replace hm_z := rn_bipush (w := 100) (am_cur_of (i := (23, 2, .bipush 100, (0, 0, 0), 0)) (by decide +kernel)) (by decide) hm_z
      replace hm_z := rn_cmp (am_cur_of (i := (25, 3, .if_icmp .ne 26, (30, 0, 0), 0)) (by decide +kernel)) hm_z
      rcases hm_z with ⟨b284_z, hm_z⟩ | ⟨b284_z, hm_z⟩
      · replace b284_z : ¬ (rg_v g 176 i.toNatClampNeg) = (100 : Int32) ∧ ¬ (rg_v g 176 i.toNatClampNeg).toInt = (100 : Int32).toInt := b284_z
        replace hm_z := rn_iload_n (am_cur_of (i := (51, 1, .iload_n 2, (0, 0, 0), 0)) (by decide +kernel)) g2_z hm_z
        replace hm_z := rn_istore_n (am_cur_of (i := (52, 1, .istore_n 2, (0, 0, 0), 0)) (by decide +kernel)) hm_z
        obtain ⟨_, s285_z, s286_z, g2_z, hm_z⟩ := hm_z
        replace g0_z := s285_z 0 _ (by decide) rfl g0_z
        replace g1_z := s285_z 1 _ (by decide) rfl g1_z
        replace g3_z := s285_z 3 _ (by decide) rfl g3_z
        clear s285_z s286_z
        replace hm_z := rn_iinc (w := i + 1) (am_cur_of (i := (53, 3, .iinc 3 1, (0, 0, 0), 0)) (by decide +kernel)) g3_z rfl hm_z
        obtain ⟨_, s287_z, s288_z, g3_z, hm_z⟩ := hm_z
        replace g0_z := s287_z 0 _ (by decide) rfl g0_z
        replace g1_z := s287_z 1 _ (by decide) rfl g1_z
        replace g2_z := s287_z 2 _ (by decide) rfl g2_z
        clear s287_z s288_z
        replace hm_z := rn_gotoL (am_cur_of (i := (56, 3, .goto (-47), (7, 0, 0), 0)) (by decide +kernel)) hm_z
        obtain ⟨l2_z, e0_z, e1_z, e2_z, e3_z, e4_z⟩ := ih_z k _ (i + 1) _ _ R g0_z g1_z g2_z g3_z (by omega) (by omega) (by omega) n3_z hm_z
        have st := (mnU_0 (k := k) (a := fun t => rg_v g 176 t) (b := fun t => rg_v g 177 t) (show ¬ (rg_v g 176 i.toNatClampNeg = 100 ∧ (m = -1 ∨ (rg_v g 177 i.toNatClampNeg).toInt < m.toInt)) from fun z => b284_z.1 z.1))
        exact ⟨l2_z, e0_z, e1_z, e2_z.trans (congrArg (fun q => some (Value.int q)) st.symm), by rw [st]; exact e3_z, rn_up (Nat.le_succ _) e4_z⟩
      · replace b284_z : (rg_v g 176 i.toNatClampNeg) = (100 : Int32) ∧ (rg_v g 176 i.toNatClampNeg).toInt = (100 : Int32).toInt := b284_z
        replace hm_z := rn_iload_n (am_cur_of (i := (28, 1, .iload_n 2, (0, 0, 0), 0)) (by decide +kernel)) g2_z hm_z
        replace hm_z := rn_if (am_cur_of (i := (29, 3, .ifCond .lt 13, (25, 0, 0), 0)) (by decide +kernel)) hm_z
        rcases hm_z with ⟨b289_z, hm_z⟩ | ⟨b289_z, hm_z⟩
        · replace b289_z : m.toInt < (0 : Int32).toInt := b289_z
          replace hm_z := rn_aload_n (am_cur_of (i := (42, 1, .aload_n 0, (0, 0, 0), 0)) (by decide +kernel)) g0_z hm_z
          replace hm_z := rn_getR (x := 177) (am_cur_of (i := (43, 3, .getfield 51, (12, 32, 1416), 0)) (by decide +kernel)) (by decide +kernel) hm_z
          replace hm_z := rn_iload_n (am_cur_of (i := (46, 1, .iload_n 3, (0, 0, 0), 0)) (by decide +kernel)) g3_z hm_z
          replace hm_z := rn_iaload (N := 6) (q := i.toNatClampNeg) (v := rg_v g 177 i.toNatClampNeg) (am_cur_of (i := (47, 1, .iaload, (0, 0, 0), 0)) (by decide +kernel)) (by decide +kernel) rfl rfl hm_z
          obtain ⟨p290_z, hm_z⟩ := hm_z
          replace hm_z := rn_goto (am_cur_of (i := (48, 3, .goto 4, (31, 0, 0), 0)) (by decide +kernel)) hm_z
          replace hm_z := rn_istore_n (am_cur_of (i := (52, 1, .istore_n 2, (0, 0, 0), 0)) (by decide +kernel)) hm_z
          obtain ⟨_, s291_z, s292_z, g2_z, hm_z⟩ := hm_z
          replace g0_z := s291_z 0 _ (by decide) rfl g0_z
          replace g1_z := s291_z 1 _ (by decide) rfl g1_z
          replace g3_z := s291_z 3 _ (by decide) rfl g3_z
          clear s291_z s292_z
          replace hm_z := rn_iinc (w := i + 1) (am_cur_of (i := (53, 3, .iinc 3 1, (0, 0, 0), 0)) (by decide +kernel)) g3_z rfl hm_z
          obtain ⟨_, s293_z, s294_z, g3_z, hm_z⟩ := hm_z
          replace g0_z := s293_z 0 _ (by decide) rfl g0_z
          replace g1_z := s293_z 1 _ (by decide) rfl g1_z
          replace g2_z := s293_z 2 _ (by decide) rfl g2_z
          clear s293_z s294_z
          replace hm_z := rn_gotoL (am_cur_of (i := (56, 3, .goto (-47), (7, 0, 0), 0)) (by decide +kernel)) hm_z
          obtain ⟨l2_z, e0_z, e1_z, e2_z, e3_z, e4_z⟩ := ih_z k _ (i + 1) _ _ R g0_z g1_z g2_z g3_z (by omega) (by omega) (by omega) n3_z hm_z
          have st := (mnU_1 (k := k) (a := fun t => rg_v g 176 t) (b := fun t => rg_v g 177 t) (show rg_v g 176 i.toNatClampNeg = 100 ∧ (m = -1 ∨ (rg_v g 177 i.toNatClampNeg).toInt < m.toInt) from ⟨b284_z.1, Or.inl (Int32.toInt_inj.mp (by rw [show (-1 : Int32).toInt = -1 by decide]; omega))⟩))
          exact ⟨l2_z, e0_z, e1_z, e2_z.trans (congrArg (fun q => some (Value.int q)) st.symm), by rw [st]; exact e3_z, rn_up (Nat.le_succ _) e4_z⟩
        · replace b289_z : (0 : Int32).toInt ≤ m.toInt := b289_z
          replace hm_z := rn_aload_n (am_cur_of (i := (32, 1, .aload_n 0, (0, 0, 0), 0)) (by decide +kernel)) g0_z hm_z
          replace hm_z := rn_getR (x := 177) (am_cur_of (i := (33, 3, .getfield 51, (12, 32, 1416), 0)) (by decide +kernel)) (by decide +kernel) hm_z
          replace hm_z := rn_iload_n (am_cur_of (i := (36, 1, .iload_n 3, (0, 0, 0), 0)) (by decide +kernel)) g3_z hm_z
          replace hm_z := rn_iaload (N := 6) (q := i.toNatClampNeg) (v := rg_v g 177 i.toNatClampNeg) (am_cur_of (i := (37, 1, .iaload, (0, 0, 0), 0)) (by decide +kernel)) (by decide +kernel) rfl rfl hm_z
          obtain ⟨p295_z, hm_z⟩ := hm_z
          replace hm_z := rn_iload_n (am_cur_of (i := (38, 1, .iload_n 2, (0, 0, 0), 0)) (by decide +kernel)) g2_z hm_z
          replace hm_z := rn_cmp (am_cur_of (i := (39, 3, .if_icmp .ge 12, (30, 0, 0), 0)) (by decide +kernel)) hm_z
          rcases hm_z with ⟨b296_z, hm_z⟩ | ⟨b296_z, hm_z⟩
          · replace b296_z : m.toInt ≤ (rg_v g 177 i.toNatClampNeg).toInt := b296_z
            replace hm_z := rn_iload_n (am_cur_of (i := (51, 1, .iload_n 2, (0, 0, 0), 0)) (by decide +kernel)) g2_z hm_z
            replace hm_z := rn_istore_n (am_cur_of (i := (52, 1, .istore_n 2, (0, 0, 0), 0)) (by decide +kernel)) hm_z
            obtain ⟨_, s297_z, s298_z, g2_z, hm_z⟩ := hm_z
            replace g0_z := s297_z 0 _ (by decide) rfl g0_z
            replace g1_z := s297_z 1 _ (by decide) rfl g1_z
            replace g3_z := s297_z 3 _ (by decide) rfl g3_z
            clear s297_z s298_z
            replace hm_z := rn_iinc (w := i + 1) (am_cur_of (i := (53, 3, .iinc 3 1, (0, 0, 0), 0)) (by decide +kernel)) g3_z rfl hm_z
            obtain ⟨_, s299_z, s300_z, g3_z, hm_z⟩ := hm_z
            replace g0_z := s299_z 0 _ (by decide) rfl g0_z
            replace g1_z := s299_z 1 _ (by decide) rfl g1_z
            replace g2_z := s299_z 2 _ (by decide) rfl g2_z
            clear s299_z s300_z
            replace hm_z := rn_gotoL (am_cur_of (i := (56, 3, .goto (-47), (7, 0, 0), 0)) (by decide +kernel)) hm_z
            obtain ⟨l2_z, e0_z, e1_z, e2_z, e3_z, e4_z⟩ := ih_z k _ (i + 1) _ _ R g0_z g1_z g2_z g3_z (by omega) (by omega) (by omega) n3_z hm_z
            have st := (mnU_0 (k := k) (a := fun t => rg_v g 176 t) (b := fun t => rg_v g 177 t) (show ¬ (rg_v g 176 i.toNatClampNeg = 100 ∧ (m = -1 ∨ (rg_v g 177 i.toNatClampNeg).toInt < m.toInt)) from fun z => z.2.elim (fun q => absurd b289_z (by rw [q]; decide)) (fun q => absurd q (by omega))))
            exact ⟨l2_z, e0_z, e1_z, e2_z.trans (congrArg (fun q => some (Value.int q)) st.symm), by rw [st]; exact e3_z, rn_up (Nat.le_succ _) e4_z⟩
          · replace b296_z : (rg_v g 177 i.toNatClampNeg).toInt < m.toInt := b296_z
            replace hm_z := rn_aload_n (am_cur_of (i := (42, 1, .aload_n 0, (0, 0, 0), 0)) (by decide +kernel)) g0_z hm_z
            replace hm_z := rn_getR (x := 177) (am_cur_of (i := (43, 3, .getfield 51, (12, 32, 1416), 0)) (by decide +kernel)) (by decide +kernel) hm_z
            replace hm_z := rn_iload_n (am_cur_of (i := (46, 1, .iload_n 3, (0, 0, 0), 0)) (by decide +kernel)) g3_z hm_z
            replace hm_z := rn_iaload (N := 6) (q := i.toNatClampNeg) (v := rg_v g 177 i.toNatClampNeg) (am_cur_of (i := (47, 1, .iaload, (0, 0, 0), 0)) (by decide +kernel)) (by decide +kernel) rfl rfl hm_z
            obtain ⟨p301_z, hm_z⟩ := hm_z
            replace hm_z := rn_goto (am_cur_of (i := (48, 3, .goto 4, (31, 0, 0), 0)) (by decide +kernel)) hm_z
            replace hm_z := rn_istore_n (am_cur_of (i := (52, 1, .istore_n 2, (0, 0, 0), 0)) (by decide +kernel)) hm_z
            obtain ⟨_, s302_z, s303_z, g2_z, hm_z⟩ := hm_z
            replace g0_z := s302_z 0 _ (by decide) rfl g0_z
            replace g1_z := s302_z 1 _ (by decide) rfl g1_z
            replace g3_z := s302_z 3 _ (by decide) rfl g3_z
            clear s302_z s303_z
            replace hm_z := rn_iinc (w := i + 1) (am_cur_of (i := (53, 3, .iinc 3 1, (0, 0, 0), 0)) (by decide +kernel)) g3_z rfl hm_z
            obtain ⟨_, s304_z, s305_z, g3_z, hm_z⟩ := hm_z
            replace g0_z := s304_z 0 _ (by decide) rfl g0_z
            replace g1_z := s304_z 1 _ (by decide) rfl g1_z
            replace g2_z := s304_z 2 _ (by decide) rfl g2_z
            clear s304_z s305_z
            replace hm_z := rn_gotoL (am_cur_of (i := (56, 3, .goto (-47), (7, 0, 0), 0)) (by decide +kernel)) hm_z
            obtain ⟨l2_z, e0_z, e1_z, e2_z, e3_z, e4_z⟩ := ih_z k _ (i + 1) _ _ R g0_z g1_z g2_z g3_z (by omega) (by omega) (by omega) n3_z hm_z
            have st := (mnU_1 (k := k) (a := fun t => rg_v g 176 t) (b := fun t => rg_v g 177 t) (show rg_v g 176 i.toNatClampNeg = 100 ∧ (m = -1 ∨ (rg_v g 177 i.toNatClampNeg).toInt < m.toInt) from ⟨b284_z.1, Or.inr b296_z⟩))
            exact ⟨l2_z, e0_z, e1_z, e2_z.trans (congrArg (fun q => some (Value.int q)) st.symm), by rw [st]; exact e3_z, rn_up (Nat.le_succ _) e4_z⟩
theorem mn_mi {r : Option Value} {g' : am_H} {q m x s i : Int32} : ∀ (f k : Nat) (u t : Int32) (ls : am_L) (g : am_H), am_get ls 0 = some (.ref 164) → am_get ls 1 = some (.int q) → am_get ls 2 = some (.int m) → am_get ls 3 = some (.int x) → am_get ls 4 = some (.int s) → am_get ls 5 = some (.int i) → am_get ls 6 = some (.int u) → am_get ls 7 = some (.int t) → 0 ≤ t.toInt → t.toInt + k = (rg_v g 164 14).toInt → (rg_v g 164 14).toInt ≤ 6 → rn f am_m234 60 ls [] g r g' → ∃ l2_z, am_get l2_z 0 = some (.ref 164) ∧ am_get l2_z 1 = some (.int q) ∧ am_get l2_z 2 = some (.int m) ∧ am_get l2_z 3 = some (.int x) ∧ am_get l2_z 4 = some (.int s) ∧ am_get l2_z 5 = some (.int i) ∧ am_get l2_z 6 = some (.int (mnP (fun t => rg_v g 173 t) i k u t)) ∧ rn f am_m234 93 l2_z [] g r g' := by
  intro f
  induction f with
  | zero => intro k u t ls g g0_z g1_z g2_z g3_z g4_z g5_z g6_z g7_z t0_z tk n6_z hm_z; exact absurd hm_z rn_0
  | succ f ih_z =>
    intro k u t ls g g0_z g1_z g2_z g3_z g4_z g5_z g6_z g7_z t0_z tk n6_z hm_z
    replace hm_z := rn_iload (am_cur_of (i := (104, 2, .iload 7, (0, 0, 0), 0)) (by decide +kernel)) g7_z hm_z
    replace hm_z := rn_aload_n (am_cur_of (i := (106, 1, .aload_n 0, (0, 0, 0), 0)) (by decide +kernel)) g0_z hm_z
    replace hm_z := rn_getI (v := rg_v g 164 14) (am_cur_of (i := (107, 3, .getfield 225, (12, 14, 1398), 0)) (by decide +kernel)) (by decide +kernel) rfl hm_z
    replace hm_z := rn_cmp (am_cur_of (i := (110, 3, .if_icmp .ge 60, (93, 0, 0), 0)) (by decide +kernel)) hm_z
    rcases hm_z with ⟨b306_z, hm_z⟩ | ⟨b306_z, hm_z⟩
    · replace b306_z : (rg_v g 164 14).toInt ≤ t.toInt := b306_z
      obtain rfl : k = 0 := by omega
      exact ⟨_, g0_z, g1_z, g2_z, g3_z, g4_z, g5_z, g6_z, hm_z⟩
    · replace b306_z : t.toInt < (rg_v g 164 14).toInt := b306_z
      obtain ⟨k, rfl⟩ : ∃ k2_z, k = k2_z + 1 := ⟨k - 1, by omega⟩
      have ci_z := rt_cl t0_z
      have c1_z := rt_c1 t0_z (by omega)
      replace hm_z := rn_iload (am_cur_of (i := (113, 2, .iload 6, (0, 0, 0), 0)) (by decide +kernel)) g6_z hm_z
      replace hm_z := rn_aload_n (am_cur_of (i := (115, 1, .aload_n 0, (0, 0, 0), 0)) (by decide +kernel)) g0_z hm_z
      replace hm_z := rn_getR (x := 173) (am_cur_of (i := (116, 3, .getfield 39, (12, 28, 1412), 0)) (by decide +kernel)) (by decide +kernel) hm_z
      replace hm_z := rn_iload (am_cur_of (i := (119, 2, .iload 7, (0, 0, 0), 0)) (by decide +kernel)) g7_z hm_z
      replace hm_z := rn_iaload (N := 12) (q := t.toNatClampNeg) (v := rg_v g 173 t.toNatClampNeg) (am_cur_of (i := (121, 1, .iaload, (0, 0, 0), 0)) (by decide +kernel)) (by decide +kernel) rfl rfl hm_z
      obtain ⟨p307_z, hm_z⟩ := hm_z
      replace hm_z := rn_aload_n (am_cur_of (i := (122, 1, .aload_n 0, (0, 0, 0), 0)) (by decide +kernel)) g0_z hm_z
      replace hm_z := rn_getR (x := 173) (am_cur_of (i := (123, 3, .getfield 39, (12, 28, 1412), 0)) (by decide +kernel)) (by decide +kernel) hm_z
      replace hm_z := rn_iload (am_cur_of (i := (126, 2, .iload 5, (0, 0, 0), 0)) (by decide +kernel)) g5_z hm_z
      replace hm_z := rn_iaload (N := 12) (q := i.toNatClampNeg) (v := rg_v g 173 i.toNatClampNeg) (am_cur_of (i := (128, 1, .iaload, (0, 0, 0), 0)) (by decide +kernel)) (by decide +kernel) rfl rfl hm_z
      obtain ⟨p308_z, hm_z⟩ := hm_z
      replace hm_z := rn_cmp (am_cur_of (i := (129, 3, .if_icmp .gt 27, (86, 0, 0), 0)) (by decide +kernel)) hm_z
      rcases hm_z with ⟨b309_z, hm_z⟩ | ⟨b309_z, hm_z⟩
      · replace b309_z : (rg_v g 173 i.toNatClampNeg).toInt < (rg_v g 173 t.toNatClampNeg).toInt := b309_z
        replace hm_z := rn_iconst (w := 1) (am_cur_of (i := (156, 1, .iconst 1, (0, 0, 0), 0)) (by decide +kernel)) (by decide) hm_z
        replace hm_z := rn_goto (am_cur_of (i := (157, 3, .goto 4, (89, 0, 0), 0)) (by decide +kernel)) hm_z
        replace hm_z := rn_iadd (w := u + 1) (am_cur_of (i := (161, 1, .iadd, (0, 0, 0), 0)) (by decide +kernel)) rfl hm_z
        replace hm_z := rn_istore (am_cur_of (i := (162, 2, .istore 6, (0, 0, 0), 0)) (by decide +kernel)) hm_z
        obtain ⟨_, s310_z, s311_z, g6_z, hm_z⟩ := hm_z
        replace g0_z := s310_z 0 _ (by decide) rfl g0_z
        replace g1_z := s310_z 1 _ (by decide) rfl g1_z
        replace g2_z := s310_z 2 _ (by decide) rfl g2_z
        replace g3_z := s310_z 3 _ (by decide) rfl g3_z
        replace g4_z := s310_z 4 _ (by decide) rfl g4_z
        replace g5_z := s310_z 5 _ (by decide) rfl g5_z
        replace g7_z := s310_z 7 _ (by decide) rfl g7_z
        clear s310_z s311_z
        replace hm_z := rn_iinc (w := t + 1) (am_cur_of (i := (164, 3, .iinc 7 1, (0, 0, 0), 0)) (by decide +kernel)) g7_z rfl hm_z
        obtain ⟨_, s312_z, s313_z, g7_z, hm_z⟩ := hm_z
        replace g0_z := s312_z 0 _ (by decide) rfl g0_z
        replace g1_z := s312_z 1 _ (by decide) rfl g1_z
        replace g2_z := s312_z 2 _ (by decide) rfl g2_z
        replace g3_z := s312_z 3 _ (by decide) rfl g3_z
        replace g4_z := s312_z 4 _ (by decide) rfl g4_z
        replace g5_z := s312_z 5 _ (by decide) rfl g5_z
        replace g6_z := s312_z 6 _ (by decide) rfl g6_z
        clear s312_z s313_z
        replace hm_z := rn_gotoL (am_cur_of (i := (167, 3, .goto (-63), (60, 0, 0), 0)) (by decide +kernel)) hm_z
        obtain ⟨l2_z, e0_z, e1_z, e2_z, e3_z, e4_z, e5_z, e6_z, e7_z⟩ := ih_z k _ (t + 1) _ _ g0_z g1_z g2_z g3_z g4_z g5_z g6_z g7_z (by omega) (by omega) n6_z hm_z
        have st := (mnP_1 (k := k) (q := u) (w := fun t => rg_v g 173 t) (show (rg_v g 173 i.toNatClampNeg).toInt < (rg_v g 173 t.toNatClampNeg).toInt ∨ (rg_v g 173 t.toNatClampNeg = rg_v g 173 i.toNatClampNeg ∧ t.toInt < i.toInt) from Or.inl b309_z))
        exact ⟨l2_z, e0_z, e1_z, e2_z, e3_z, e4_z, e5_z, e6_z.trans (congrArg (fun q => some (Value.int q)) st.symm), rn_up (Nat.le_succ _) e7_z⟩
      · replace b309_z : (rg_v g 173 t.toNatClampNeg).toInt ≤ (rg_v g 173 i.toNatClampNeg).toInt := b309_z
        replace hm_z := rn_aload_n (am_cur_of (i := (132, 1, .aload_n 0, (0, 0, 0), 0)) (by decide +kernel)) g0_z hm_z
        replace hm_z := rn_getR (x := 173) (am_cur_of (i := (133, 3, .getfield 39, (12, 28, 1412), 0)) (by decide +kernel)) (by decide +kernel) hm_z
        replace hm_z := rn_iload (am_cur_of (i := (136, 2, .iload 7, (0, 0, 0), 0)) (by decide +kernel)) g7_z hm_z
        replace hm_z := rn_iaload (N := 12) (q := t.toNatClampNeg) (v := rg_v g 173 t.toNatClampNeg) (am_cur_of (i := (138, 1, .iaload, (0, 0, 0), 0)) (by decide +kernel)) (by decide +kernel) rfl rfl hm_z
        obtain ⟨p314_z, hm_z⟩ := hm_z
        replace hm_z := rn_aload_n (am_cur_of (i := (139, 1, .aload_n 0, (0, 0, 0), 0)) (by decide +kernel)) g0_z hm_z
        replace hm_z := rn_getR (x := 173) (am_cur_of (i := (140, 3, .getfield 39, (12, 28, 1412), 0)) (by decide +kernel)) (by decide +kernel) hm_z
        replace hm_z := rn_iload (am_cur_of (i := (143, 2, .iload 5, (0, 0, 0), 0)) (by decide +kernel)) g5_z hm_z
        replace hm_z := rn_iaload (N := 12) (q := i.toNatClampNeg) (v := rg_v g 173 i.toNatClampNeg) (am_cur_of (i := (145, 1, .iaload, (0, 0, 0), 0)) (by decide +kernel)) (by decide +kernel) rfl rfl hm_z
        obtain ⟨p315_z, hm_z⟩ := hm_z
        replace hm_z := rn_cmp (am_cur_of (i := (146, 3, .if_icmp .ne 14, (88, 0, 0), 0)) (by decide +kernel)) hm_z
        rcases hm_z with ⟨b316_z, hm_z⟩ | ⟨b316_z, hm_z⟩
        · replace b316_z : ¬ (rg_v g 173 t.toNatClampNeg) = (rg_v g 173 i.toNatClampNeg) ∧ ¬ (rg_v g 173 t.toNatClampNeg).toInt = (rg_v g 173 i.toNatClampNeg).toInt := b316_z
          replace hm_z := rn_iconst (w := 0) (am_cur_of (i := (160, 1, .iconst 0, (0, 0, 0), 0)) (by decide +kernel)) (by decide) hm_z
          replace hm_z := rn_iadd (w := u + 0) (am_cur_of (i := (161, 1, .iadd, (0, 0, 0), 0)) (by decide +kernel)) rfl hm_z
          replace hm_z := rn_istore (am_cur_of (i := (162, 2, .istore 6, (0, 0, 0), 0)) (by decide +kernel)) hm_z
          obtain ⟨_, s317_z, s318_z, g6_z, hm_z⟩ := hm_z
          replace g0_z := s317_z 0 _ (by decide) rfl g0_z
          replace g1_z := s317_z 1 _ (by decide) rfl g1_z
          replace g2_z := s317_z 2 _ (by decide) rfl g2_z
          replace g3_z := s317_z 3 _ (by decide) rfl g3_z
          replace g4_z := s317_z 4 _ (by decide) rfl g4_z
          replace g5_z := s317_z 5 _ (by decide) rfl g5_z
          replace g7_z := s317_z 7 _ (by decide) rfl g7_z
          clear s317_z s318_z
          replace hm_z := rn_iinc (w := t + 1) (am_cur_of (i := (164, 3, .iinc 7 1, (0, 0, 0), 0)) (by decide +kernel)) g7_z rfl hm_z
          obtain ⟨_, s319_z, s320_z, g7_z, hm_z⟩ := hm_z
          replace g0_z := s319_z 0 _ (by decide) rfl g0_z
          replace g1_z := s319_z 1 _ (by decide) rfl g1_z
          replace g2_z := s319_z 2 _ (by decide) rfl g2_z
          replace g3_z := s319_z 3 _ (by decide) rfl g3_z
          replace g4_z := s319_z 4 _ (by decide) rfl g4_z
          replace g5_z := s319_z 5 _ (by decide) rfl g5_z
          replace g6_z := s319_z 6 _ (by decide) rfl g6_z
          clear s319_z s320_z
          replace hm_z := rn_gotoL (am_cur_of (i := (167, 3, .goto (-63), (60, 0, 0), 0)) (by decide +kernel)) hm_z
          obtain ⟨l2_z, e0_z, e1_z, e2_z, e3_z, e4_z, e5_z, e6_z, e7_z⟩ := ih_z k _ (t + 1) _ _ g0_z g1_z g2_z g3_z g4_z g5_z g6_z g7_z (by omega) (by omega) n6_z hm_z
          have st := (mnP_0 (k := k) (q := u) (w := fun t => rg_v g 173 t) (show ¬ ((rg_v g 173 i.toNatClampNeg).toInt < (rg_v g 173 t.toNatClampNeg).toInt ∨ (rg_v g 173 t.toNatClampNeg = rg_v g 173 i.toNatClampNeg ∧ t.toInt < i.toInt)) from fun z => z.elim (fun q => absurd q (by omega)) (fun q => b316_z.1 q.1)))
          rw [Int32.add_zero] at e6_z
          exact ⟨l2_z, e0_z, e1_z, e2_z, e3_z, e4_z, e5_z, e6_z.trans (congrArg (fun q => some (Value.int q)) st.symm), rn_up (Nat.le_succ _) e7_z⟩
        · replace b316_z : (rg_v g 173 t.toNatClampNeg) = (rg_v g 173 i.toNatClampNeg) ∧ (rg_v g 173 t.toNatClampNeg).toInt = (rg_v g 173 i.toNatClampNeg).toInt := b316_z
          replace hm_z := rn_iload (am_cur_of (i := (149, 2, .iload 7, (0, 0, 0), 0)) (by decide +kernel)) g7_z hm_z
          replace hm_z := rn_iload (am_cur_of (i := (151, 2, .iload 5, (0, 0, 0), 0)) (by decide +kernel)) g5_z hm_z
          replace hm_z := rn_cmp (am_cur_of (i := (153, 3, .if_icmp .ge 7, (88, 0, 0), 0)) (by decide +kernel)) hm_z
          rcases hm_z with ⟨b321_z, hm_z⟩ | ⟨b321_z, hm_z⟩
          · replace b321_z : i.toInt ≤ t.toInt := b321_z
            replace hm_z := rn_iconst (w := 0) (am_cur_of (i := (160, 1, .iconst 0, (0, 0, 0), 0)) (by decide +kernel)) (by decide) hm_z
            replace hm_z := rn_iadd (w := u + 0) (am_cur_of (i := (161, 1, .iadd, (0, 0, 0), 0)) (by decide +kernel)) rfl hm_z
            replace hm_z := rn_istore (am_cur_of (i := (162, 2, .istore 6, (0, 0, 0), 0)) (by decide +kernel)) hm_z
            obtain ⟨_, s322_z, s323_z, g6_z, hm_z⟩ := hm_z
            replace g0_z := s322_z 0 _ (by decide) rfl g0_z
            replace g1_z := s322_z 1 _ (by decide) rfl g1_z
            replace g2_z := s322_z 2 _ (by decide) rfl g2_z
            replace g3_z := s322_z 3 _ (by decide) rfl g3_z
            replace g4_z := s322_z 4 _ (by decide) rfl g4_z
            replace g5_z := s322_z 5 _ (by decide) rfl g5_z
            replace g7_z := s322_z 7 _ (by decide) rfl g7_z
            clear s322_z s323_z
            replace hm_z := rn_iinc (w := t + 1) (am_cur_of (i := (164, 3, .iinc 7 1, (0, 0, 0), 0)) (by decide +kernel)) g7_z rfl hm_z
            obtain ⟨_, s324_z, s325_z, g7_z, hm_z⟩ := hm_z
            replace g0_z := s324_z 0 _ (by decide) rfl g0_z
            replace g1_z := s324_z 1 _ (by decide) rfl g1_z
            replace g2_z := s324_z 2 _ (by decide) rfl g2_z
            replace g3_z := s324_z 3 _ (by decide) rfl g3_z
            replace g4_z := s324_z 4 _ (by decide) rfl g4_z
            replace g5_z := s324_z 5 _ (by decide) rfl g5_z
            replace g6_z := s324_z 6 _ (by decide) rfl g6_z
            clear s324_z s325_z
            replace hm_z := rn_gotoL (am_cur_of (i := (167, 3, .goto (-63), (60, 0, 0), 0)) (by decide +kernel)) hm_z
            obtain ⟨l2_z, e0_z, e1_z, e2_z, e3_z, e4_z, e5_z, e6_z, e7_z⟩ := ih_z k _ (t + 1) _ _ g0_z g1_z g2_z g3_z g4_z g5_z g6_z g7_z (by omega) (by omega) n6_z hm_z
            have st := (mnP_0 (k := k) (q := u) (w := fun t => rg_v g 173 t) (show ¬ ((rg_v g 173 i.toNatClampNeg).toInt < (rg_v g 173 t.toNatClampNeg).toInt ∨ (rg_v g 173 t.toNatClampNeg = rg_v g 173 i.toNatClampNeg ∧ t.toInt < i.toInt)) from fun z => z.elim (fun q => absurd q (by omega)) (fun q => absurd q.2 (by omega))))
            rw [Int32.add_zero] at e6_z
            exact ⟨l2_z, e0_z, e1_z, e2_z, e3_z, e4_z, e5_z, e6_z.trans (congrArg (fun q => some (Value.int q)) st.symm), rn_up (Nat.le_succ _) e7_z⟩
          · replace b321_z : t.toInt < i.toInt := b321_z
            replace hm_z := rn_iconst (w := 1) (am_cur_of (i := (156, 1, .iconst 1, (0, 0, 0), 0)) (by decide +kernel)) (by decide) hm_z
            replace hm_z := rn_goto (am_cur_of (i := (157, 3, .goto 4, (89, 0, 0), 0)) (by decide +kernel)) hm_z
            replace hm_z := rn_iadd (w := u + 1) (am_cur_of (i := (161, 1, .iadd, (0, 0, 0), 0)) (by decide +kernel)) rfl hm_z
            replace hm_z := rn_istore (am_cur_of (i := (162, 2, .istore 6, (0, 0, 0), 0)) (by decide +kernel)) hm_z
            obtain ⟨_, s326_z, s327_z, g6_z, hm_z⟩ := hm_z
            replace g0_z := s326_z 0 _ (by decide) rfl g0_z
            replace g1_z := s326_z 1 _ (by decide) rfl g1_z
            replace g2_z := s326_z 2 _ (by decide) rfl g2_z
            replace g3_z := s326_z 3 _ (by decide) rfl g3_z
            replace g4_z := s326_z 4 _ (by decide) rfl g4_z
            replace g5_z := s326_z 5 _ (by decide) rfl g5_z
            replace g7_z := s326_z 7 _ (by decide) rfl g7_z
            clear s326_z s327_z
            replace hm_z := rn_iinc (w := t + 1) (am_cur_of (i := (164, 3, .iinc 7 1, (0, 0, 0), 0)) (by decide +kernel)) g7_z rfl hm_z
            obtain ⟨_, s328_z, s329_z, g7_z, hm_z⟩ := hm_z
            replace g0_z := s328_z 0 _ (by decide) rfl g0_z
            replace g1_z := s328_z 1 _ (by decide) rfl g1_z
            replace g2_z := s328_z 2 _ (by decide) rfl g2_z
            replace g3_z := s328_z 3 _ (by decide) rfl g3_z
            replace g4_z := s328_z 4 _ (by decide) rfl g4_z
            replace g5_z := s328_z 5 _ (by decide) rfl g5_z
            replace g6_z := s328_z 6 _ (by decide) rfl g6_z
            clear s328_z s329_z
            replace hm_z := rn_gotoL (am_cur_of (i := (167, 3, .goto (-63), (60, 0, 0), 0)) (by decide +kernel)) hm_z
            obtain ⟨l2_z, e0_z, e1_z, e2_z, e3_z, e4_z, e5_z, e6_z, e7_z⟩ := ih_z k _ (t + 1) _ _ g0_z g1_z g2_z g3_z g4_z g5_z g6_z g7_z (by omega) (by omega) n6_z hm_z
            have st := (mnP_1 (k := k) (q := u) (w := fun t => rg_v g 173 t) (show (rg_v g 173 i.toNatClampNeg).toInt < (rg_v g 173 t.toNatClampNeg).toInt ∨ (rg_v g 173 t.toNatClampNeg = rg_v g 173 i.toNatClampNeg ∧ t.toInt < i.toInt) from Or.inr ⟨b316_z.1, b321_z⟩))
            exact ⟨l2_z, e0_z, e1_z, e2_z, e3_z, e4_z, e5_z, e6_z.trans (congrArg (fun q => some (Value.int q)) st.symm), rn_up (Nat.le_succ _) e7_z⟩
theorem mn_mo {r : Option Value} {g' : am_H} {q m : Int32} : ∀ (f k : Nat) (x s i : Int32) (ls : am_L) (g : am_H), am_get ls 0 = some (.ref 164) → am_get ls 1 = some (.int q) → am_get ls 2 = some (.int m) → am_get ls 3 = some (.int x) → am_get ls 4 = some (.int s) → am_get ls 5 = some (.int i) → 0 ≤ i.toInt → i.toInt + k = (rg_v g 164 14).toInt → (rg_v g 164 14).toInt ≤ 6 → rn f am_m234 52 ls [] g r g' → ∃ l2_z, am_get l2_z 0 = some (.ref 164) ∧ am_get l2_z 1 = some (.int q) ∧ am_get l2_z 3 = some (.int (mnX (fun t => rg_v g 173 t) m (rg_v g 164 14).toNatClampNeg k x i)) ∧ am_get l2_z 4 = some (.int (mnS (fun t => rg_v g 173 t) k s i)) ∧ rn f am_m234 113 l2_z [] g r g' := by
  intro f
  induction f with
  | zero => intro k x s i ls g g0_z g1_z g2_z g3_z g4_z g5_z i0_z ik n6_z hm_z; exact absurd hm_z rn_0
  | succ f ih_z =>
    intro k x s i ls g g0_z g1_z g2_z g3_z g4_z g5_z i0_z ik n6_z hm_z
    replace hm_z := rn_iload (am_cur_of (i := (89, 2, .iload 5, (0, 0, 0), 0)) (by decide +kernel)) g5_z hm_z
    replace hm_z := rn_aload_n (am_cur_of (i := (91, 1, .aload_n 0, (0, 0, 0), 0)) (by decide +kernel)) g0_z hm_z
    replace hm_z := rn_getI (v := rg_v g 164 14) (am_cur_of (i := (92, 3, .getfield 225, (12, 14, 1398), 0)) (by decide +kernel)) (by decide +kernel) rfl hm_z
    replace hm_z := rn_cmp (am_cur_of (i := (95, 3, .if_icmp .ge 108, (113, 0, 0), 0)) (by decide +kernel)) hm_z
    rcases hm_z with ⟨b330_z, hm_z⟩ | ⟨b330_z, hm_z⟩
    · replace b330_z : (rg_v g 164 14).toInt ≤ i.toInt := b330_z
      obtain rfl : k = 0 := by omega
      exact ⟨_, g0_z, g1_z, g3_z, g4_z, hm_z⟩
    · replace b330_z : i.toInt < (rg_v g 164 14).toInt := b330_z
      obtain ⟨k, rfl⟩ : ∃ k2_z, k = k2_z + 1 := ⟨k - 1, by omega⟩
      have ci_z := rt_cl i0_z
      have c1_z := rt_c1 i0_z (by omega)
      have cn := rt_cl (x := rg_v g 164 14) (by omega)
      replace hm_z := rn_iconst (w := 1) (am_cur_of (i := (98, 1, .iconst 1, (0, 0, 0), 0)) (by decide +kernel)) (by decide) hm_z
      replace hm_z := rn_istore (am_cur_of (i := (99, 2, .istore 6, (0, 0, 0), 0)) (by decide +kernel)) hm_z
      obtain ⟨_, s331_z, s332_z, g6_z, hm_z⟩ := hm_z
      replace g0_z := s331_z 0 _ (by decide) rfl g0_z
      replace g1_z := s331_z 1 _ (by decide) rfl g1_z
      replace g2_z := s331_z 2 _ (by decide) rfl g2_z
      replace g3_z := s331_z 3 _ (by decide) rfl g3_z
      replace g4_z := s331_z 4 _ (by decide) rfl g4_z
      replace g5_z := s331_z 5 _ (by decide) rfl g5_z
      clear s331_z s332_z
      replace hm_z := rn_iconst (w := 0) (am_cur_of (i := (101, 1, .iconst 0, (0, 0, 0), 0)) (by decide +kernel)) (by decide) hm_z
      replace hm_z := rn_istore (am_cur_of (i := (102, 2, .istore 7, (0, 0, 0), 0)) (by decide +kernel)) hm_z
      obtain ⟨_, s333_z, s334_z, g7_z, hm_z⟩ := hm_z
      replace g0_z := s333_z 0 _ (by decide) rfl g0_z
      replace g1_z := s333_z 1 _ (by decide) rfl g1_z
      replace g2_z := s333_z 2 _ (by decide) rfl g2_z
      replace g3_z := s333_z 3 _ (by decide) rfl g3_z
      replace g4_z := s333_z 4 _ (by decide) rfl g4_z
      replace g5_z := s333_z 5 _ (by decide) rfl g5_z
      replace g6_z := s333_z 6 _ (by decide) rfl g6_z
      clear s333_z s334_z
      obtain ⟨l2_z, e0_z, e1_z, e2_z, e3_z, e4_z, e5_z, e6_z, hm_z⟩ := mn_mi _ (rg_v g 164 14).toNatClampNeg 1 0 _ _ g0_z g1_z g2_z g3_z g4_z g5_z g6_z g7_z (by decide) (by rw [show (0 : Int32).toInt = 0 by decide]; omega) n6_z hm_z
      clear g0_z g1_z g2_z g3_z g4_z g5_z g6_z g7_z
      have g0_z := e0_z
      have g1_z := e1_z
      have g2_z := e2_z
      have g3_z := e3_z
      have g4_z := e4_z
      have g5_z := e5_z
      have g6_z := e6_z
      replace hm_z := rn_iload_n (am_cur_of (i := (170, 1, .iload_n 3, (0, 0, 0), 0)) (by decide +kernel)) g3_z hm_z
      replace hm_z := rn_iload (am_cur_of (i := (171, 2, .iload 6, (0, 0, 0), 0)) (by decide +kernel)) g6_z hm_z
      replace hm_z := rn_iload_n (am_cur_of (i := (173, 1, .iload_n 2, (0, 0, 0), 0)) (by decide +kernel)) g2_z hm_z
      replace hm_z := rn_imul (w := (mnP (fun t => rg_v g 173 t) i (rg_v g 164 14).toNatClampNeg 1 0) * m) (am_cur_of (i := (174, 1, .imul, (0, 0, 0), 0)) (by decide +kernel)) rfl hm_z
      replace hm_z := rn_aload_n (am_cur_of (i := (175, 1, .aload_n 0, (0, 0, 0), 0)) (by decide +kernel)) g0_z hm_z
      replace hm_z := rn_getR (x := 173) (am_cur_of (i := (176, 3, .getfield 39, (12, 28, 1412), 0)) (by decide +kernel)) (by decide +kernel) hm_z
      replace hm_z := rn_iload (am_cur_of (i := (179, 2, .iload 5, (0, 0, 0), 0)) (by decide +kernel)) g5_z hm_z
      replace hm_z := rn_iaload (N := 12) (q := i.toNatClampNeg) (v := rg_v g 173 i.toNatClampNeg) (am_cur_of (i := (181, 1, .iaload, (0, 0, 0), 0)) (by decide +kernel)) (by decide +kernel) rfl rfl hm_z
      obtain ⟨p335_z, hm_z⟩ := hm_z
      replace hm_z := rn_imul (w := ((mnP (fun t => rg_v g 173 t) i (rg_v g 164 14).toNatClampNeg 1 0) * m) * (rg_v g 173 i.toNatClampNeg)) (am_cur_of (i := (182, 1, .imul, (0, 0, 0), 0)) (by decide +kernel)) rfl hm_z
      replace hm_z := rn_iadd (w := x + (((mnP (fun t => rg_v g 173 t) i (rg_v g 164 14).toNatClampNeg 1 0) * m) * (rg_v g 173 i.toNatClampNeg))) (am_cur_of (i := (183, 1, .iadd, (0, 0, 0), 0)) (by decide +kernel)) rfl hm_z
      replace hm_z := rn_istore_n (am_cur_of (i := (184, 1, .istore_n 3, (0, 0, 0), 0)) (by decide +kernel)) hm_z
      obtain ⟨_, s336_z, s337_z, g3_z, hm_z⟩ := hm_z
      replace g0_z := s336_z 0 _ (by decide) rfl g0_z
      replace g1_z := s336_z 1 _ (by decide) rfl g1_z
      replace g2_z := s336_z 2 _ (by decide) rfl g2_z
      replace g4_z := s336_z 4 _ (by decide) rfl g4_z
      replace g5_z := s336_z 5 _ (by decide) rfl g5_z
      replace g6_z := s336_z 6 _ (by decide) rfl g6_z
      clear s336_z s337_z
      replace hm_z := rn_iload (am_cur_of (i := (185, 2, .iload 4, (0, 0, 0), 0)) (by decide +kernel)) g4_z hm_z
      replace hm_z := rn_aload_n (am_cur_of (i := (187, 1, .aload_n 0, (0, 0, 0), 0)) (by decide +kernel)) g0_z hm_z
      replace hm_z := rn_getR (x := 173) (am_cur_of (i := (188, 3, .getfield 39, (12, 28, 1412), 0)) (by decide +kernel)) (by decide +kernel) hm_z
      replace hm_z := rn_iload (am_cur_of (i := (191, 2, .iload 5, (0, 0, 0), 0)) (by decide +kernel)) g5_z hm_z
      replace hm_z := rn_iaload (N := 12) (q := i.toNatClampNeg) (v := rg_v g 173 i.toNatClampNeg) (am_cur_of (i := (193, 1, .iaload, (0, 0, 0), 0)) (by decide +kernel)) (by decide +kernel) rfl rfl hm_z
      obtain ⟨p338_z, hm_z⟩ := hm_z
      replace hm_z := rn_iadd (w := s + (rg_v g 173 i.toNatClampNeg)) (am_cur_of (i := (194, 1, .iadd, (0, 0, 0), 0)) (by decide +kernel)) rfl hm_z
      replace hm_z := rn_istore (am_cur_of (i := (195, 2, .istore 4, (0, 0, 0), 0)) (by decide +kernel)) hm_z
      obtain ⟨_, s339_z, s340_z, g4_z, hm_z⟩ := hm_z
      replace g0_z := s339_z 0 _ (by decide) rfl g0_z
      replace g1_z := s339_z 1 _ (by decide) rfl g1_z
      replace g2_z := s339_z 2 _ (by decide) rfl g2_z
      replace g3_z := s339_z 3 _ (by decide) rfl g3_z
      replace g5_z := s339_z 5 _ (by decide) rfl g5_z
      replace g6_z := s339_z 6 _ (by decide) rfl g6_z
      clear s339_z s340_z
      replace hm_z := rn_iinc (w := i + 1) (am_cur_of (i := (197, 3, .iinc 5 1, (0, 0, 0), 0)) (by decide +kernel)) g5_z rfl hm_z
      obtain ⟨_, s341_z, s342_z, g5_z, hm_z⟩ := hm_z
      replace g0_z := s341_z 0 _ (by decide) rfl g0_z
      replace g1_z := s341_z 1 _ (by decide) rfl g1_z
      replace g2_z := s341_z 2 _ (by decide) rfl g2_z
      replace g3_z := s341_z 3 _ (by decide) rfl g3_z
      replace g4_z := s341_z 4 _ (by decide) rfl g4_z
      replace g6_z := s341_z 6 _ (by decide) rfl g6_z
      clear s341_z s342_z
      replace hm_z := rn_gotoL (am_cur_of (i := (200, 3, .goto (-111), (52, 0, 0), 0)) (by decide +kernel)) hm_z
      rw [Int32.mul_comm (mnP (fun t => rg_v g 173 t) i (rg_v g 164 14).toNatClampNeg 1 0) m] at g3_z
      obtain ⟨l3_z, f0_z, f1_z, f3_z, f4_z, f5_z⟩ := ih_z k _ _ (i + 1) _ _ g0_z g1_z g2_z g3_z g4_z g5_z (by omega) (by omega) n6_z hm_z
      exact ⟨l3_z, f0_z, f1_z, f3_z, f4_z, rn_up (Nat.le_succ _) f5_z⟩
theorem mn_234 {n : Nat} {r : Option Value} {g g' : am_H} {q : Int32} (R : ∀ t, t < 3 → 0 ≤ (rg_v g 177 t).toInt) (t0_z : 0 ≤ (rg_v g 164 15).toInt) (t3_z : (rg_v g 164 15).toInt ≤ 3) (n0_z : 0 ≤ (rg_v g 164 14).toInt) (n6_z : (rg_v g 164 14).toInt ≤ 6) (hm_z : rn n am_m234 0 (lv_args 0 [.ref 164, .int q]) [] g r g') : r = some (.int (mnV (fun t => rg_v g 173 t) (rg_v g 164 14).toNatClampNeg q (mnU (fun t => rg_v g 176 t) (fun t => rg_v g 177 t) (rg_v g 164 15).toNatClampNeg (-1) 0))) := by
  have zm1_z : ((-1) : Int32).toInt = (-1) := by decide
  have z0_z : (0 : Int32).toInt = 0 := by decide
  have z1_z : (1 : Int32).toInt = 1 := by decide
  have g0_z : am_get (lv_args 0 [.ref 164, .int q]) 0 = some (.ref 164) := rfl
  have g1_z : am_get (lv_args 0 [.ref 164, .int q]) 1 = some (.int q) := rfl
  replace hm_z := rn_aload_n (am_cur_of (i := (0, 1, .aload_n 0, (0, 0, 0), 0)) (by decide +kernel)) g0_z hm_z
  replace hm_z := rn_iconst (w := 0) (am_cur_of (i := (1, 1, .iconst 0, (0, 0, 0), 0)) (by decide +kernel)) (by decide) hm_z
  replace hm_z := rn_put (am_cur_of (i := (2, 3, .putfield 139, (12, 2, 1386), 0)) (by decide +kernel)) (by decide +kernel) hm_z
  replace hm_z := rn_iconst (w := (-1)) (am_cur_of (i := (5, 1, .iconst (-1), (0, 0, 0), 0)) (by decide +kernel)) (by decide) hm_z
  replace hm_z := rn_istore_n (am_cur_of (i := (6, 1, .istore_n 2, (0, 0, 0), 0)) (by decide +kernel)) hm_z
  obtain ⟨_, s343_z, s344_z, g2_z, hm_z⟩ := hm_z
  replace g0_z := s343_z 0 _ (by decide) rfl g0_z
  replace g1_z := s343_z 1 _ (by decide) rfl g1_z
  clear s343_z s344_z
  replace hm_z := rn_iconst (w := 0) (am_cur_of (i := (7, 1, .iconst 0, (0, 0, 0), 0)) (by decide +kernel)) (by decide) hm_z
  replace hm_z := rn_istore_n (am_cur_of (i := (8, 1, .istore_n 3, (0, 0, 0), 0)) (by decide +kernel)) hm_z
  obtain ⟨_, s345_z, s346_z, g3_z, hm_z⟩ := hm_z
  replace g0_z := s345_z 0 _ (by decide) rfl g0_z
  replace g1_z := s345_z 1 _ (by decide) rfl g1_z
  replace g2_z := s345_z 2 _ (by decide) rfl g2_z
  clear s345_z s346_z
  have ct := rt_cl t0_z
  have cn := rt_cl n0_z
  obtain ⟨l2_z, e0_z, e1_z, e2_z, e3_z, hm_z⟩ := mn_mu (g := (am_up g 164 2 (.int 0))) _ (rg_v g 164 15).toNatClampNeg (-1) 0 _ R g0_z g1_z g2_z g3_z (by decide) (by decide) (by rw [show (0 : Int32).toInt = 0 by decide]; show 0 + _ = (rg_v g 164 15).toInt; omega) t3_z hm_z
  obtain ⟨m, em⟩ : ∃ m2_z : Int32, mnU (fun t => rg_v g 176 t) (fun t => rg_v g 177 t) (rg_v g 164 15).toNatClampNeg (-1) 0 = m2_z := ⟨_, rfl⟩
  replace e2_z : am_get l2_z 2 = some (.int (mnU (fun t => rg_v g 176 t) (fun t => rg_v g 177 t) (rg_v g 164 15).toNatClampNeg (-1) 0)) := e2_z
  replace e3_z : -1 ≤ (mnU (fun t => rg_v g 176 t) (fun t => rg_v g 177 t) (rg_v g 164 15).toNatClampNeg (-1) 0).toInt := e3_z
  rw [em] at e2_z e3_z ⊢
  clear g0_z g1_z g2_z g3_z
  have g0_z := e0_z
  have g1_z := e1_z
  have g2_z := e2_z
  replace hm_z := rn_iload_n (am_cur_of (i := (59, 1, .iload_n 1, (0, 0, 0), 0)) (by decide +kernel)) g1_z hm_z
  replace hm_z := rn_iconst (w := 0) (am_cur_of (i := (60, 1, .iconst 0, (0, 0, 0), 0)) (by decide +kernel)) (by decide) hm_z
  replace hm_z := rn_iconst (w := 1) (am_cur_of (i := (61, 1, .iconst 1, (0, 0, 0), 0)) (by decide +kernel)) (by decide) hm_z
  replace hm_z := rn_callS (M' := am_m162) (ar := [.int 1, .int 0, .int q]) (rest := []) (L := lv_args 0 [.int q, .int 0, .int 1]) (am_cur_of (i := (62, 3, .invokestatic 184, (162, 1681, 3), 0)) (by decide +kernel)) rfl rfl rfl rfl hm_z
  obtain ⟨r347_z, h348_z, q349_z, hm_z⟩ := hm_z
  rcases mn_162 q349_z with ⟨b350_z, rfl, y351_z⟩ | ⟨b352_z, b353_z, rfl, y354_z⟩ | ⟨b355_z, b356_z, rfl, y357_z⟩
  · replace y351_z := y351_z.symm
    subst y351_z
    replace b350_z : q.toInt < (0 : Int32).toInt := b350_z
    replace hm_z : rn _ _ _ _ [.int 0] _ _ _ := hm_z
    replace hm_z := rn_ifT (am_cur_of (i := (65, 3, .ifCond .eq 14, (44, 0, 0), 0)) (by decide +kernel)) (by decide) hm_z
    replace hm_z := rn_iconst (w := (-1)) (am_cur_of (i := (79, 1, .iconst (-1), (0, 0, 0), 0)) (by decide +kernel)) (by decide) hm_z
    replace hm_z := rn_iret (am_cur_of (i := (80, 1, .ireturn, (0, 0, 0), 0)) (by decide +kernel)) hm_z
    obtain ⟨e358_z, e359_z⟩ := hm_z
    exact e358_z.trans (congrArg (fun q => some (Value.int q)) (mnV_0 (by omega)).symm)
  · replace y354_z := y354_z.symm
    subst y354_z
    replace b352_z : (0 : Int32).toInt ≤ q.toInt := b352_z
    replace b353_z : (1 : Int32).toInt < q.toInt := b353_z
    replace hm_z : rn _ _ _ _ [.int 0] _ _ _ := hm_z
    replace hm_z := rn_ifT (am_cur_of (i := (65, 3, .ifCond .eq 14, (44, 0, 0), 0)) (by decide +kernel)) (by decide) hm_z
    replace hm_z := rn_iconst (w := (-1)) (am_cur_of (i := (79, 1, .iconst (-1), (0, 0, 0), 0)) (by decide +kernel)) (by decide) hm_z
    replace hm_z := rn_iret (am_cur_of (i := (80, 1, .ireturn, (0, 0, 0), 0)) (by decide +kernel)) hm_z
    obtain ⟨e360_z, e361_z⟩ := hm_z
    exact e360_z.trans (congrArg (fun q => some (Value.int q)) (mnV_0 (by omega)).symm)
  · replace y357_z := y357_z.symm
    subst y357_z
    replace b355_z : (0 : Int32).toInt ≤ q.toInt := b355_z
    replace b356_z : q.toInt ≤ (1 : Int32).toInt := b356_z
    replace hm_z : rn _ _ _ _ [.int 1] _ _ _ := hm_z
    replace hm_z := rn_ifF (am_cur_of (i := (65, 3, .ifCond .eq 14, (44, 0, 0), 0)) (by decide +kernel)) (by decide) hm_z
    replace hm_z := rn_aload_n (am_cur_of (i := (68, 1, .aload_n 0, (0, 0, 0), 0)) (by decide +kernel)) g0_z hm_z
    replace hm_z := rn_getI (v := rg_v g 164 14) (am_cur_of (i := (69, 3, .getfield 225, (12, 14, 1398), 0)) (by decide +kernel)) (by decide +kernel) (show rg_v (am_up g 164 2 (.int 0)) 164 14 = rg_v g 164 14 from rfl) hm_z
    replace hm_z := rn_if (am_cur_of (i := (72, 3, .ifCond .eq 7, (44, 0, 0), 0)) (by decide +kernel)) hm_z
    rcases hm_z with ⟨b362_z, hm_z⟩ | ⟨b362_z, hm_z⟩
    · replace b362_z : (rg_v g 164 14) = (0 : Int32) ∧ (rg_v g 164 14).toInt = (0 : Int32).toInt := b362_z
      replace hm_z := rn_iconst (w := (-1)) (am_cur_of (i := (79, 1, .iconst (-1), (0, 0, 0), 0)) (by decide +kernel)) (by decide) hm_z
      replace hm_z := rn_iret (am_cur_of (i := (80, 1, .ireturn, (0, 0, 0), 0)) (by decide +kernel)) hm_z
      obtain ⟨e363_z, e364_z⟩ := hm_z
      exact e363_z.trans (congrArg (fun q => some (Value.int q)) (mnV_0 (by omega)).symm)
    · replace b362_z : ¬ (rg_v g 164 14) = (0 : Int32) ∧ ¬ (rg_v g 164 14).toInt = (0 : Int32).toInt := b362_z
      have nz : ¬ (rg_v g 164 14).toInt = 0 := fun z => b362_z.2 (z.trans (by decide))
      replace hm_z := rn_iload_n (am_cur_of (i := (75, 1, .iload_n 2, (0, 0, 0), 0)) (by decide +kernel)) g2_z hm_z
      replace hm_z := rn_if (am_cur_of (i := (76, 3, .ifCond .ge 5, (46, 0, 0), 0)) (by decide +kernel)) hm_z
      rcases hm_z with ⟨b365_z, hm_z⟩ | ⟨b365_z, hm_z⟩
      · replace b365_z : (0 : Int32).toInt ≤ m.toInt := b365_z
        replace hm_z := rn_iconst (w := 0) (am_cur_of (i := (81, 1, .iconst 0, (0, 0, 0), 0)) (by decide +kernel)) (by decide) hm_z
        replace hm_z := rn_istore_n (am_cur_of (i := (82, 1, .istore_n 3, (0, 0, 0), 0)) (by decide +kernel)) hm_z
        obtain ⟨_, s366_z, s367_z, g3_z, hm_z⟩ := hm_z
        replace g0_z := s366_z 0 _ (by decide) rfl g0_z
        replace g1_z := s366_z 1 _ (by decide) rfl g1_z
        replace g2_z := s366_z 2 _ (by decide) rfl g2_z
        clear s366_z s367_z
        replace hm_z := rn_iconst (w := 0) (am_cur_of (i := (83, 1, .iconst 0, (0, 0, 0), 0)) (by decide +kernel)) (by decide) hm_z
        replace hm_z := rn_istore (am_cur_of (i := (84, 2, .istore 4, (0, 0, 0), 0)) (by decide +kernel)) hm_z
        obtain ⟨_, s368_z, s369_z, g4_z, hm_z⟩ := hm_z
        replace g0_z := s368_z 0 _ (by decide) rfl g0_z
        replace g1_z := s368_z 1 _ (by decide) rfl g1_z
        replace g2_z := s368_z 2 _ (by decide) rfl g2_z
        replace g3_z := s368_z 3 _ (by decide) rfl g3_z
        clear s368_z s369_z
        replace hm_z := rn_iconst (w := 0) (am_cur_of (i := (86, 1, .iconst 0, (0, 0, 0), 0)) (by decide +kernel)) (by decide) hm_z
        replace hm_z := rn_istore (am_cur_of (i := (87, 2, .istore 5, (0, 0, 0), 0)) (by decide +kernel)) hm_z
        obtain ⟨_, s370_z, s371_z, g5_z, hm_z⟩ := hm_z
        replace g0_z := s370_z 0 _ (by decide) rfl g0_z
        replace g1_z := s370_z 1 _ (by decide) rfl g1_z
        replace g2_z := s370_z 2 _ (by decide) rfl g2_z
        replace g3_z := s370_z 3 _ (by decide) rfl g3_z
        replace g4_z := s370_z 4 _ (by decide) rfl g4_z
        clear s370_z s371_z
        rw [mnV_1 ⟨by omega, by omega, by omega, by omega⟩]
        obtain ⟨l3_z, f0_z, f1_z, f3_z, f4_z, hm_z⟩ := mn_mo (g := (am_up g 164 2 (.int 0))) _ (rg_v g 164 14).toNatClampNeg 0 0 0 _ g0_z g1_z g2_z g3_z g4_z g5_z (by decide) (by rw [show (0 : Int32).toInt = 0 by decide]; show 0 + _ = (rg_v g 164 14).toInt; omega) n6_z hm_z
        replace f3_z : am_get l3_z 3 = some (.int (mnX (fun t => rg_v g 173 t) m (rg_v g 164 14).toNatClampNeg (rg_v g 164 14).toNatClampNeg 0 0)) := f3_z
        replace f4_z : am_get l3_z 4 = some (.int (mnS (fun t => rg_v g 173 t) (rg_v g 164 14).toNatClampNeg 0 0)) := f4_z
        obtain ⟨x, ex⟩ : ∃ x2_z : Int32, mnX (fun t => rg_v g 173 t) m (rg_v g 164 14).toNatClampNeg (rg_v g 164 14).toNatClampNeg 0 0 = x2_z := ⟨_, rfl⟩
        obtain ⟨s, es_z⟩ : ∃ s2_z : Int32, mnS (fun t => rg_v g 173 t) (rg_v g 164 14).toNatClampNeg 0 0 = s2_z := ⟨_, rfl⟩
        rw [ex] at f3_z ⊢
        rw [es_z] at f4_z ⊢
        clear g0_z g1_z g2_z g3_z g4_z g5_z
        have g0_z := f0_z
        have g1_z := f1_z
        have g3_z := f3_z
        have g4_z := f4_z
        replace hm_z := rn_iload_n (am_cur_of (i := (203, 1, .iload_n 3, (0, 0, 0), 0)) (by decide +kernel)) g3_z hm_z
        replace hm_z := rn_iload (am_cur_of (i := (204, 2, .iload 4, (0, 0, 0), 0)) (by decide +kernel)) g4_z hm_z
        replace hm_z := rn_callS (M' := am_m235) (ar := [.int s, .int x]) (rest := []) (L := lv_args 0 [.int x, .int s]) (am_cur_of (i := (206, 3, .invokestatic 511, (235, 1972, 3), 0)) (by decide +kernel)) rfl rfl rfl rfl hm_z
        obtain ⟨r372_z, h373_z, q374_z, hm_z⟩ := hm_z
        obtain ⟨e375_z, y376_z⟩ := mn_235 q374_z
        replace y376_z := y376_z.symm
        subst y376_z
        subst e375_z
        replace hm_z : rn _ _ _ _ [.int (mnG 64 x s)] _ _ _ := hm_z
        replace hm_z := rn_istore (am_cur_of (i := (209, 2, .istore 5, (0, 0, 0), 0)) (by decide +kernel)) hm_z
        obtain ⟨_, s377_z, s378_z, g5_z, hm_z⟩ := hm_z
        replace g0_z := s377_z 0 _ (by decide) rfl g0_z
        replace g1_z := s377_z 1 _ (by decide) rfl g1_z
        replace g3_z := s377_z 3 _ (by decide) rfl g3_z
        replace g4_z := s377_z 4 _ (by decide) rfl g4_z
        clear s377_z s378_z
        replace hm_z := rn_iload_n (am_cur_of (i := (211, 1, .iload_n 1, (0, 0, 0), 0)) (by decide +kernel)) g1_z hm_z
        replace hm_z := rn_if (am_cur_of (i := (212, 3, .ifCond .ne 7, (121, 0, 0), 0)) (by decide +kernel)) hm_z
        rcases hm_z with ⟨b379_z, hm_z⟩ | ⟨b379_z, hm_z⟩
        · replace b379_z : ¬ q = (0 : Int32) ∧ ¬ q.toInt = (0 : Int32).toInt := b379_z
          replace hm_z := rn_iload (am_cur_of (i := (219, 2, .iload 4, (0, 0, 0), 0)) (by decide +kernel)) g4_z hm_z
          replace hm_z := rn_iload (am_cur_of (i := (221, 2, .iload 5, (0, 0, 0), 0)) (by decide +kernel)) g5_z hm_z
          replace hm_z := rn_idiv (w := s / (mnG 64 x s)) (am_cur_of (i := (223, 1, .idiv, (0, 0, 0), 0)) (by decide +kernel)) rfl hm_z
          obtain ⟨d380_z, hm_z⟩ := hm_z
          replace hm_z := rn_iret (am_cur_of (i := (224, 1, .ireturn, (0, 0, 0), 0)) (by decide +kernel)) hm_z
          obtain ⟨e381_z, e382_z⟩ := hm_z
          exact e381_z.trans (congrArg (fun q => some (Value.int q)) (mnQ_2 d380_z b379_z.1).symm)
        · replace b379_z : q = (0 : Int32) ∧ q.toInt = (0 : Int32).toInt := b379_z
          replace hm_z := rn_iload_n (am_cur_of (i := (215, 1, .iload_n 3, (0, 0, 0), 0)) (by decide +kernel)) g3_z hm_z
          replace hm_z := rn_goto (am_cur_of (i := (216, 3, .goto 5, (122, 0, 0), 0)) (by decide +kernel)) hm_z
          replace hm_z := rn_iload (am_cur_of (i := (221, 2, .iload 5, (0, 0, 0), 0)) (by decide +kernel)) g5_z hm_z
          replace hm_z := rn_idiv (w := x / (mnG 64 x s)) (am_cur_of (i := (223, 1, .idiv, (0, 0, 0), 0)) (by decide +kernel)) rfl hm_z
          obtain ⟨d383_z, hm_z⟩ := hm_z
          replace hm_z := rn_iret (am_cur_of (i := (224, 1, .ireturn, (0, 0, 0), 0)) (by decide +kernel)) hm_z
          obtain ⟨e384_z, e385_z⟩ := hm_z
          exact e384_z.trans (congrArg (fun q => some (Value.int q)) (mnQ_1 d383_z b379_z.1).symm)
      · replace b365_z : m.toInt < (0 : Int32).toInt := b365_z
        replace hm_z := rn_iconst (w := (-1)) (am_cur_of (i := (79, 1, .iconst (-1), (0, 0, 0), 0)) (by decide +kernel)) (by decide) hm_z
        replace hm_z := rn_iret (am_cur_of (i := (80, 1, .ireturn, (0, 0, 0), 0)) (by decide +kernel)) hm_z
        obtain ⟨e386_z, e387_z⟩ := hm_z
        exact e386_z.trans (congrArg (fun q => some (Value.int q)) (mnV_0 (by omega)).symm)
theorem mn_rg {t : Int32} {h : am_H} (hG : ag_G t h) : ∀ q, q < 3 → 0 ≤ (rg_v h 177 q).toInt := by
  intro q hq_z
  have z := hG.1 177 q (.inr (.int, 6)) (by decide +kernel) (show q < 6 by omega)
  rw [show ab_hi ab_tab 177 q = ab_i 0 99 from rfl] at z
  obtain ⟨x, e, x0_z, x1_z⟩ := z
  unfold rg_v
  rw [e]
  exact x0_z
theorem mn_cg {h g : am_H} {W W2 A A2 B B2 : Nat → Int32} {n n2_z t t2_z q : Int32} (n0_z : 0 ≤ n.toInt) (n6_z : n.toInt ≤ 6) (t0_z : 0 ≤ t.toInt) (t3_z : t.toInt ≤ 3) (en : n = n2_z) (et : t = t2_z) (w : ∀ k : Nat, (k : Int) < n.toInt → W k = W2 k) (ab : ∀ k : Nat, (k : Int) < t.toInt → A k = A2 k ∧ B k = B2 k) : mnV W n.toNatClampNeg q (mnU A B t.toNatClampNeg (-1) 0) = mnV W2 n2_z.toNatClampNeg q (mnU A2 B2 t2_z.toNatClampNeg (-1) 0) := by
  subst en
  subst et
  have cn := rt_cl n0_z
  have ct := rt_cl t0_z
  have z0_z : (0 : Int32).toInt = 0 := by decide
  rw [mnU_c t.toNatClampNeg (-1) 0 (by decide) (by rw [z0_z]; omega) (fun k hk_z => ab k (by rw [z0_z] at hk_z; omega))]
  exact mnV_c (by omega) (fun k hk_z => w k (by omega))
theorem mn_eq2 {n n' : Nat} {h h' g g' : am_H} {r r' : Option Value} {q : Int32} (D : h 0 2 = .ref 2) (K : rK 2 h g) (R : ∀ t, t < 3 → 0 ≤ (rg_v g 177 t).toInt) (hc_z : rn n am_m118 0 (lv_args 0 [.ref 0, .int q]) [] h r h') (hm_z : rn n' am_m234 0 (lv_args 0 [.ref 164, .int q]) [] g r' g') : r = r' := by
  obtain ⟨-, -, -, ⟨k9_z, k90_z, k96_z⟩, ⟨k12_z, k120_z, k123_z⟩, -, -, E, G⟩ := K
  have a := mn_118_2 D k120_z k123_z k90_z k96_z hc_z
  have b := mn_234 R (by rw [← k12_z]; exact k120_z) (by rw [← k12_z]; exact k123_z) (by rw [← k9_z]; exact k90_z) (by rw [← k9_z]; exact k96_z) hm_z
  rw [a, b]
  exact congrArg (fun q => some (Value.int q)) (mn_cg (h := h) (g := g) k90_z k96_z k120_z k123_z k9_z k12_z (fun k hk_z => (E k hk_z).1) (fun k hk_z => (G k hk_z).2))
theorem mn_eq23 {n n' : Nat} {h h' g g' : am_H} {r r' : Option Value} {q : Int32} (D : h 0 2 = .ref 23) (K : rK 23 h g) (R : ∀ t, t < 3 → 0 ≤ (rg_v g 177 t).toInt) (hc_z : rn n am_m118 0 (lv_args 0 [.ref 0, .int q]) [] h r h') (hm_z : rn n' am_m234 0 (lv_args 0 [.ref 164, .int q]) [] g r' g') : r = r' := by
  obtain ⟨-, -, -, ⟨k9_z, k90_z, k96_z⟩, ⟨k12_z, k120_z, k123_z⟩, -, -, E, G⟩ := K
  have a := mn_118_23 D k120_z k123_z k90_z k96_z hc_z
  have b := mn_234 R (by rw [← k12_z]; exact k120_z) (by rw [← k12_z]; exact k123_z) (by rw [← k9_z]; exact k90_z) (by rw [← k9_z]; exact k96_z) hm_z
  rw [a, b]
  exact congrArg (fun q => some (Value.int q)) (mn_cg (h := h) (g := g) k90_z k96_z k120_z k123_z k9_z k12_z (fun k hk_z => (E k hk_z).1) (fun k hk_z => (G k hk_z).2))
theorem R5_y_mean : ay_mean R5 := by
  intro t a h h1_z h2_z r1_z r2_z n1_z n2_z hR hG hG1 hG2 F1 F2 rn1_z rn2_z
  have m1_z : zM h h1_z := zM_fr (by decide +kernel) F1
  rcases hR.1.1.1 with ⟨-, e⟩ | ⟨-, e⟩
  · exact mn_eq23 e (rK_m m1_z (hR.2 23 e)) (mn_rg hG1) rn1_z rn2_z
  · exact mn_eq2 e (rK_m m1_z (hR.2 2 e)) (mn_rg hG1) rn1_z rn2_z
