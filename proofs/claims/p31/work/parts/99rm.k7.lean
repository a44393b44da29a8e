/-! ===== THE LEAK THAT IS THERE: drawn alike by both (wip/r/gen99rm.py) ===== -/
/-- the sum of the first k weights -/
def lkS (w : Nat → Int32) : Nat → Int32
  | 0 => 0
  | k + 1 => lkS w k + w k
/-- the sum of k weights from i on -/
def lkT (w : Nat → Int32) : Nat → Nat → Int
  | 0, _ => 0
  | k + 1, i => (w i).toInt + lkT w k (i + 1)
/-- the place that the number x falls on -/
def lkF (w : Nat → Int32) : Nat → Int32 → Int32 → Int32
  | 0, _, _ => -1
  | k + 1, i, x => if (x - w i.toNatClampNeg).toInt < 0 then i else lkF w k (i + 1) (x - w i.toNatClampNeg)
def lkD (s : Int32) : Int64 := ((s.toInt64 * 1103515245) + 12345) &&& 2147483647
def lkN (seed s : Int32) : Int32 := (lkD seed / 65536).toInt32 - (lkD seed / 65536).toInt32 / s * s
def lkR (w : Nat → Int32) (n : Nat) (seed : Int32) : Int32 := if lkS w n = 0 then -1 else lkF w n 0 (lkN seed (lkS w n))
theorem lkF_1 {w : Nat → Int32} {k : Nat} {i x : Int32} (h : (x - w i.toNatClampNeg).toInt < 0) : lkF w (k + 1) i x = i := by
  rw [lkF.eq_2]
  rw [if_pos h]
theorem lkF_2 {w : Nat → Int32} {k : Nat} {i x : Int32} (h : ¬ (x - w i.toNatClampNeg).toInt < 0) : lkF w (k + 1) i x = lkF w k (i + 1) (x - w i.toNatClampNeg) := by
  rw [lkF.eq_2, if_neg h]
theorem lkR_0 {w : Nat → Int32} {n : Nat} {seed : Int32} (h : lkS w n = 0) : lkR w n seed = -1 := by
  unfold lkR
  rw [if_pos h]
theorem lkR_1 {w : Nat → Int32} {n : Nat} {seed : Int32} (h : ¬ lkS w n = 0) : lkR w n seed = lkF w n 0 (lkN seed (lkS w n)) := by
  unfold lkR
  rw [if_neg h]
theorem lkS_c {w v : Nat → Int32} : ∀ (n : Nat), (∀ t, t < n → w t = v t) → lkS w n = lkS v n
  | 0, _ => rfl
  | n + 1, e => by
    show lkS w n + w n = lkS v n + v n
    rw [lkS_c n (fun t ht => e t (by omega)), e n (by omega)]
theorem lkF_c {w v : Nat → Int32} : ∀ (k : Nat) (i x : Int32), 0 ≤ i.toInt → i.toInt + k ≤ 6 → (∀ t : Nat, (t : Int) < i.toInt + k → w t = v t) → lkF w k i x = lkF v k i x
  | 0, _, _, _, _, _ => rfl
  | k + 1, i, x, i0_z, ik, e => by
    have ci_z := rt_cl i0_z
    have c1_z := rt_c1 i0_z (by omega)
    rw [lkF.eq_2, lkF.eq_2, e i.toNatClampNeg (by omega), lkF_c k (i + 1) (x - v i.toNatClampNeg) (by omega) (by omega) (fun t ht => e t (by omega))]
theorem lkR_c {w v : Nat → Int32} {n : Nat} {seed : Int32} (n6_z : n ≤ 6) (e : ∀ t, t < n → w t = v t) : lkR w n seed = lkR v n seed := by
  have z0_z : (0 : Int32).toInt = 0 := by decide
  unfold lkR
  rw [lkS_c n e, lkF_c n 0 _ (by decide) (by rw [z0_z]; omega) (fun t ht => e t (by rw [z0_z] at ht; omega))]
theorem lkS_r {w : Nat → Int32} (R : ∀ t, t < 6 → 0 ≤ (w t).toInt ∧ (w t).toInt ≤ 99) : ∀ (k : Nat), k ≤ 6 → 0 ≤ (lkS w k).toInt ∧ (lkS w k).toInt ≤ 99 * k
  | 0, _ => by
    show 0 ≤ (0 : Int32).toInt ∧ (0 : Int32).toInt ≤ 99 * (0 : Nat)
    decide
  | k + 1, h => by
    have q := lkS_r R k (by omega)
    have r := R k (by omega)
    have e := ab_iadd (x := lkS w k) (y := w k) (by omega) (by omega)
    show 0 ≤ (lkS w k + w k).toInt ∧ (lkS w k + w k).toInt ≤ 99 * (k + 1 : Nat)
    rw [e]
    omega
theorem lkS_1 {w : Nat → Int32} (R : ∀ t, t < 6 → 0 ≤ (w t).toInt ∧ (w t).toInt ≤ 99) {k : Nat} (hk_z : k < 6) : (lkS w (k + 1)).toInt = (lkS w k).toInt + (w k).toInt := by
  have q := lkS_r R k (by omega)
  have r := R k (by omega)
  exact ab_iadd (x := lkS w k) (y := w k) (by omega) (by omega)
theorem lkT_S {w : Nat → Int32} (R : ∀ t, t < 6 → 0 ≤ (w t).toInt ∧ (w t).toInt ≤ 99) : ∀ (k i : Nat), i + k ≤ 6 → (lkS w i).toInt + lkT w k i = (lkS w (i + k)).toInt
  | 0, i, _ => by
    show (lkS w i).toInt + 0 = (lkS w i).toInt
    omega
  | k + 1, i, h => by
    have q := lkT_S R k (i + 1) (by omega)
    have r := lkS_1 R (k := i) (by omega)
    show (lkS w i).toInt + ((w i).toInt + lkT w k (i + 1)) = (lkS w (i + (k + 1))).toInt
    rw [show i + (k + 1) = i + 1 + k by omega]
    omega
theorem lk_rem {x y : Int32} (hx_z : 0 ≤ x.toInt) (hy : 1 ≤ y.toInt) : (x - x / y * y).toInt = x.toInt % y.toInt := by
  have e1_z : (x - x / y * y).toInt = (x.toInt - x.toInt.tdiv y.toInt * y.toInt).bmod (2 ^ 32) := by
    rw [Int32.toInt_sub, Int32.toInt_mul, Int32.toInt_div, Int.sub_bmod_bmod]
    rw [← Int.sub_bmod_bmod, Int.bmod_mul_bmod, Int.sub_bmod_bmod]
  have e2_z : x.toInt - x.toInt.tdiv y.toInt * y.toInt = x.toInt.tmod y.toInt := by
    rw [Int.tmod_def, Int.mul_comm]
  have e3_z : x.toInt.tmod y.toInt = x.toInt % y.toInt := Int.tmod_eq_emod_of_nonneg hx_z
  have h1_z := Int.emod_nonneg x.toInt (show y.toInt ≠ 0 by omega)
  have h2_z := Int.emod_lt_of_pos x.toInt (show 0 < y.toInt by omega)
  have hb_z := ab_32 y
  rw [e1_z, e2_z, e3_z, ab_bm (by omega) (by omega)]
theorem lk_rem64 {x y : Int64} (hx_z : 0 ≤ x.toInt) (hy : 1 ≤ y.toInt) : (x - x / y * y).toInt = x.toInt % y.toInt := by
  have e1_z : (x - x / y * y).toInt = (x.toInt - x.toInt.tdiv y.toInt * y.toInt).bmod (2 ^ 64) := by
    rw [Int64.toInt_sub, Int64.toInt_mul, Int64.toInt_div, Int.sub_bmod_bmod]
    rw [← Int.sub_bmod_bmod, Int.bmod_mul_bmod, Int.sub_bmod_bmod]
  have e2_z : x.toInt - x.toInt.tdiv y.toInt * y.toInt = x.toInt.tmod y.toInt := by
    rw [Int.tmod_def, Int.mul_comm]
  have e3_z : x.toInt.tmod y.toInt = x.toInt % y.toInt := Int.tmod_eq_emod_of_nonneg hx_z
  have h1_z := Int.emod_nonneg x.toInt (show y.toInt ≠ 0 by omega)
  have h2_z := Int.emod_lt_of_pos x.toInt (show 0 < y.toInt by omega)
  have hb_z := ab_64 y
  rw [e1_z, e2_z, e3_z, ab_bm64 (by omega) (by omega)]
theorem lk_to32 {x : Int64} (h0_z : 0 ≤ x.toInt) (h1_z : x.toInt ≤ 2147483647) : x.toInt32.toInt = x.toInt := by
  rw [Int64.toInt_toInt32]
  exact ab_bm (by omega) (by omega)
theorem lk_Q (s : Int32) : 0 ≤ (lkD s / 65536).toInt ∧ (lkD s / 65536).toInt ≤ 2147483647 := by
  have q := ab_land (x := (s.toInt64 * 1103515245) + 12345)
  have q0_z : 0 ≤ (lkD s).toInt := q.1
  have q1_z : (lkD s).toInt ≤ 2147483647 := q.2
  have k : (65536 : Int64).toInt = 65536 := by decide
  have h1_z := Int.ediv_nonneg q0_z (show 0 ≤ (65536 : Int64).toInt by rw [k]; decide)
  have h2_z := Int.ediv_le_self (65536 : Int64).toInt q0_z
  have e : (lkD s / 65536).toInt = (lkD s).toInt / (65536 : Int64).toInt := by
    rw [Int64.toInt_div, Int.tdiv_eq_ediv_of_nonneg q0_z]
    exact ab_bm64 (by omega) (by omega)
  rw [e]
  omega
/-- the model's number and the class's -/
theorem lk_num {seed s : Int32} (s1_z : 1 ≤ s.toInt) : (lkD seed / 65536 - lkD seed / 65536 / s.toInt64 * s.toInt64).toInt32 = lkN seed s ∧ 0 ≤ (lkN seed s).toInt ∧ (lkN seed s).toInt < s.toInt := by
  obtain ⟨q0_z, q1_z⟩ := lk_Q seed
  have e32_z := lk_to32 q0_z q1_z
  have e64_z : s.toInt64.toInt = s.toInt := Int32.toInt_toInt64 s
  have a := lk_rem64 (x := lkD seed / 65536) (y := s.toInt64) q0_z (by omega)
  have b := lk_rem (x := (lkD seed / 65536).toInt32) (y := s) (by omega) s1_z
  have h1_z := Int.emod_nonneg (lkD seed / 65536).toInt (show s.toInt ≠ 0 by omega)
  have h2_z := Int.emod_lt_of_pos (lkD seed / 65536).toInt (show 0 < s.toInt by omega)
  have hs_z := ab_32 s
  rw [e64_z] at a
  rw [e32_z] at b
  have c := lk_to32 (x := lkD seed / 65536 - lkD seed / 65536 / s.toInt64 * s.toInt64) (by omega) (by omega)
  refine ⟨Int32.toInt_inj.mp ?_, ?_, ?_⟩
  · rw [c, a]
    exact b.symm
  · unfold lkN
    omega
  · unfold lkN
    omega
theorem lk_64 {s : Int32} (h : ¬ s.toInt64 = 0) : ¬ s = 0 := fun q => h (by rw [q]; decide)
theorem lk_cx2 {n : Nat} {ls : am_L} {h h' : am_H} {x i : Int32} {r : Option Value} (g0_z : am_get ls 0 = some (.ref 2)) (g2_z : am_get ls 2 = some (.int x)) (g3_z : am_get ls 3 = some (.int i)) (v : ¬ rg_v h 2 18 = -1) (hc_z : rn n am_m54 33 ls [] h r h') : h' = h := by
  have zm1_z : ((-1) : Int32).toInt = (-1) := by decide
  replace hc_z := rn_iload_n (am_cur_of (i := (53, 1, .iload_n 3, (0, 0, 0), 0)) (by decide +kernel)) g3_z hc_z
  replace hc_z := rn_aload_n (am_cur_of (i := (54, 1, .aload_n 0, (0, 0, 0), 0)) (by decide +kernel)) g0_z hc_z
  replace hc_z := rn_getI (v := rg_v h 2 9) (am_cur_of (i := (55, 3, .getfield 69, (1, 9, 284), 0)) (by decide +kernel)) (by decide +kernel) rfl hc_z
  replace hc_z := rn_cmp (am_cur_of (i := (58, 3, .if_icmp .ge 35, (55, 0, 0), 0)) (by decide +kernel)) hc_z
  rcases hc_z with ⟨b6_z, hc_z⟩ | ⟨b6_z, hc_z⟩
  · replace b6_z : (rg_v h 2 9).toInt ≤ i.toInt := b6_z
    replace hc_z := rn_vret (am_cur_of (i := (93, 1, .return_, (0, 0, 0), 0)) (by decide +kernel)) hc_z
    obtain ⟨e7_z, e8_z⟩ := hc_z
    exact e8_z
  · replace b6_z : i.toInt < (rg_v h 2 9).toInt := b6_z
    replace hc_z := rn_aload_n (am_cur_of (i := (61, 1, .aload_n 0, (0, 0, 0), 0)) (by decide +kernel)) g0_z hc_z
    replace hc_z := rn_getI (v := rg_v h 2 18) (am_cur_of (i := (62, 3, .getfield 81, (1, 18, 312), 0)) (by decide +kernel)) (by decide +kernel) rfl hc_z
    replace hc_z := rn_iconst (w := (-1)) (am_cur_of (i := (65, 1, .iconst (-1), (0, 0, 0), 0)) (by decide +kernel)) (by decide) hc_z
    replace hc_z := rn_cmp (am_cur_of (i := (66, 3, .if_icmp .ne 27, (55, 0, 0), 0)) (by decide +kernel)) hc_z
    rcases hc_z with ⟨b9_z, hc_z⟩ | ⟨b9_z, hc_z⟩
    · replace b9_z : ¬ (rg_v h 2 18) = ((-1) : Int32) ∧ ¬ (rg_v h 2 18).toInt = ((-1) : Int32).toInt := b9_z
      replace hc_z := rn_vret (am_cur_of (i := (93, 1, .return_, (0, 0, 0), 0)) (by decide +kernel)) hc_z
      obtain ⟨e10_z, e11_z⟩ := hc_z
      exact e11_z
    · replace b9_z : (rg_v h 2 18) = ((-1) : Int32) ∧ (rg_v h 2 18).toInt = ((-1) : Int32).toInt := b9_z
      exact absurd b9_z.1 v
theorem lk_c2 {r : Option Value} {h' : am_H} : ∀ (f k : Nat) (x i : Int32) (ls : am_L) (h : am_H), am_get ls 0 = some (.ref 2) → am_get ls 2 = some (.int x) → am_get ls 3 = some (.int i) → rg_v h 2 18 = -1 → 0 ≤ i.toInt → i.toInt + k = (rg_v h 2 9).toInt → (rg_v h 2 9).toInt ≤ 6 → rn f am_m54 33 ls [] h r h' → rg_v h' 2 18 = lkF (fun t => rg_v h 6 t) k i x := by
  intro f
  induction f with
  | zero => intro k x i ls h g0_z g2_z g3_z v i0_z ik n6_z hc_z; exact absurd hc_z rn_0
  | succ f ih_z =>
    intro k x i ls h g0_z g2_z g3_z v i0_z ik n6_z hc_z
    have zm1_z : ((-1) : Int32).toInt = (-1) := by decide
    have z0_z : (0 : Int32).toInt = 0 := by decide
    replace hc_z := rn_iload_n (am_cur_of (i := (53, 1, .iload_n 3, (0, 0, 0), 0)) (by decide +kernel)) g3_z hc_z
    replace hc_z := rn_aload_n (am_cur_of (i := (54, 1, .aload_n 0, (0, 0, 0), 0)) (by decide +kernel)) g0_z hc_z
    replace hc_z := rn_getI (v := rg_v h 2 9) (am_cur_of (i := (55, 3, .getfield 69, (1, 9, 284), 0)) (by decide +kernel)) (by decide +kernel) rfl hc_z
    replace hc_z := rn_cmp (am_cur_of (i := (58, 3, .if_icmp .ge 35, (55, 0, 0), 0)) (by decide +kernel)) hc_z
    rcases hc_z with ⟨b12_z, hc_z⟩ | ⟨b12_z, hc_z⟩
    · replace b12_z : (rg_v h 2 9).toInt ≤ i.toInt := b12_z
      replace hc_z := rn_vret (am_cur_of (i := (93, 1, .return_, (0, 0, 0), 0)) (by decide +kernel)) hc_z
      obtain ⟨e13_z, e14_z⟩ := hc_z
      obtain rfl : k = 0 := by omega
      rw [e14_z]
      exact v
    · replace b12_z : i.toInt < (rg_v h 2 9).toInt := b12_z
      obtain ⟨k, rfl⟩ : ∃ k2_z, k = k2_z + 1 := ⟨k - 1, by omega⟩
      replace hc_z := rn_aload_n (am_cur_of (i := (61, 1, .aload_n 0, (0, 0, 0), 0)) (by decide +kernel)) g0_z hc_z
      replace hc_z := rn_getI (v := rg_v h 2 18) (am_cur_of (i := (62, 3, .getfield 81, (1, 18, 312), 0)) (by decide +kernel)) (by decide +kernel) rfl hc_z
      replace hc_z := rn_iconst (w := (-1)) (am_cur_of (i := (65, 1, .iconst (-1), (0, 0, 0), 0)) (by decide +kernel)) (by decide) hc_z
      replace hc_z := rn_cmp (am_cur_of (i := (66, 3, .if_icmp .ne 27, (55, 0, 0), 0)) (by decide +kernel)) hc_z
      rcases hc_z with ⟨b15_z, hc_z⟩ | ⟨b15_z, hc_z⟩
      · replace b15_z : ¬ (rg_v h 2 18) = ((-1) : Int32) ∧ ¬ (rg_v h 2 18).toInt = ((-1) : Int32).toInt := b15_z
        exact absurd v b15_z.1
      · replace b15_z : (rg_v h 2 18) = ((-1) : Int32) ∧ (rg_v h 2 18).toInt = ((-1) : Int32).toInt := b15_z
        replace hc_z := rn_iload_n (am_cur_of (i := (69, 1, .iload_n 2, (0, 0, 0), 0)) (by decide +kernel)) g2_z hc_z
        replace hc_z := rn_aload_n (am_cur_of (i := (70, 1, .aload_n 0, (0, 0, 0), 0)) (by decide +kernel)) g0_z hc_z
        replace hc_z := rn_getR (x := 6) (am_cur_of (i := (71, 3, .getfield 24, (1, 10, 287), 0)) (by decide +kernel)) (by decide +kernel) hc_z
        replace hc_z := rn_iload_n (am_cur_of (i := (74, 1, .iload_n 3, (0, 0, 0), 0)) (by decide +kernel)) g3_z hc_z
        replace hc_z := rn_iaload (N := 6) (q := i.toNatClampNeg) (v := rg_v h 6 i.toNatClampNeg) (am_cur_of (i := (75, 1, .iaload, (0, 0, 0), 0)) (by decide +kernel)) (by decide +kernel) rfl rfl hc_z
        obtain ⟨p16_z, hc_z⟩ := hc_z
        replace hc_z := rn_isub (w := x - (rg_v h 6 i.toNatClampNeg)) (am_cur_of (i := (76, 1, .isub, (0, 0, 0), 0)) (by decide +kernel)) rfl hc_z
        replace hc_z := rn_istore_n (am_cur_of (i := (77, 1, .istore_n 2, (0, 0, 0), 0)) (by decide +kernel)) hc_z
        obtain ⟨_, s17_z, s18_z, g2_z, hc_z⟩ := hc_z
        replace g0_z := s17_z 0 _ (by decide) rfl g0_z
        replace g3_z := s17_z 3 _ (by decide) rfl g3_z
        clear s17_z s18_z
        replace hc_z := rn_iload_n (am_cur_of (i := (78, 1, .iload_n 2, (0, 0, 0), 0)) (by decide +kernel)) g2_z hc_z
        replace hc_z := rn_if (am_cur_of (i := (79, 3, .ifCond .ge 8, (53, 0, 0), 0)) (by decide +kernel)) hc_z
        rcases hc_z with ⟨b19_z, hc_z⟩ | ⟨b19_z, hc_z⟩
        · replace b19_z : (0 : Int32).toInt ≤ (x - (rg_v h 6 i.toNatClampNeg)).toInt := b19_z
          replace hc_z := rn_iinc (w := i + 1) (am_cur_of (i := (87, 3, .iinc 3 1, (0, 0, 0), 0)) (by decide +kernel)) g3_z rfl hc_z
          obtain ⟨_, s20_z, s21_z, g3_z, hc_z⟩ := hc_z
          replace g0_z := s20_z 0 _ (by decide) rfl g0_z
          replace g2_z := s20_z 2 _ (by decide) rfl g2_z
          clear s20_z s21_z
          replace hc_z := rn_gotoL (am_cur_of (i := (90, 3, .goto (-37), (33, 0, 0), 0)) (by decide +kernel)) hc_z
          have c1_z := rt_c1 i0_z (by omega)
          exact (ih_z k _ (i + 1) _ _ g0_z g2_z g3_z v (by omega) (by omega) n6_z hc_z).trans (lkF_2 (w := fun t => rg_v h 6 t) (show ¬ (x - rg_v h 6 i.toNatClampNeg).toInt < 0 by omega)).symm
        · replace b19_z : (x - (rg_v h 6 i.toNatClampNeg)).toInt < (0 : Int32).toInt := b19_z
          replace hc_z := rn_aload_n (am_cur_of (i := (82, 1, .aload_n 0, (0, 0, 0), 0)) (by decide +kernel)) g0_z hc_z
          replace hc_z := rn_iload_n (am_cur_of (i := (83, 1, .iload_n 3, (0, 0, 0), 0)) (by decide +kernel)) g3_z hc_z
          replace hc_z := rn_put (am_cur_of (i := (84, 3, .putfield 81, (1, 18, 312), 0)) (by decide +kernel)) (by decide +kernel) hc_z
          replace hc_z := rn_iinc (w := i + 1) (am_cur_of (i := (87, 3, .iinc 3 1, (0, 0, 0), 0)) (by decide +kernel)) g3_z rfl hc_z
          obtain ⟨_, s22_z, s23_z, g3_z, hc_z⟩ := hc_z
          replace g0_z := s22_z 0 _ (by decide) rfl g0_z
          replace g2_z := s22_z 2 _ (by decide) rfl g2_z
          clear s22_z s23_z
          replace hc_z := rn_gotoL (am_cur_of (i := (90, 3, .goto (-37), (33, 0, 0), 0)) (by decide +kernel)) hc_z
          have z := lk_cx2 g0_z g2_z g3_z (by rw [rg_v_self]; intro q; rw [q] at i0_z; exact absurd i0_z (by decide)) hc_z
          rw [z, rg_v_self]
          exact (lkF_1 (w := fun t => rg_v h 6 t) (show (x - rg_v h 6 i.toNatClampNeg).toInt < 0 by omega)).symm
theorem lk_s2 {r : Option Value} {h' : am_H} : ∀ (f : Nat) (s i : Int32) (ls : am_L) (h : am_H), am_get ls 0 = some (.ref 2) → am_get ls 1 = some (.int s) → am_get ls 2 = some (.int i) → s = lkS (fun t => rg_v h 6 t) i.toNatClampNeg → 0 ≤ i.toInt → i.toInt ≤ (rg_v h 2 9).toInt → (rg_v h 2 9).toInt ≤ 6 → rn f am_m54 4 ls [] h r h' → rg_v h' 2 18 = lkR (fun t => rg_v h 6 t) (rg_v h 2 9).toNatClampNeg (rg_v h 2 17) := by
  intro f
  induction f with
  | zero => intro s i ls h g0_z g1_z g2_z es_z i0_z ik n6_z hc_z; exact absurd hc_z rn_0
  | succ f ih_z =>
    intro s i ls h g0_z g1_z g2_z es_z i0_z ik n6_z hc_z
    have z0_z : (0 : Int32).toInt = 0 := by decide
    replace hc_z := rn_iload_n (am_cur_of (i := (4, 1, .iload_n 2, (0, 0, 0), 0)) (by decide +kernel)) g2_z hc_z
    replace hc_z := rn_aload_n (am_cur_of (i := (5, 1, .aload_n 0, (0, 0, 0), 0)) (by decide +kernel)) g0_z hc_z
    replace hc_z := rn_getI (v := rg_v h 2 9) (am_cur_of (i := (6, 3, .getfield 69, (1, 9, 284), 0)) (by decide +kernel)) (by decide +kernel) rfl hc_z
    replace hc_z := rn_cmp (am_cur_of (i := (9, 3, .if_icmp .ge 18, (17, 0, 0), 0)) (by decide +kernel)) hc_z
    rcases hc_z with ⟨b24_z, hc_z⟩ | ⟨b24_z, hc_z⟩
    · replace b24_z : (rg_v h 2 9).toInt ≤ i.toInt := b24_z
      have en : i = rg_v h 2 9 := Int32.toInt_inj.mp (by omega)
      rw [en] at es_z
      replace hc_z := rn_aload_n (am_cur_of (i := (27, 1, .aload_n 0, (0, 0, 0), 0)) (by decide +kernel)) g0_z hc_z
      replace hc_z := rn_iconst (w := (-1)) (am_cur_of (i := (28, 1, .iconst (-1), (0, 0, 0), 0)) (by decide +kernel)) (by decide) hc_z
      replace hc_z := rn_put (am_cur_of (i := (29, 3, .putfield 81, (1, 18, 312), 0)) (by decide +kernel)) (by decide +kernel) hc_z
      replace hc_z := rn_iload_n (am_cur_of (i := (32, 1, .iload_n 1, (0, 0, 0), 0)) (by decide +kernel)) g1_z hc_z
      replace hc_z := rn_if (am_cur_of (i := (33, 3, .ifCond .ne 4, (23, 0, 0), 0)) (by decide +kernel)) hc_z
      rcases hc_z with ⟨b25_z, hc_z⟩ | ⟨b25_z, hc_z⟩
      · replace b25_z : ¬ s = (0 : Int32) ∧ ¬ s.toInt = (0 : Int32).toInt := b25_z
        replace hc_z := rn_aload_n (am_cur_of (i := (37, 1, .aload_n 0, (0, 0, 0), 0)) (by decide +kernel)) g0_z hc_z
        replace hc_z := rn_getI (v := rg_v h 2 17) (am_cur_of (i := (38, 3, .getfield 78, (1, 17, 309), 0)) (by decide +kernel)) (by decide +kernel) (show rg_v (am_up h 2 18 (.int (-1))) 2 17 = rg_v h 2 17 from rfl) hc_z
        replace hc_z := rn_i2l (w := (rg_v h 2 17).toInt64) (am_cur_of (i := (41, 1, .i2l, (0, 0, 0), 0)) (by decide +kernel)) rfl hc_z
        replace hc_z := rn_callS (M' := am_m55) (ar := [.long ((rg_v h 2 17).toInt64)]) (rest := []) (L := lv_args 0 [.long ((rg_v h 2 17).toInt64)]) (am_cur_of (i := (42, 3, .invokestatic 88, (55, 876, 3), 0)) (by decide +kernel)) rfl rfl rfl rfl hc_z
        obtain ⟨r26_z, h27_z, q28_z, hc_z⟩ := hc_z
        rcases kg_55 q28_z with ⟨rfl, y29_z⟩
        replace y29_z := y29_z.symm
        subst y29_z
        replace hc_z : rn _ _ _ _ [.long (((((rg_v h 2 17).toInt64) * 1103515245) + 12345) &&& 2147483647)] _ _ _ := hc_z
        replace hc_z := rn_callS (M' := am_m56) (ar := [.long (((((rg_v h 2 17).toInt64) * 1103515245) + 12345) &&& 2147483647)]) (rest := []) (L := lv_args 0 [.long (((((rg_v h 2 17).toInt64) * 1103515245) + 12345) &&& 2147483647)]) (am_cur_of (i := (45, 3, .invokestatic 92, (56, 882, 3), 0)) (by decide +kernel)) rfl rfl rfl rfl hc_z
        obtain ⟨r30_z, h31_z, q32_z, hc_z⟩ := hc_z
        rcases kg_56 q32_z with ⟨rfl, y33_z⟩
        replace y33_z := y33_z.symm
        subst y33_z
        replace hc_z : rn _ _ _ _ [.int (((((((rg_v h 2 17).toInt64) * 1103515245) + 12345) &&& 2147483647) / 65536).toInt32)] _ _ _ := hc_z
        replace hc_z := rn_iload_n (am_cur_of (i := (48, 1, .iload_n 1, (0, 0, 0), 0)) (by decide +kernel)) g1_z hc_z
        replace hc_z := rn_irem (w := (((((((rg_v h 2 17).toInt64) * 1103515245) + 12345) &&& 2147483647) / 65536).toInt32) - (((((((rg_v h 2 17).toInt64) * 1103515245) + 12345) &&& 2147483647) / 65536).toInt32) / s * s) (am_cur_of (i := (49, 1, .irem, (0, 0, 0), 0)) (by decide +kernel)) rfl hc_z
        obtain ⟨d34_z, hc_z⟩ := hc_z
        replace hc_z := rn_istore_n (am_cur_of (i := (50, 1, .istore_n 2, (0, 0, 0), 0)) (by decide +kernel)) hc_z
        obtain ⟨_, s35_z, s36_z, g2_z, hc_z⟩ := hc_z
        replace g0_z := s35_z 0 _ (by decide) rfl g0_z
        replace g1_z := s35_z 1 _ (by decide) rfl g1_z
        clear s35_z s36_z
        replace hc_z := rn_iconst (w := 0) (am_cur_of (i := (51, 1, .iconst 0, (0, 0, 0), 0)) (by decide +kernel)) (by decide) hc_z
        replace hc_z := rn_istore_n (am_cur_of (i := (52, 1, .istore_n 3, (0, 0, 0), 0)) (by decide +kernel)) hc_z
        obtain ⟨_, s37_z, s38_z, g3_z, hc_z⟩ := hc_z
        replace g0_z := s37_z 0 _ (by decide) rfl g0_z
        replace g1_z := s37_z 1 _ (by decide) rfl g1_z
        replace g2_z := s37_z 2 _ (by decide) rfl g2_z
        clear s37_z s38_z
        have cn := rt_cl (x := rg_v h 2 9) (by omega)
        have z := lk_c2 _ (rg_v h 2 9).toNatClampNeg _ 0 _ _ g0_z g2_z g3_z rg_v_self (by decide) (by rw [show (0 : Int32).toInt = 0 by decide]; show 0 + _ = (rg_v h 2 9).toInt; omega) n6_z hc_z
        have q := lkR_1 (seed := rg_v h 2 17) (fun q => b25_z.1 (es_z.trans q))
        rw [← es_z] at q
        exact z.trans q.symm
      · replace b25_z : s = (0 : Int32) ∧ s.toInt = (0 : Int32).toInt := b25_z
        replace hc_z := rn_vret (am_cur_of (i := (36, 1, .return_, (0, 0, 0), 0)) (by decide +kernel)) hc_z
        obtain ⟨e39_z, e40_z⟩ := hc_z
        rw [e40_z, rg_v_self]
        exact (lkR_0 (es_z.symm.trans b25_z.1)).symm
    · replace b24_z : i.toInt < (rg_v h 2 9).toInt := b24_z
      replace hc_z := rn_iload_n (am_cur_of (i := (12, 1, .iload_n 1, (0, 0, 0), 0)) (by decide +kernel)) g1_z hc_z
      replace hc_z := rn_aload_n (am_cur_of (i := (13, 1, .aload_n 0, (0, 0, 0), 0)) (by decide +kernel)) g0_z hc_z
      replace hc_z := rn_getR (x := 6) (am_cur_of (i := (14, 3, .getfield 24, (1, 10, 287), 0)) (by decide +kernel)) (by decide +kernel) hc_z
      replace hc_z := rn_iload_n (am_cur_of (i := (17, 1, .iload_n 2, (0, 0, 0), 0)) (by decide +kernel)) g2_z hc_z
      replace hc_z := rn_iaload (N := 6) (q := i.toNatClampNeg) (v := rg_v h 6 i.toNatClampNeg) (am_cur_of (i := (18, 1, .iaload, (0, 0, 0), 0)) (by decide +kernel)) (by decide +kernel) rfl rfl hc_z
      obtain ⟨p41_z, hc_z⟩ := hc_z
      replace hc_z := rn_iadd (w := s + (rg_v h 6 i.toNatClampNeg)) (am_cur_of (i := (19, 1, .iadd, (0, 0, 0), 0)) (by decide +kernel)) rfl hc_z
      replace hc_z := rn_istore_n (am_cur_of (i := (20, 1, .istore_n 1, (0, 0, 0), 0)) (by decide +kernel)) hc_z
      obtain ⟨_, s42_z, s43_z, g1_z, hc_z⟩ := hc_z
      replace g0_z := s42_z 0 _ (by decide) rfl g0_z
      replace g2_z := s42_z 2 _ (by decide) rfl g2_z
      clear s42_z s43_z
      replace hc_z := rn_iinc (w := i + 1) (am_cur_of (i := (21, 3, .iinc 2 1, (0, 0, 0), 0)) (by decide +kernel)) g2_z rfl hc_z
      obtain ⟨_, s44_z, s45_z, g2_z, hc_z⟩ := hc_z
      replace g0_z := s44_z 0 _ (by decide) rfl g0_z
      replace g1_z := s44_z 1 _ (by decide) rfl g1_z
      clear s44_z s45_z
      replace hc_z := rn_gotoL (am_cur_of (i := (24, 3, .goto (-20), (4, 0, 0), 0)) (by decide +kernel)) hc_z
      have c1_z := rt_c1 i0_z (by omega)
      have ci_z := rt_cl i0_z
      have cj := rt_cl (x := i + 1) (by omega)
      exact ih_z _ (i + 1) _ _ g0_z g1_z g2_z (by rw [show (i + 1).toNatClampNeg = i.toNatClampNeg + 1 by omega, es_z]; rfl) (by omega) (by omega) n6_z hc_z
theorem lk_54_2 {n : Nat} {r : Option Value} {h h' : am_H} (n0_z : 0 ≤ (rg_v h 2 9).toInt) (n6_z : (rg_v h 2 9).toInt ≤ 6) (hc_z : rn n am_m54 0 (lv_args 0 [.ref 2]) [] h r h') : rg_v h' 2 18 = lkR (fun t => rg_v h 6 t) (rg_v h 2 9).toNatClampNeg (rg_v h 2 17) := by
  have g0_z : am_get (lv_args 0 [.ref 2]) 0 = some (.ref 2) := rfl
  replace hc_z := rn_iconst (w := 0) (am_cur_of (i := (0, 1, .iconst 0, (0, 0, 0), 0)) (by decide +kernel)) (by decide) hc_z
  replace hc_z := rn_istore_n (am_cur_of (i := (1, 1, .istore_n 1, (0, 0, 0), 0)) (by decide +kernel)) hc_z
  obtain ⟨_, s46_z, s47_z, g1_z, hc_z⟩ := hc_z
  replace g0_z := s46_z 0 _ (by decide) rfl g0_z
  clear s46_z s47_z
  replace hc_z := rn_iconst (w := 0) (am_cur_of (i := (2, 1, .iconst 0, (0, 0, 0), 0)) (by decide +kernel)) (by decide) hc_z
  replace hc_z := rn_istore_n (am_cur_of (i := (3, 1, .istore_n 2, (0, 0, 0), 0)) (by decide +kernel)) hc_z
  obtain ⟨_, s48_z, s49_z, g2_z, hc_z⟩ := hc_z
  replace g0_z := s48_z 0 _ (by decide) rfl g0_z
  replace g1_z := s48_z 1 _ (by decide) rfl g1_z
  clear s48_z s49_z
  exact lk_s2 _ 0 0 _ _ g0_z g1_z g2_z rfl (by decide) (by rw [show (0 : Int32).toInt = 0 by decide]; exact n0_z) n6_z hc_z
theorem lk_cx23 {n : Nat} {ls : am_L} {h h' : am_H} {x i : Int32} {r : Option Value} (g0_z : am_get ls 0 = some (.ref 23)) (g2_z : am_get ls 2 = some (.int x)) (g3_z : am_get ls 3 = some (.int i)) (v : ¬ rg_v h 23 18 = -1) (hc_z : rn n am_m54 33 ls [] h r h') : h' = h := by
  have zm1_z : ((-1) : Int32).toInt = (-1) := by decide
  replace hc_z := rn_iload_n (am_cur_of (i := (53, 1, .iload_n 3, (0, 0, 0), 0)) (by decide +kernel)) g3_z hc_z
  replace hc_z := rn_aload_n (am_cur_of (i := (54, 1, .aload_n 0, (0, 0, 0), 0)) (by decide +kernel)) g0_z hc_z
  replace hc_z := rn_getI (v := rg_v h 23 9) (am_cur_of (i := (55, 3, .getfield 69, (1, 9, 284), 0)) (by decide +kernel)) (by decide +kernel) rfl hc_z
  replace hc_z := rn_cmp (am_cur_of (i := (58, 3, .if_icmp .ge 35, (55, 0, 0), 0)) (by decide +kernel)) hc_z
  rcases hc_z with ⟨b50_z, hc_z⟩ | ⟨b50_z, hc_z⟩
  · replace b50_z : (rg_v h 23 9).toInt ≤ i.toInt := b50_z
    replace hc_z := rn_vret (am_cur_of (i := (93, 1, .return_, (0, 0, 0), 0)) (by decide +kernel)) hc_z
    obtain ⟨e51_z, e52_z⟩ := hc_z
    exact e52_z
  · replace b50_z : i.toInt < (rg_v h 23 9).toInt := b50_z
    replace hc_z := rn_aload_n (am_cur_of (i := (61, 1, .aload_n 0, (0, 0, 0), 0)) (by decide +kernel)) g0_z hc_z
    replace hc_z := rn_getI (v := rg_v h 23 18) (am_cur_of (i := (62, 3, .getfield 81, (1, 18, 312), 0)) (by decide +kernel)) (by decide +kernel) rfl hc_z
    replace hc_z := rn_iconst (w := (-1)) (am_cur_of (i := (65, 1, .iconst (-1), (0, 0, 0), 0)) (by decide +kernel)) (by decide) hc_z
    replace hc_z := rn_cmp (am_cur_of (i := (66, 3, .if_icmp .ne 27, (55, 0, 0), 0)) (by decide +kernel)) hc_z
    rcases hc_z with ⟨b53_z, hc_z⟩ | ⟨b53_z, hc_z⟩
    · replace b53_z : ¬ (rg_v h 23 18) = ((-1) : Int32) ∧ ¬ (rg_v h 23 18).toInt = ((-1) : Int32).toInt := b53_z
      replace hc_z := rn_vret (am_cur_of (i := (93, 1, .return_, (0, 0, 0), 0)) (by decide +kernel)) hc_z
      obtain ⟨e54_z, e55_z⟩ := hc_z
      exact e55_z
    · replace b53_z : (rg_v h 23 18) = ((-1) : Int32) ∧ (rg_v h 23 18).toInt = ((-1) : Int32).toInt := b53_z
      exact absurd b53_z.1 v
theorem lk_c23 {r : Option Value} {h' : am_H} : ∀ (f k : Nat) (x i : Int32) (ls : am_L) (h : am_H), am_get ls 0 = some (.ref 23) → am_get ls 2 = some (.int x) → am_get ls 3 = some (.int i) → rg_v h 23 18 = -1 → 0 ≤ i.toInt → i.toInt + k = (rg_v h 23 9).toInt → (rg_v h 23 9).toInt ≤ 6 → rn f am_m54 33 ls [] h r h' → rg_v h' 23 18 = lkF (fun t => rg_v h 27 t) k i x := by
  intro f
  induction f with
  | zero => intro k x i ls h g0_z g2_z g3_z v i0_z ik n6_z hc_z; exact absurd hc_z rn_0
  | succ f ih_z =>
    intro k x i ls h g0_z g2_z g3_z v i0_z ik n6_z hc_z
    have zm1_z : ((-1) : Int32).toInt = (-1) := by decide
    have z0_z : (0 : Int32).toInt = 0 := by decide
    replace hc_z := rn_iload_n (am_cur_of (i := (53, 1, .iload_n 3, (0, 0, 0), 0)) (by decide +kernel)) g3_z hc_z
    replace hc_z := rn_aload_n (am_cur_of (i := (54, 1, .aload_n 0, (0, 0, 0), 0)) (by decide +kernel)) g0_z hc_z
    replace hc_z := rn_getI (v := rg_v h 23 9) (am_cur_of (i := (55, 3, .getfield 69, (1, 9, 284), 0)) (by decide +kernel)) (by decide +kernel) rfl hc_z
    replace hc_z := rn_cmp (am_cur_of (i := (58, 3, .if_icmp .ge 35, (55, 0, 0), 0)) (by decide +kernel)) hc_z
    rcases hc_z with ⟨b56_z, hc_z⟩ | ⟨b56_z, hc_z⟩
    · replace b56_z : (rg_v h 23 9).toInt ≤ i.toInt := b56_z
      replace hc_z := rn_vret (am_cur_of (i := (93, 1, .return_, (0, 0, 0), 0)) (by decide +kernel)) hc_z
      obtain ⟨e57_z, e58_z⟩ := hc_z
      obtain rfl : k = 0 := by omega
      rw [e58_z]
      exact v
    · replace b56_z : i.toInt < (rg_v h 23 9).toInt := b56_z
      obtain ⟨k, rfl⟩ : ∃ k2_z, k = k2_z + 1 := ⟨k - 1, by omega⟩
      replace hc_z := rn_aload_n (am_cur_of (i := (61, 1, .aload_n 0, (0, 0, 0), 0)) (by decide +kernel)) g0_z hc_z
      replace hc_z := rn_getI (v := rg_v h 23 18) (am_cur_of (i := (62, 3, .getfield 81, (1, 18, 312), 0)) (by decide +kernel)) (by decide +kernel) rfl hc_z
      replace hc_z := rn_iconst (w := (-1)) (am_cur_of (i := (65, 1, .iconst (-1), (0, 0, 0), 0)) (by decide +kernel)) (by decide) hc_z
      replace hc_z := rn_cmp (am_cur_of (i := (66, 3, .if_icmp .ne 27, (55, 0, 0), 0)) (by decide +kernel)) hc_z
      rcases hc_z with ⟨b59_z, hc_z⟩ | ⟨b59_z, hc_z⟩
      · replace b59_z : ¬ (rg_v h 23 18) = ((-1) : Int32) ∧ ¬ (rg_v h 23 18).toInt = ((-1) : Int32).toInt := b59_z
        exact absurd v b59_z.1
      · replace b59_z : (rg_v h 23 18) = ((-1) : Int32) ∧ (rg_v h 23 18).toInt = ((-1) : Int32).toInt := b59_z
        replace hc_z := rn_iload_n (am_cur_of (i := (69, 1, .iload_n 2, (0, 0, 0), 0)) (by decide +kernel)) g2_z hc_z
        replace hc_z := rn_aload_n (am_cur_of (i := (70, 1, .aload_n 0, (0, 0, 0), 0)) (by decide +kernel)) g0_z hc_z
        replace hc_z := rn_getR (x := 27) (am_cur_of (i := (71, 3, .getfield 24, (1, 10, 287), 0)) (by decide +kernel)) (by decide +kernel) hc_z
        replace hc_z := rn_iload_n (am_cur_of (i := (74, 1, .iload_n 3, (0, 0, 0), 0)) (by decide +kernel)) g3_z hc_z
        replace hc_z := rn_iaload (N := 6) (q := i.toNatClampNeg) (v := rg_v h 27 i.toNatClampNeg) (am_cur_of (i := (75, 1, .iaload, (0, 0, 0), 0)) (by decide +kernel)) (by decide +kernel) rfl rfl hc_z
        obtain ⟨p60_z, hc_z⟩ := hc_z
        replace hc_z := rn_isub (w := x - (rg_v h 27 i.toNatClampNeg)) (am_cur_of (i := (76, 1, .isub, (0, 0, 0), 0)) (by decide +kernel)) rfl hc_z
        replace hc_z := rn_istore_n (am_cur_of (i := (77, 1, .istore_n 2, (0, 0, 0), 0)) (by decide +kernel)) hc_z
        obtain ⟨_, s61_z, s62_z, g2_z, hc_z⟩ := hc_z
        replace g0_z := s61_z 0 _ (by decide) rfl g0_z
        replace g3_z := s61_z 3 _ (by decide) rfl g3_z
        clear s61_z s62_z
        replace hc_z := rn_iload_n (am_cur_of (i := (78, 1, .iload_n 2, (0, 0, 0), 0)) (by decide +kernel)) g2_z hc_z
        replace hc_z := rn_if (am_cur_of (i := (79, 3, .ifCond .ge 8, (53, 0, 0), 0)) (by decide +kernel)) hc_z
        rcases hc_z with ⟨b63_z, hc_z⟩ | ⟨b63_z, hc_z⟩
        · replace b63_z : (0 : Int32).toInt ≤ (x - (rg_v h 27 i.toNatClampNeg)).toInt := b63_z
          replace hc_z := rn_iinc (w := i + 1) (am_cur_of (i := (87, 3, .iinc 3 1, (0, 0, 0), 0)) (by decide +kernel)) g3_z rfl hc_z
          obtain ⟨_, s64_z, s65_z, g3_z, hc_z⟩ := hc_z
          replace g0_z := s64_z 0 _ (by decide) rfl g0_z
          replace g2_z := s64_z 2 _ (by decide) rfl g2_z
          clear s64_z s65_z
          replace hc_z := rn_gotoL (am_cur_of (i := (90, 3, .goto (-37), (33, 0, 0), 0)) (by decide +kernel)) hc_z
          have c1_z := rt_c1 i0_z (by omega)
          exact (ih_z k _ (i + 1) _ _ g0_z g2_z g3_z v (by omega) (by omega) n6_z hc_z).trans (lkF_2 (w := fun t => rg_v h 27 t) (show ¬ (x - rg_v h 27 i.toNatClampNeg).toInt < 0 by omega)).symm
        · replace b63_z : (x - (rg_v h 27 i.toNatClampNeg)).toInt < (0 : Int32).toInt := b63_z
          replace hc_z := rn_aload_n (am_cur_of (i := (82, 1, .aload_n 0, (0, 0, 0), 0)) (by decide +kernel)) g0_z hc_z
          replace hc_z := rn_iload_n (am_cur_of (i := (83, 1, .iload_n 3, (0, 0, 0), 0)) (by decide +kernel)) g3_z hc_z
          replace hc_z := rn_put (am_cur_of (i := (84, 3, .putfield 81, (1, 18, 312), 0)) (by decide +kernel)) (by decide +kernel) hc_z
          replace hc_z := rn_iinc (w := i + 1) (am_cur_of (i := (87, 3, .iinc 3 1, (0, 0, 0), 0)) (by decide +kernel)) g3_z rfl hc_z
          obtain ⟨_, s66_z, s67_z, g3_z, hc_z⟩ := hc_z
          replace g0_z := s66_z 0 _ (by decide) rfl g0_z
          replace g2_z := s66_z 2 _ (by decide) rfl g2_z
          clear s66_z s67_z
          replace hc_z := rn_gotoL (am_cur_of (i := (90, 3, .goto (-37), (33, 0, 0), 0)) (by decide +kernel)) hc_z
          have z := lk_cx23 g0_z g2_z g3_z (by rw [rg_v_self]; intro q; rw [q] at i0_z; exact absurd i0_z (by decide)) hc_z
          rw [z, rg_v_self]
          exact (lkF_1 (w := fun t => rg_v h 27 t) (show (x - rg_v h 27 i.toNatClampNeg).toInt < 0 by omega)).symm
theorem lk_s23 {r : Option Value} {h' : am_H} : ∀ (f : Nat) (s i : Int32) (ls : am_L) (h : am_H), am_get ls 0 = some (.ref 23) → am_get ls 1 = some (.int s) → am_get ls 2 = some (.int i) → s = lkS (fun t => rg_v h 27 t) i.toNatClampNeg → 0 ≤ i.toInt → i.toInt ≤ (rg_v h 23 9).toInt → (rg_v h 23 9).toInt ≤ 6 → rn f am_m54 4 ls [] h r h' → rg_v h' 23 18 = lkR (fun t => rg_v h 27 t) (rg_v h 23 9).toNatClampNeg (rg_v h 23 17) := by
  intro f
  induction f with
  | zero => intro s i ls h g0_z g1_z g2_z es_z i0_z ik n6_z hc_z; exact absurd hc_z rn_0
  | succ f ih_z =>
    intro s i ls h g0_z g1_z g2_z es_z i0_z ik n6_z hc_z
    have z0_z : (0 : Int32).toInt = 0 := by decide
    replace hc_z := rn_iload_n (am_cur_of (i := (4, 1, .iload_n 2, (0, 0, 0), 0)) (by decide +kernel)) g2_z hc_z
    replace hc_z := rn_aload_n (am_cur_of (i := (5, 1, .aload_n 0, (0, 0, 0), 0)) (by decide +kernel)) g0_z hc_z
    replace hc_z := rn_getI (v := rg_v h 23 9) (am_cur_of (i := (6, 3, .getfield 69, (1, 9, 284), 0)) (by decide +kernel)) (by decide +kernel) rfl hc_z
    replace hc_z := rn_cmp (am_cur_of (i := (9, 3, .if_icmp .ge 18, (17, 0, 0), 0)) (by decide +kernel)) hc_z
    rcases hc_z with ⟨b68_z, hc_z⟩ | ⟨b68_z, hc_z⟩
    · replace b68_z : (rg_v h 23 9).toInt ≤ i.toInt := b68_z
      have en : i = rg_v h 23 9 := Int32.toInt_inj.mp (by omega)
      rw [en] at es_z
      replace hc_z := rn_aload_n (am_cur_of (i := (27, 1, .aload_n 0, (0, 0, 0), 0)) (by decide +kernel)) g0_z hc_z
      replace hc_z := rn_iconst (w := (-1)) (am_cur_of (i := (28, 1, .iconst (-1), (0, 0, 0), 0)) (by decide +kernel)) (by decide) hc_z
      replace hc_z := rn_put (am_cur_of (i := (29, 3, .putfield 81, (1, 18, 312), 0)) (by decide +kernel)) (by decide +kernel) hc_z
      replace hc_z := rn_iload_n (am_cur_of (i := (32, 1, .iload_n 1, (0, 0, 0), 0)) (by decide +kernel)) g1_z hc_z
      replace hc_z := rn_if (am_cur_of (i := (33, 3, .ifCond .ne 4, (23, 0, 0), 0)) (by decide +kernel)) hc_z
      rcases hc_z with ⟨b69_z, hc_z⟩ | ⟨b69_z, hc_z⟩
      · replace b69_z : ¬ s = (0 : Int32) ∧ ¬ s.toInt = (0 : Int32).toInt := b69_z
        replace hc_z := rn_aload_n (am_cur_of (i := (37, 1, .aload_n 0, (0, 0, 0), 0)) (by decide +kernel)) g0_z hc_z
        replace hc_z := rn_getI (v := rg_v h 23 17) (am_cur_of (i := (38, 3, .getfield 78, (1, 17, 309), 0)) (by decide +kernel)) (by decide +kernel) (show rg_v (am_up h 23 18 (.int (-1))) 23 17 = rg_v h 23 17 from rfl) hc_z
        replace hc_z := rn_i2l (w := (rg_v h 23 17).toInt64) (am_cur_of (i := (41, 1, .i2l, (0, 0, 0), 0)) (by decide +kernel)) rfl hc_z
        replace hc_z := rn_callS (M' := am_m55) (ar := [.long ((rg_v h 23 17).toInt64)]) (rest := []) (L := lv_args 0 [.long ((rg_v h 23 17).toInt64)]) (am_cur_of (i := (42, 3, .invokestatic 88, (55, 876, 3), 0)) (by decide +kernel)) rfl rfl rfl rfl hc_z
        obtain ⟨r70_z, h71_z, q72_z, hc_z⟩ := hc_z
        rcases kg_55 q72_z with ⟨rfl, y73_z⟩
        replace y73_z := y73_z.symm
        subst y73_z
        replace hc_z : rn _ _ _ _ [.long (((((rg_v h 23 17).toInt64) * 1103515245) + 12345) &&& 2147483647)] _ _ _ := hc_z
        replace hc_z := rn_callS (M' := am_m56) (ar := [.long (((((rg_v h 23 17).toInt64) * 1103515245) + 12345) &&& 2147483647)]) (rest := []) (L := lv_args 0 [.long (((((rg_v h 23 17).toInt64) * 1103515245) + 12345) &&& 2147483647)]) (am_cur_of (i := (45, 3, .invokestatic 92, (56, 882, 3), 0)) (by decide +kernel)) rfl rfl rfl rfl hc_z
        obtain ⟨r74_z, h75_z, q76_z, hc_z⟩ := hc_z
        rcases kg_56 q76_z with ⟨rfl, y77_z⟩
        replace y77_z := y77_z.symm
        subst y77_z
        replace hc_z : rn _ _ _ _ [.int (((((((rg_v h 23 17).toInt64) * 1103515245) + 12345) &&& 2147483647) / 65536).toInt32)] _ _ _ := hc_z
        replace hc_z := rn_iload_n (am_cur_of (i := (48, 1, .iload_n 1, (0, 0, 0), 0)) (by decide +kernel)) g1_z hc_z
        replace hc_z := rn_irem (w := (((((((rg_v h 23 17).toInt64) * 1103515245) + 12345) &&& 2147483647) / 65536).toInt32) - (((((((rg_v h 23 17).toInt64) * 1103515245) + 12345) &&& 2147483647) / 65536).toInt32) / s * s) (am_cur_of (i := (49, 1, .irem, (0, 0, 0), 0)) (by decide +kernel)) rfl hc_z
        obtain ⟨d78_z, hc_z⟩ := hc_z
        replace hc_z := rn_istore_n (am_cur_of (i := (50, 1, .istore_n 2, (0, 0, 0), 0)) (by decide +kernel)) hc_z
        obtain ⟨_, s79_z, s80_z, g2_z, hc_z⟩ := hc_z
        replace g0_z := s79_z 0 _ (by decide) rfl g0_z
        replace g1_z := s79_z 1 _ (by decide) rfl g1_z
        clear s79_z s80_z
        replace hc_z := rn_iconst (w := 0) (am_cur_of (i := (51, 1, .iconst 0, (0, 0, 0), 0)) (by decide +kernel)) (by decide) hc_z
        replace hc_z := rn_istore_n (am_cur_of (i := (52, 1, .istore_n 3, (0, 0, 0), 0)) (by decide +kernel)) hc_z
        obtain ⟨_, s81_z, s82_z, g3_z, hc_z⟩ := hc_z
        replace g0_z := s81_z 0 _ (by decide) rfl g0_z
        replace g1_z := s81_z 1 _ (by decide) rfl g1_z
        replace g2_z := s81_z 2 _ (by decide) rfl g2_z
        clear s81_z s82_z
        have cn := rt_cl (x := rg_v h 23 9) (by omega)
        have z := lk_c23 _ (rg_v h 23 9).toNatClampNeg _ 0 _ _ g0_z g2_z g3_z rg_v_self (by decide) (by rw [show (0 : Int32).toInt = 0 by decide]; show 0 + _ = (rg_v h 23 9).toInt; omega) n6_z hc_z
        have q := lkR_1 (seed := rg_v h 23 17) (fun q => b69_z.1 (es_z.trans q))
        rw [← es_z] at q
        exact z.trans q.symm
      · replace b69_z : s = (0 : Int32) ∧ s.toInt = (0 : Int32).toInt := b69_z
        replace hc_z := rn_vret (am_cur_of (i := (36, 1, .return_, (0, 0, 0), 0)) (by decide +kernel)) hc_z
        obtain ⟨e83_z, e84_z⟩ := hc_z
        rw [e84_z, rg_v_self]
        exact (lkR_0 (es_z.symm.trans b69_z.1)).symm
    · replace b68_z : i.toInt < (rg_v h 23 9).toInt := b68_z
      replace hc_z := rn_iload_n (am_cur_of (i := (12, 1, .iload_n 1, (0, 0, 0), 0)) (by decide +kernel)) g1_z hc_z
      replace hc_z := rn_aload_n (am_cur_of (i := (13, 1, .aload_n 0, (0, 0, 0), 0)) (by decide +kernel)) g0_z hc_z
      replace hc_z := rn_getR (x := 27) (am_cur_of (i := (14, 3, .getfield 24, (1, 10, 287), 0)) (by decide +kernel)) (by decide +kernel) hc_z
      replace hc_z := rn_iload_n (am_cur_of (i := (17, 1, .iload_n 2, (0, 0, 0), 0)) (by decide +kernel)) g2_z hc_z
      replace hc_z := rn_iaload (N := 6) (q := i.toNatClampNeg) (v := rg_v h 27 i.toNatClampNeg) (am_cur_of (i := (18, 1, .iaload, (0, 0, 0), 0)) (by decide +kernel)) (by decide +kernel) rfl rfl hc_z
      obtain ⟨p85_z, hc_z⟩ := hc_z
      replace hc_z := rn_iadd (w := s + (rg_v h 27 i.toNatClampNeg)) (am_cur_of (i := (19, 1, .iadd, (0, 0, 0), 0)) (by decide +kernel)) rfl hc_z
      replace hc_z := rn_istore_n (am_cur_of (i := (20, 1, .istore_n 1, (0, 0, 0), 0)) (by decide +kernel)) hc_z
      obtain ⟨_, s86_z, s87_z, g1_z, hc_z⟩ := hc_z
      replace g0_z := s86_z 0 _ (by decide) rfl g0_z
      replace g2_z := s86_z 2 _ (by decide) rfl g2_z
      clear s86_z s87_z
      replace hc_z := rn_iinc (w := i + 1) (am_cur_of (i := (21, 3, .iinc 2 1, (0, 0, 0), 0)) (by decide +kernel)) g2_z rfl hc_z
      obtain ⟨_, s88_z, s89_z, g2_z, hc_z⟩ := hc_z
      replace g0_z := s88_z 0 _ (by decide) rfl g0_z
      replace g1_z := s88_z 1 _ (by decide) rfl g1_z
      clear s88_z s89_z
      replace hc_z := rn_gotoL (am_cur_of (i := (24, 3, .goto (-20), (4, 0, 0), 0)) (by decide +kernel)) hc_z
      have c1_z := rt_c1 i0_z (by omega)
      have ci_z := rt_cl i0_z
      have cj := rt_cl (x := i + 1) (by omega)
      exact ih_z _ (i + 1) _ _ g0_z g1_z g2_z (by rw [show (i + 1).toNatClampNeg = i.toNatClampNeg + 1 by omega, es_z]; rfl) (by omega) (by omega) n6_z hc_z
theorem lk_54_23 {n : Nat} {r : Option Value} {h h' : am_H} (n0_z : 0 ≤ (rg_v h 23 9).toInt) (n6_z : (rg_v h 23 9).toInt ≤ 6) (hc_z : rn n am_m54 0 (lv_args 0 [.ref 23]) [] h r h') : rg_v h' 23 18 = lkR (fun t => rg_v h 27 t) (rg_v h 23 9).toNatClampNeg (rg_v h 23 17) := by
  have g0_z : am_get (lv_args 0 [.ref 23]) 0 = some (.ref 23) := rfl
  replace hc_z := rn_iconst (w := 0) (am_cur_of (i := (0, 1, .iconst 0, (0, 0, 0), 0)) (by decide +kernel)) (by decide) hc_z
  replace hc_z := rn_istore_n (am_cur_of (i := (1, 1, .istore_n 1, (0, 0, 0), 0)) (by decide +kernel)) hc_z
  obtain ⟨_, s90_z, s91_z, g1_z, hc_z⟩ := hc_z
  replace g0_z := s90_z 0 _ (by decide) rfl g0_z
  clear s90_z s91_z
  replace hc_z := rn_iconst (w := 0) (am_cur_of (i := (2, 1, .iconst 0, (0, 0, 0), 0)) (by decide +kernel)) (by decide) hc_z
  replace hc_z := rn_istore_n (am_cur_of (i := (3, 1, .istore_n 2, (0, 0, 0), 0)) (by decide +kernel)) hc_z
  obtain ⟨_, s92_z, s93_z, g2_z, hc_z⟩ := hc_z
  replace g0_z := s92_z 0 _ (by decide) rfl g0_z
  replace g1_z := s92_z 1 _ (by decide) rfl g1_z
  clear s92_z s93_z
  exact lk_s23 _ 0 0 _ _ g0_z g1_z g2_z rfl (by decide) (by rw [show (0 : Int32).toInt = 0 by decide]; exact n0_z) n6_z hc_z
theorem lk_e {n : Nat} {ls : am_L} {r : Option Value} {g g' : am_H} (g0_z : am_get ls 0 = some (.ref 164)) (hm_z : rn n am_m146 74 ls [] g r g') : rg_v g' 164 58 = rg_v g 164 58 := by
  replace hm_z := rn_aload_n (am_cur_of (i := (124, 1, .aload_n 0, (0, 0, 0), 0)) (by decide +kernel)) g0_z hm_z
  replace hm_z := rn_iconst (w := 0) (am_cur_of (i := (125, 1, .iconst 0, (0, 0, 0), 0)) (by decide +kernel)) (by decide) hm_z
  replace hm_z := rn_put (am_cur_of (i := (126, 3, .putfield 368, (12, 73, 1457), 0)) (by decide +kernel)) (by decide +kernel) hm_z
  replace hm_z := rn_aload_n (am_cur_of (i := (129, 1, .aload_n 0, (0, 0, 0), 0)) (by decide +kernel)) g0_z hm_z
  replace hm_z := rn_iconst (w := (-1)) (am_cur_of (i := (130, 1, .iconst (-1), (0, 0, 0), 0)) (by decide +kernel)) (by decide) hm_z
  replace hm_z := rn_put (am_cur_of (i := (131, 3, .putfield 118, (12, 74, 1458), 0)) (by decide +kernel)) (by decide +kernel) hm_z
  replace hm_z := rn_aload_n (am_cur_of (i := (134, 1, .aload_n 0, (0, 0, 0), 0)) (by decide +kernel)) g0_z hm_z
  replace hm_z := rn_iconst (w := 0) (am_cur_of (i := (135, 1, .iconst 0, (0, 0, 0), 0)) (by decide +kernel)) (by decide) hm_z
  replace hm_z := rn_put (am_cur_of (i := (136, 3, .putfield 371, (12, 77, 1461), 0)) (by decide +kernel)) (by decide +kernel) hm_z
  replace hm_z := rn_aload_n (am_cur_of (i := (139, 1, .aload_n 0, (0, 0, 0), 0)) (by decide +kernel)) g0_z hm_z
  replace hm_z := rn_iconst (w := 0) (am_cur_of (i := (140, 1, .iconst 0, (0, 0, 0), 0)) (by decide +kernel)) (by decide) hm_z
  replace hm_z := rn_put (am_cur_of (i := (141, 3, .putfield 374, (12, 79, 1463), 0)) (by decide +kernel)) (by decide +kernel) hm_z
  replace hm_z := rn_vret (am_cur_of (i := (144, 1, .return_, (0, 0, 0), 0)) (by decide +kernel)) hm_z
  obtain ⟨e94_z, e95_z⟩ := hm_z
  rw [e95_z]
  rfl
theorem lk_148 {n : Nat} {r : Option Value} {g g' : am_H} {s : Int32} (hm_z : rn n am_m148 0 (lv_args 0 [.ref 164, .int s]) [] g r g') : ¬ s.toInt64 = 0 ∧ r = some (.int ((((rg_l g 164 59 * 1103515245) + 12345) &&& 2147483647) / 65536 - (((rg_l g 164 59 * 1103515245) + 12345) &&& 2147483647) / 65536 / s.toInt64 * s.toInt64).toInt32) ∧ g' = am_up g 164 59 (.long (((rg_l g 164 59 * 1103515245) + 12345) &&& 2147483647)) := by
  have g0_z : am_get (lv_args 0 [.ref 164, .int s]) 0 = some (.ref 164) := rfl
  have g1_z : am_get (lv_args 0 [.ref 164, .int s]) 1 = some (.int s) := rfl
  replace hm_z := rn_aload_n (am_cur_of (i := (0, 1, .aload_n 0, (0, 0, 0), 0)) (by decide +kernel)) g0_z hm_z
  replace hm_z := rn_aload_n (am_cur_of (i := (1, 1, .aload_n 0, (0, 0, 0), 0)) (by decide +kernel)) g0_z hm_z
  replace hm_z := rn_getL (v := rg_l g 164 59) (am_cur_of (i := (2, 3, .getfield 358, (12, 59, 1443), 0)) (by decide +kernel)) (by decide +kernel) rfl hm_z
  replace hm_z := rn_ldc2 (w := 1103515245) (am_cur_of (i := (5, 3, .ldc2_w 377, (0, 0, 1380), 1103515245)) (by decide +kernel)) (by decide) hm_z
  replace hm_z := rn_lmul (w := (rg_l g 164 59) * 1103515245) (am_cur_of (i := (8, 1, .lmul, (0, 0, 0), 0)) (by decide +kernel)) rfl hm_z
  replace hm_z := rn_ldc2 (w := 12345) (am_cur_of (i := (9, 3, .ldc2_w 379, (0, 0, 1381), 12345)) (by decide +kernel)) (by decide) hm_z
  replace hm_z := rn_ladd (w := ((rg_l g 164 59) * 1103515245) + 12345) (am_cur_of (i := (12, 1, .ladd, (0, 0, 0), 0)) (by decide +kernel)) rfl hm_z
  replace hm_z := rn_ldc2 (w := 2147483647) (am_cur_of (i := (13, 3, .ldc2_w 381, (0, 0, 1382), 2147483647)) (by decide +kernel)) (by decide) hm_z
  replace hm_z := rn_land (w := (((rg_l g 164 59) * 1103515245) + 12345) &&& 2147483647) (am_cur_of (i := (16, 1, .land, (0, 0, 0), 0)) (by decide +kernel)) rfl hm_z
  replace hm_z := rn_put (am_cur_of (i := (17, 3, .putfield 358, (12, 59, 1443), 0)) (by decide +kernel)) (by decide +kernel) hm_z
  replace hm_z := rn_aload_n (am_cur_of (i := (20, 1, .aload_n 0, (0, 0, 0), 0)) (by decide +kernel)) g0_z hm_z
  replace hm_z := rn_getL (v := (((rg_l g 164 59) * 1103515245) + 12345) &&& 2147483647) (am_cur_of (i := (21, 3, .getfield 358, (12, 59, 1443), 0)) (by decide +kernel)) (by decide +kernel) (show rg_l (am_up g 164 59 (.long ((((rg_l g 164 59) * 1103515245) + 12345) &&& 2147483647))) 164 59 = (((rg_l g 164 59) * 1103515245) + 12345) &&& 2147483647 from rfl) hm_z
  replace hm_z := rn_ldc2 (w := 65536) (am_cur_of (i := (24, 3, .ldc2_w 383, (0, 0, 1383), 65536)) (by decide +kernel)) (by decide) hm_z
  replace hm_z := rn_ldiv (w := ((((rg_l g 164 59) * 1103515245) + 12345) &&& 2147483647) / 65536) (am_cur_of (i := (27, 1, .ldiv, (0, 0, 0), 0)) (by decide +kernel)) rfl hm_z
  obtain ⟨d96_z, hm_z⟩ := hm_z
  replace hm_z := rn_iload_n (am_cur_of (i := (28, 1, .iload_n 1, (0, 0, 0), 0)) (by decide +kernel)) g1_z hm_z
  replace hm_z := rn_i2l (w := s.toInt64) (am_cur_of (i := (29, 1, .i2l, (0, 0, 0), 0)) (by decide +kernel)) rfl hm_z
  replace hm_z := rn_lrem (w := (((((rg_l g 164 59) * 1103515245) + 12345) &&& 2147483647) / 65536) - (((((rg_l g 164 59) * 1103515245) + 12345) &&& 2147483647) / 65536) / s.toInt64 * s.toInt64) (am_cur_of (i := (30, 1, .lrem, (0, 0, 0), 0)) (by decide +kernel)) rfl hm_z
  obtain ⟨d97_z, hm_z⟩ := hm_z
  replace hm_z := rn_l2i (w := ((((((rg_l g 164 59) * 1103515245) + 12345) &&& 2147483647) / 65536) - (((((rg_l g 164 59) * 1103515245) + 12345) &&& 2147483647) / 65536) / s.toInt64 * s.toInt64).toInt32) (am_cur_of (i := (31, 1, .l2i, (0, 0, 0), 0)) (by decide +kernel)) rfl hm_z
  replace hm_z := rn_iret (am_cur_of (i := (32, 1, .ireturn, (0, 0, 0), 0)) (by decide +kernel)) hm_z
  obtain ⟨e98_z, e99_z⟩ := hm_z
  exact ⟨d97_z, e98_z, e99_z⟩
theorem lk_w {r : Option Value} {g' : am_H} : ∀ (f k : Nat) (x i : Int32) (ls : am_L) (g : am_H), am_get ls 0 = some (.ref 164) → am_get ls 2 = some (.int x) → rg_v g 164 58 = i → 0 ≤ i.toInt → (∀ t, t < 6 → 0 ≤ (rg_v g 173 t).toInt ∧ (rg_v g 173 t).toInt ≤ 99) → 0 ≤ x.toInt → x.toInt < lkT (fun t => rg_v g 173 t) k i.toNatClampNeg → i.toInt + k ≤ 6 → rn f am_m146 52 ls [] g r g' → rg_v g' 164 58 = lkF (fun t => rg_v g 173 t) k i x := by
  intro f
  induction f with
  | zero => intro k x i ls g g0_z g2_z ei i0_z R x0_z xT ik hm_z; exact absurd hm_z rn_0
  | succ f ih_z =>
    intro k x i ls g g0_z g2_z ei i0_z R x0_z xT ik hm_z
    have ci_z := rt_cl i0_z
    have c1_z := rt_c1 i0_z (by omega)
    have cj := rt_cl (x := i + 1) (by omega)
    obtain ⟨k, rfl⟩ : ∃ k2_z, k = k2_z + 1 := by
      match k, xT with
      | 0, xT => exact absurd (show x.toInt < 0 from xT) (by omega)
      | k + 1, _ => exact ⟨k, rfl⟩
    have Ri := R i.toNatClampNeg (by omega)
    replace xT : x.toInt < (rg_v g 173 i.toNatClampNeg).toInt + lkT (fun t => rg_v g 173 t) k (i.toNatClampNeg + 1) := xT
    have xs := ab_32 x
    have sb := ab_isub (x := x) (y := rg_v g 173 i.toNatClampNeg) (by omega) (by omega)
    replace hm_z := rn_iload_n (am_cur_of (i := (86, 1, .iload_n 2, (0, 0, 0), 0)) (by decide +kernel)) g2_z hm_z
    replace hm_z := rn_aload_n (am_cur_of (i := (87, 1, .aload_n 0, (0, 0, 0), 0)) (by decide +kernel)) g0_z hm_z
    replace hm_z := rn_getR (x := 173) (am_cur_of (i := (88, 3, .getfield 39, (12, 28, 1412), 0)) (by decide +kernel)) (by decide +kernel) hm_z
    replace hm_z := rn_aload_n (am_cur_of (i := (91, 1, .aload_n 0, (0, 0, 0), 0)) (by decide +kernel)) g0_z hm_z
    replace hm_z := rn_getI (v := i) (am_cur_of (i := (92, 3, .getfield 362, (12, 58, 1442), 0)) (by decide +kernel)) (by decide +kernel) ei hm_z
    replace hm_z := rn_iaload (N := 12) (q := i.toNatClampNeg) (v := rg_v g 173 i.toNatClampNeg) (am_cur_of (i := (95, 1, .iaload, (0, 0, 0), 0)) (by decide +kernel)) (by decide +kernel) rfl rfl hm_z
    obtain ⟨p100_z, hm_z⟩ := hm_z
    replace hm_z := rn_cmp (am_cur_of (i := (96, 3, .if_icmp .lt 28, (74, 0, 0), 0)) (by decide +kernel)) hm_z
    rcases hm_z with ⟨b101_z, hm_z⟩ | ⟨b101_z, hm_z⟩
    · replace b101_z : x.toInt < (rg_v g 173 i.toNatClampNeg).toInt := b101_z
      rw [lk_e g0_z hm_z, ei]
      exact (lkF_1 (w := fun t => rg_v g 173 t) (show (x - rg_v g 173 i.toNatClampNeg).toInt < 0 by omega)).symm
    · replace b101_z : (rg_v g 173 i.toNatClampNeg).toInt ≤ x.toInt := b101_z
      replace hm_z := rn_iload_n (am_cur_of (i := (99, 1, .iload_n 2, (0, 0, 0), 0)) (by decide +kernel)) g2_z hm_z
      replace hm_z := rn_aload_n (am_cur_of (i := (100, 1, .aload_n 0, (0, 0, 0), 0)) (by decide +kernel)) g0_z hm_z
      replace hm_z := rn_getR (x := 173) (am_cur_of (i := (101, 3, .getfield 39, (12, 28, 1412), 0)) (by decide +kernel)) (by decide +kernel) hm_z
      replace hm_z := rn_aload_n (am_cur_of (i := (104, 1, .aload_n 0, (0, 0, 0), 0)) (by decide +kernel)) g0_z hm_z
      replace hm_z := rn_getI (v := i) (am_cur_of (i := (105, 3, .getfield 362, (12, 58, 1442), 0)) (by decide +kernel)) (by decide +kernel) ei hm_z
      replace hm_z := rn_iaload (N := 12) (q := i.toNatClampNeg) (v := rg_v g 173 i.toNatClampNeg) (am_cur_of (i := (108, 1, .iaload, (0, 0, 0), 0)) (by decide +kernel)) (by decide +kernel) rfl rfl hm_z
      obtain ⟨p102_z, hm_z⟩ := hm_z
      replace hm_z := rn_isub (w := x - (rg_v g 173 i.toNatClampNeg)) (am_cur_of (i := (109, 1, .isub, (0, 0, 0), 0)) (by decide +kernel)) rfl hm_z
      replace hm_z := rn_istore_n (am_cur_of (i := (110, 1, .istore_n 2, (0, 0, 0), 0)) (by decide +kernel)) hm_z
      obtain ⟨_, s103_z, s104_z, g2_z, hm_z⟩ := hm_z
      replace g0_z := s103_z 0 _ (by decide) rfl g0_z
      clear s103_z s104_z
      replace hm_z := rn_aload_n (am_cur_of (i := (111, 1, .aload_n 0, (0, 0, 0), 0)) (by decide +kernel)) g0_z hm_z
      replace hm_z := rn_dup (am_cur_of (i := (112, 1, .dup, (0, 0, 0), 0)) (by decide +kernel)) hm_z
      replace hm_z := rn_getI (v := i) (am_cur_of (i := (113, 3, .getfield 362, (12, 58, 1442), 0)) (by decide +kernel)) (by decide +kernel) ei hm_z
      replace hm_z := rn_iconst (w := 1) (am_cur_of (i := (116, 1, .iconst 1, (0, 0, 0), 0)) (by decide +kernel)) (by decide) hm_z
      replace hm_z := rn_iadd (w := i + 1) (am_cur_of (i := (117, 1, .iadd, (0, 0, 0), 0)) (by decide +kernel)) rfl hm_z
      replace hm_z := rn_put (am_cur_of (i := (118, 3, .putfield 362, (12, 58, 1442), 0)) (by decide +kernel)) (by decide +kernel) hm_z
      replace hm_z := rn_gotoL (am_cur_of (i := (121, 3, .goto (-35), (52, 0, 0), 0)) (by decide +kernel)) hm_z
      refine (ih_z k _ (i + 1) _ _ g0_z g2_z rg_v_self (by omega) R (by omega) ?_ (by omega) hm_z).trans (lkF_2 (w := fun t => rg_v g 173 t) (show ¬ (x - rg_v g 173 i.toNatClampNeg).toInt < 0 by omega)).symm
      rw [show (i + 1).toNatClampNeg = i.toNatClampNeg + 1 by omega]
      show _ < lkT (fun t => rg_v g 173 t) k (i.toNatClampNeg + 1)
      omega
theorem lk_ms {r : Option Value} {g' : am_H} : ∀ (f : Nat) (s i seed : Int32) (ls : am_L) (g : am_H), am_get ls 0 = some (.ref 164) → am_get ls 1 = some (.int s) → am_get ls 2 = some (.int i) → s = lkS (fun t => rg_v g 173 t) i.toNatClampNeg → 0 ≤ i.toInt → i.toInt ≤ (rg_v g 164 14).toInt → (rg_v g 164 14).toInt ≤ 6 → (∀ t, t < 6 → 0 ≤ (rg_v g 173 t).toInt ∧ (rg_v g 173 t).toInt ≤ 99) → rg_l g 164 59 = seed.toInt64 → rn f am_m146 32 ls [] g r g' → rg_v g' 164 58 = lkR (fun t => rg_v g 173 t) (rg_v g 164 14).toNatClampNeg seed := by
  intro f
  induction f with
  | zero => intro s i seed ls g g0_z g1_z g2_z es_z i0_z ik n6_z R el hm_z; exact absurd hm_z rn_0
  | succ f ih_z =>
    intro s i seed ls g g0_z g1_z g2_z es_z i0_z ik n6_z R el hm_z
    replace hm_z := rn_iload_n (am_cur_of (i := (52, 1, .iload_n 2, (0, 0, 0), 0)) (by decide +kernel)) g2_z hm_z
    replace hm_z := rn_aload_n (am_cur_of (i := (53, 1, .aload_n 0, (0, 0, 0), 0)) (by decide +kernel)) g0_z hm_z
    replace hm_z := rn_getI (v := rg_v g 164 14) (am_cur_of (i := (54, 3, .getfield 225, (12, 14, 1398), 0)) (by decide +kernel)) (by decide +kernel) rfl hm_z
    replace hm_z := rn_cmp (am_cur_of (i := (57, 3, .if_icmp .ge 18, (45, 0, 0), 0)) (by decide +kernel)) hm_z
    rcases hm_z with ⟨b105_z, hm_z⟩ | ⟨b105_z, hm_z⟩
    · replace b105_z : (rg_v g 164 14).toInt ≤ i.toInt := b105_z
      replace hm_z := rn_aload_n (am_cur_of (i := (75, 1, .aload_n 0, (0, 0, 0), 0)) (by decide +kernel)) g0_z hm_z
      replace hm_z := rn_iload_n (am_cur_of (i := (76, 1, .iload_n 1, (0, 0, 0), 0)) (by decide +kernel)) g1_z hm_z
      replace hm_z := rn_callV (M' := am_m148) (o := 164) (ar := [.int s]) (rest := []) (L := lv_args 0 [.ref 164, .int s]) (am_cur_of (i := (77, 3, .invokevirtual 365, (148, 1376, 3), 0)) (by decide +kernel)) rfl rfl rfl rfl hm_z
      obtain ⟨r106_z, h107_z, q108_z, hm_z⟩ := hm_z
      have en : i = rg_v g 164 14 := Int32.toInt_inj.mp (by omega)
      rw [en] at es_z
      have cn := rt_cl (x := rg_v g 164 14) (by omega)
      obtain ⟨nz, rr, hh⟩ := lk_148 q108_z
      have sz := lk_64 nz
      have sr := lkS_r R (rg_v g 164 14).toNatClampNeg (by omega)
      rw [← es_z] at sr
      have s1_z : 1 ≤ s.toInt := by
        by_cases q : s.toInt = 0
        · exact absurd (Int32.toInt_inj.mp (q.trans (show (0 : Int) = (0 : Int32).toInt by decide))) sz
        · omega
      rw [el] at rr
      obtain ⟨en1_z, en2_z, en3_z⟩ := lk_num (seed := seed) s1_z
      unfold lkD at en1_z
      rw [en1_z] at rr
      subst rr
      subst hh
      replace hm_z : rn _ _ _ _ [.int (lkN seed s)] _ _ _ := hm_z
      replace hm_z := rn_istore_n (am_cur_of (i := (80, 1, .istore_n 2, (0, 0, 0), 0)) (by decide +kernel)) hm_z
      obtain ⟨_, s109_z, s110_z, g2_z, hm_z⟩ := hm_z
      replace g0_z := s109_z 0 _ (by decide) rfl g0_z
      replace g1_z := s109_z 1 _ (by decide) rfl g1_z
      clear s109_z s110_z
      replace hm_z := rn_aload_n (am_cur_of (i := (81, 1, .aload_n 0, (0, 0, 0), 0)) (by decide +kernel)) g0_z hm_z
      replace hm_z := rn_iconst (w := 0) (am_cur_of (i := (82, 1, .iconst 0, (0, 0, 0), 0)) (by decide +kernel)) (by decide) hm_z
      replace hm_z := rn_put (am_cur_of (i := (83, 3, .putfield 362, (12, 58, 1442), 0)) (by decide +kernel)) (by decide +kernel) hm_z
      have z0_z : (0 : Int32).toInt = 0 := by decide
      have tz := lkT_S R (rg_v g 164 14).toNatClampNeg 0 (by omega)
      rw [show 0 + (rg_v g 164 14).toNatClampNeg = (rg_v g 164 14).toNatClampNeg by omega, ← es_z] at tz
      have tz0_z : (lkS (rg_v g 173) 0).toInt = 0 := z0_z
      have q := lkR_1 (seed := seed) (fun q => sz (es_z.trans q))
      rw [← es_z] at q
      refine (lk_w _ (rg_v g 164 14).toNatClampNeg _ 0 _ (am_up (am_up g 164 59 (.long (((rg_l g 164 59 * 1103515245) + 12345) &&& 2147483647))) 164 58 (.int 0)) g0_z g2_z rg_v_self (by decide) R en2_z ?_ (by rw [z0_z]; omega) hm_z).trans q.symm
      show _ < lkT (rg_v g 173) (rg_v g 164 14).toNatClampNeg 0
      omega
    · replace b105_z : i.toInt < (rg_v g 164 14).toInt := b105_z
      replace hm_z := rn_iload_n (am_cur_of (i := (60, 1, .iload_n 1, (0, 0, 0), 0)) (by decide +kernel)) g1_z hm_z
      replace hm_z := rn_aload_n (am_cur_of (i := (61, 1, .aload_n 0, (0, 0, 0), 0)) (by decide +kernel)) g0_z hm_z
      replace hm_z := rn_getR (x := 173) (am_cur_of (i := (62, 3, .getfield 39, (12, 28, 1412), 0)) (by decide +kernel)) (by decide +kernel) hm_z
      replace hm_z := rn_iload_n (am_cur_of (i := (65, 1, .iload_n 2, (0, 0, 0), 0)) (by decide +kernel)) g2_z hm_z
      replace hm_z := rn_iaload (N := 12) (q := i.toNatClampNeg) (v := rg_v g 173 i.toNatClampNeg) (am_cur_of (i := (66, 1, .iaload, (0, 0, 0), 0)) (by decide +kernel)) (by decide +kernel) rfl rfl hm_z
      obtain ⟨p111_z, hm_z⟩ := hm_z
      replace hm_z := rn_iadd (w := s + (rg_v g 173 i.toNatClampNeg)) (am_cur_of (i := (67, 1, .iadd, (0, 0, 0), 0)) (by decide +kernel)) rfl hm_z
      replace hm_z := rn_istore_n (am_cur_of (i := (68, 1, .istore_n 1, (0, 0, 0), 0)) (by decide +kernel)) hm_z
      obtain ⟨_, s112_z, s113_z, g1_z, hm_z⟩ := hm_z
      replace g0_z := s112_z 0 _ (by decide) rfl g0_z
      replace g2_z := s112_z 2 _ (by decide) rfl g2_z
      clear s112_z s113_z
      replace hm_z := rn_iinc (w := i + 1) (am_cur_of (i := (69, 3, .iinc 2 1, (0, 0, 0), 0)) (by decide +kernel)) g2_z rfl hm_z
      obtain ⟨_, s114_z, s115_z, g2_z, hm_z⟩ := hm_z
      replace g0_z := s114_z 0 _ (by decide) rfl g0_z
      replace g1_z := s114_z 1 _ (by decide) rfl g1_z
      clear s114_z s115_z
      replace hm_z := rn_gotoL (am_cur_of (i := (72, 3, .goto (-20), (32, 0, 0), 0)) (by decide +kernel)) hm_z
      have c1_z := rt_c1 i0_z (by omega)
      have ci_z := rt_cl i0_z
      have cj := rt_cl (x := i + 1) (by omega)
      exact ih_z _ (i + 1) seed _ _ g0_z g1_z g2_z (by rw [show (i + 1).toNatClampNeg = i.toNatClampNeg + 1 by omega, es_z]; rfl) (by omega) (by omega) n6_z R el hm_z
theorem lk_b {n : Nat} {r : Option Value} {g g' : am_H} (R : (∀ t, t < 6 → 0 ≤ (rg_v g 173 t).toInt ∧ (rg_v g 173 t).toInt ≤ 99)) (n0_z : 0 ≤ (rg_v g 164 14).toInt) (n6_z : (rg_v g 164 14).toInt ≤ 6) (hm_z : rn n am_m146 0 (lv_args 0 [.ref 164]) [] g r g') : rg_v g' 164 58 = lkR (fun t => rg_v g 173 t) (rg_v g 164 14).toNatClampNeg (rg_v g 168 5) := by
  have z0_z : (0 : Int32).toInt = 0 := by decide
  have g0_z : am_get (lv_args 0 [.ref 164]) 0 = some (.ref 164) := rfl
  replace hm_z := rn_aload_n (am_cur_of (i := (0, 1, .aload_n 0, (0, 0, 0), 0)) (by decide +kernel)) g0_z hm_z
  replace hm_z := rn_iconst (w := 0) (am_cur_of (i := (1, 1, .iconst 0, (0, 0, 0), 0)) (by decide +kernel)) (by decide) hm_z
  replace hm_z := rn_callV (M' := am_m147) (o := 164) (ar := [.int 0]) (rest := []) (L := lv_args 0 [.ref 164, .int 0]) (am_cur_of (i := (2, 3, .invokevirtual 346, (147, 1372, 3), 0)) (by decide +kernel)) rfl rfl rfl rfl hm_z
  obtain ⟨r116_z, h117_z, q118_z, hm_z⟩ := hm_z
  have vo := rn_void rfl q118_z
  subst vo
  have za := kt_147 q118_z
  have zw : ∀ t, t < 6 → rg_v h117_z 173 t = rg_v g 173 t := fun t ht => za 173 t (zmB_lt (n := 6) rfl ht)
  have z14_z : rg_v h117_z 164 14 = rg_v g 164 14 := za 164 14 (by decide)
  have z5_z : rg_v h117_z 168 5 = rg_v g 168 5 := za 168 5 (by decide)
  have cn := rt_cl n0_z
  replace hm_z : rn _ _ _ _ [] _ _ _ := hm_z
  replace hm_z := rn_aload_n (am_cur_of (i := (5, 1, .aload_n 0, (0, 0, 0), 0)) (by decide +kernel)) g0_z hm_z
  replace hm_z := rn_iconst (w := 0) (am_cur_of (i := (6, 1, .iconst 0, (0, 0, 0), 0)) (by decide +kernel)) (by decide) hm_z
  replace hm_z := rn_put (am_cur_of (i := (7, 3, .putfield 349, (12, 57, 1441), 0)) (by decide +kernel)) (by decide +kernel) hm_z
  replace hm_z := rn_aload_n (am_cur_of (i := (10, 1, .aload_n 0, (0, 0, 0), 0)) (by decide +kernel)) g0_z hm_z
  replace hm_z := rn_iconst (w := 0) (am_cur_of (i := (11, 1, .iconst 0, (0, 0, 0), 0)) (by decide +kernel)) (by decide) hm_z
  replace hm_z := rn_put (am_cur_of (i := (12, 3, .putfield 352, (12, 60, 1444), 0)) (by decide +kernel)) (by decide +kernel) hm_z
  replace hm_z := rn_aload_n (am_cur_of (i := (15, 1, .aload_n 0, (0, 0, 0), 0)) (by decide +kernel)) g0_z hm_z
  replace hm_z := rn_iconst (w := 0) (am_cur_of (i := (16, 1, .iconst 0, (0, 0, 0), 0)) (by decide +kernel)) (by decide) hm_z
  replace hm_z := rn_put (am_cur_of (i := (17, 3, .putfield 355, (12, 61, 1445), 0)) (by decide +kernel)) (by decide +kernel) hm_z
  replace hm_z := rn_aload_n (am_cur_of (i := (20, 1, .aload_n 0, (0, 0, 0), 0)) (by decide +kernel)) g0_z hm_z
  replace hm_z := rn_iconst (w := (-1)) (am_cur_of (i := (21, 1, .iconst (-1), (0, 0, 0), 0)) (by decide +kernel)) (by decide) hm_z
  replace hm_z := rn_put (am_cur_of (i := (22, 3, .putfield 106, (12, 62, 1446), 0)) (by decide +kernel)) (by decide +kernel) hm_z
  replace hm_z := rn_aload_n (am_cur_of (i := (25, 1, .aload_n 0, (0, 0, 0), 0)) (by decide +kernel)) g0_z hm_z
  replace hm_z := rn_aload_n (am_cur_of (i := (26, 1, .aload_n 0, (0, 0, 0), 0)) (by decide +kernel)) g0_z hm_z
  replace hm_z := rn_getR (x := 168) (am_cur_of (i := (27, 3, .getfield 24, (12, 23, 1407), 0)) (by decide +kernel)) (by decide +kernel) hm_z
  replace hm_z := rn_iconst (w := 5) (am_cur_of (i := (30, 1, .iconst 5, (0, 0, 0), 0)) (by decide +kernel)) (by decide) hm_z
  replace hm_z := rn_iaload (N := 12) (q := 5) (v := rg_v g 168 5) (am_cur_of (i := (31, 1, .iaload, (0, 0, 0), 0)) (by decide +kernel)) (by decide +kernel) rfl (show rg_v (am_up (am_up (am_up (am_up h117_z 164 57 (.int 0)) 164 60 (.int 0)) 164 61 (.int 0)) 164 62 (.int (-1))) 168 5 = rg_v g 168 5 from z5_z) hm_z
  obtain ⟨p119_z, hm_z⟩ := hm_z
  replace hm_z := rn_i2l (w := (rg_v g 168 5).toInt64) (am_cur_of (i := (32, 1, .i2l, (0, 0, 0), 0)) (by decide +kernel)) rfl hm_z
  replace hm_z := rn_put (am_cur_of (i := (33, 3, .putfield 358, (12, 59, 1443), 0)) (by decide +kernel)) (by decide +kernel) hm_z
  replace hm_z := rn_aload_n (am_cur_of (i := (36, 1, .aload_n 0, (0, 0, 0), 0)) (by decide +kernel)) g0_z hm_z
  replace hm_z := rn_iconst (w := (-1)) (am_cur_of (i := (37, 1, .iconst (-1), (0, 0, 0), 0)) (by decide +kernel)) (by decide) hm_z
  replace hm_z := rn_put (am_cur_of (i := (38, 3, .putfield 362, (12, 58, 1442), 0)) (by decide +kernel)) (by decide +kernel) hm_z
  replace hm_z := rn_aload_n (am_cur_of (i := (41, 1, .aload_n 0, (0, 0, 0), 0)) (by decide +kernel)) g0_z hm_z
  replace hm_z := rn_getI (v := rg_v g 164 14) (am_cur_of (i := (42, 3, .getfield 225, (12, 14, 1398), 0)) (by decide +kernel)) (by decide +kernel) (show rg_v (am_up (am_up (am_up (am_up (am_up (am_up h117_z 164 57 (.int 0)) 164 60 (.int 0)) 164 61 (.int 0)) 164 62 (.int (-1))) 164 59 (.long ((rg_v g 168 5).toInt64))) 164 58 (.int (-1))) 164 14 = rg_v g 164 14 from z14_z) hm_z
  replace hm_z := rn_if (am_cur_of (i := (45, 3, .ifCond .le 79, (74, 0, 0), 0)) (by decide +kernel)) hm_z
  rcases hm_z with ⟨b120_z, hm_z⟩ | ⟨b120_z, hm_z⟩
  · replace b120_z : (rg_v g 164 14).toInt ≤ (0 : Int32).toInt := b120_z
    rw [lk_e g0_z hm_z]
    have n00_z : (rg_v g 164 14).toNatClampNeg = 0 := by
      rw [show (0 : Int32).toInt = 0 by decide] at b120_z
      omega
    rw [n00_z]
    rfl
  · replace b120_z : (0 : Int32).toInt < (rg_v g 164 14).toInt := b120_z
    replace hm_z := rn_iconst (w := 0) (am_cur_of (i := (48, 1, .iconst 0, (0, 0, 0), 0)) (by decide +kernel)) (by decide) hm_z
    replace hm_z := rn_istore_n (am_cur_of (i := (49, 1, .istore_n 1, (0, 0, 0), 0)) (by decide +kernel)) hm_z
    obtain ⟨_, s121_z, s122_z, g1_z, hm_z⟩ := hm_z
    replace g0_z := s121_z 0 _ (by decide) rfl g0_z
    clear s121_z s122_z
    replace hm_z := rn_iconst (w := 0) (am_cur_of (i := (50, 1, .iconst 0, (0, 0, 0), 0)) (by decide +kernel)) (by decide) hm_z
    replace hm_z := rn_istore_n (am_cur_of (i := (51, 1, .istore_n 2, (0, 0, 0), 0)) (by decide +kernel)) hm_z
    obtain ⟨_, s123_z, s124_z, g2_z, hm_z⟩ := hm_z
    replace g0_z := s123_z 0 _ (by decide) rfl g0_z
    replace g1_z := s123_z 1 _ (by decide) rfl g1_z
    clear s123_z s124_z
    have L := lk_ms _ 0 0 (rg_v g 168 5) _ (am_up (am_up (am_up (am_up (am_up (am_up h117_z 164 57 (.int 0)) 164 60 (.int 0)) 164 61 (.int 0)) 164 62 (.int (-1))) 164 59 (.long ((rg_v g 168 5).toInt64))) 164 58 (.int (-1))) g0_z g1_z g2_z rfl (by decide) (show (0 : Int32).toInt ≤ (rg_v h117_z 164 14).toInt by rw [z14_z]; rw [show (0 : Int32).toInt = 0 by decide]; exact n0_z) (show (rg_v h117_z 164 14).toInt ≤ 6 by rw [z14_z]; exact n6_z) (fun t ht => by
      have q := R t ht
      show 0 ≤ (rg_v h117_z 173 t).toInt ∧ (rg_v h117_z 173 t).toInt ≤ 99
      rw [zw t ht]
      exact q) rfl hm_z
    refine L.trans ?_
    show lkR (fun t => rg_v h117_z 173 t) (rg_v h117_z 164 14).toNatClampNeg (rg_v g 168 5) = _
    rw [z14_z]
    exact lkR_c (by omega) (fun t ht => zw t (by omega))
theorem lk_144 {n : Nat} {r : Option Value} {g g' : am_H} (R : (∀ t, t < 6 → 0 ≤ (rg_v g' 173 t).toInt ∧ (rg_v g' 173 t).toInt ≤ 99)) (n0_z : 0 ≤ (rg_v g' 164 14).toInt) (n6_z : (rg_v g' 164 14).toInt ≤ 6) (hm_z : rn n am_m144 0 (lv_args 0 [.ref 164]) [] g r g') : rg_v g' 164 58 = lkR (fun t => rg_v g' 173 t) (rg_v g' 164 14).toNatClampNeg (rg_v g' 168 5) := by
  have g0_z : am_get (lv_args 0 [.ref 164]) 0 = some (.ref 164) := rfl
  replace hm_z := rn_aload_n (am_cur_of (i := (0, 1, .aload_n 0, (0, 0, 0), 0)) (by decide +kernel)) g0_z hm_z
  replace hm_z := rn_aload_n (am_cur_of (i := (1, 1, .aload_n 0, (0, 0, 0), 0)) (by decide +kernel)) g0_z hm_z
  replace hm_z := rn_getI (v := rg_v g 164 17) (am_cur_of (i := (2, 3, .getfield 201, (12, 17, 1401), 0)) (by decide +kernel)) (by decide +kernel) rfl hm_z
  replace hm_z := rn_put (am_cur_of (i := (5, 3, .putfield 219, (12, 12, 1396), 0)) (by decide +kernel)) (by decide +kernel) hm_z
  replace hm_z := rn_aload_n (am_cur_of (i := (8, 1, .aload_n 0, (0, 0, 0), 0)) (by decide +kernel)) g0_z hm_z
  replace hm_z := rn_aload_n (am_cur_of (i := (9, 1, .aload_n 0, (0, 0, 0), 0)) (by decide +kernel)) g0_z hm_z
  replace hm_z := rn_getI (v := rg_v g 164 18) (am_cur_of (i := (10, 3, .getfield 204, (12, 18, 1402), 0)) (by decide +kernel)) (by decide +kernel) (show rg_v (am_up g 164 12 (.int (rg_v g 164 17))) 164 18 = rg_v g 164 18 from rfl) hm_z
  replace hm_z := rn_put (am_cur_of (i := (13, 3, .putfield 222, (12, 13, 1397), 0)) (by decide +kernel)) (by decide +kernel) hm_z
  replace hm_z := rn_aload_n (am_cur_of (i := (16, 1, .aload_n 0, (0, 0, 0), 0)) (by decide +kernel)) g0_z hm_z
  replace hm_z := rn_aload_n (am_cur_of (i := (17, 1, .aload_n 0, (0, 0, 0), 0)) (by decide +kernel)) g0_z hm_z
  replace hm_z := rn_getI (v := rg_v g 164 19) (am_cur_of (i := (18, 3, .getfield 207, (12, 19, 1403), 0)) (by decide +kernel)) (by decide +kernel) (show rg_v (am_up (am_up g 164 12 (.int (rg_v g 164 17))) 164 13 (.int (rg_v g 164 18))) 164 19 = rg_v g 164 19 from rfl) hm_z
  replace hm_z := rn_put (am_cur_of (i := (21, 3, .putfield 225, (12, 14, 1398), 0)) (by decide +kernel)) (by decide +kernel) hm_z
  replace hm_z := rn_aload_n (am_cur_of (i := (24, 1, .aload_n 0, (0, 0, 0), 0)) (by decide +kernel)) g0_z hm_z
  replace hm_z := rn_aload_n (am_cur_of (i := (25, 1, .aload_n 0, (0, 0, 0), 0)) (by decide +kernel)) g0_z hm_z
  replace hm_z := rn_getI (v := rg_v g 164 20) (am_cur_of (i := (26, 3, .getfield 210, (12, 20, 1404), 0)) (by decide +kernel)) (by decide +kernel) (show rg_v (am_up (am_up (am_up g 164 12 (.int (rg_v g 164 17))) 164 13 (.int (rg_v g 164 18))) 164 14 (.int (rg_v g 164 19))) 164 20 = rg_v g 164 20 from rfl) hm_z
  replace hm_z := rn_put (am_cur_of (i := (29, 3, .putfield 228, (12, 15, 1399), 0)) (by decide +kernel)) (by decide +kernel) hm_z
  replace hm_z := rn_aload_n (am_cur_of (i := (32, 1, .aload_n 0, (0, 0, 0), 0)) (by decide +kernel)) g0_z hm_z
  replace hm_z := rn_aload_n (am_cur_of (i := (33, 1, .aload_n 0, (0, 0, 0), 0)) (by decide +kernel)) g0_z hm_z
  replace hm_z := rn_getI (v := rg_v g 164 21) (am_cur_of (i := (34, 3, .getfield 213, (12, 21, 1405), 0)) (by decide +kernel)) (by decide +kernel) (show rg_v (am_up (am_up (am_up (am_up g 164 12 (.int (rg_v g 164 17))) 164 13 (.int (rg_v g 164 18))) 164 14 (.int (rg_v g 164 19))) 164 15 (.int (rg_v g 164 20))) 164 21 = rg_v g 164 21 from rfl) hm_z
  replace hm_z := rn_put (am_cur_of (i := (37, 3, .putfield 231, (12, 16, 1400), 0)) (by decide +kernel)) (by decide +kernel) hm_z
  replace hm_z := rn_aload_n (am_cur_of (i := (40, 1, .aload_n 0, (0, 0, 0), 0)) (by decide +kernel)) g0_z hm_z
  replace hm_z := rn_getR (x := 168) (am_cur_of (i := (41, 3, .getfield 24, (12, 23, 1407), 0)) (by decide +kernel)) (by decide +kernel) hm_z
  replace hm_z := rn_bipush (w := 6) (am_cur_of (i := (44, 2, .bipush 6, (0, 0, 0), 0)) (by decide +kernel)) (by decide) hm_z
  replace hm_z := rn_callS (M' := am_m145) (ar := [.int 6, .ref 168]) (rest := []) (L := lv_args 0 [.ref 168, .int 6]) (am_cur_of (i := (46, 3, .invokestatic 234, (145, 1365, 3), 0)) (by decide +kernel)) rfl rfl rfl rfl hm_z
  obtain ⟨r125_z, h126_z, q127_z, hm_z⟩ := hm_z
  have vo := rn_void rfl q127_z
  subst vo
  clear q127_z
  replace hm_z : rn _ _ _ _ [] _ _ _ := hm_z
  replace hm_z := rn_aload_n (am_cur_of (i := (49, 1, .aload_n 0, (0, 0, 0), 0)) (by decide +kernel)) g0_z hm_z
  replace hm_z := rn_getR (x := 169) (am_cur_of (i := (50, 3, .getfield 27, (12, 24, 1408), 0)) (by decide +kernel)) (by decide +kernel) hm_z
  replace hm_z := rn_iconst (w := 4) (am_cur_of (i := (53, 1, .iconst 4, (0, 0, 0), 0)) (by decide +kernel)) (by decide) hm_z
  replace hm_z := rn_callS (M' := am_m145) (ar := [.int 4, .ref 169]) (rest := []) (L := lv_args 0 [.ref 169, .int 4]) (am_cur_of (i := (54, 3, .invokestatic 234, (145, 1365, 3), 0)) (by decide +kernel)) rfl rfl rfl rfl hm_z
  obtain ⟨r128_z, h129_z, q130_z, hm_z⟩ := hm_z
  have vo := rn_void rfl q130_z
  subst vo
  clear q130_z
  replace hm_z : rn _ _ _ _ [] _ _ _ := hm_z
  replace hm_z := rn_aload_n (am_cur_of (i := (57, 1, .aload_n 0, (0, 0, 0), 0)) (by decide +kernel)) g0_z hm_z
  replace hm_z := rn_getR (x := 170) (am_cur_of (i := (58, 3, .getfield 30, (12, 25, 1409), 0)) (by decide +kernel)) (by decide +kernel) hm_z
  replace hm_z := rn_bipush (w := 28) (am_cur_of (i := (61, 2, .bipush 28, (0, 0, 0), 0)) (by decide +kernel)) (by decide) hm_z
  replace hm_z := rn_callS (M' := am_m145) (ar := [.int 28, .ref 170]) (rest := []) (L := lv_args 0 [.ref 170, .int 28]) (am_cur_of (i := (63, 3, .invokestatic 234, (145, 1365, 3), 0)) (by decide +kernel)) rfl rfl rfl rfl hm_z
  obtain ⟨r131_z, h132_z, q133_z, hm_z⟩ := hm_z
  have vo := rn_void rfl q133_z
  subst vo
  clear q133_z
  replace hm_z : rn _ _ _ _ [] _ _ _ := hm_z
  replace hm_z := rn_aload_n (am_cur_of (i := (66, 1, .aload_n 0, (0, 0, 0), 0)) (by decide +kernel)) g0_z hm_z
  replace hm_z := rn_getR (x := 171) (am_cur_of (i := (67, 3, .getfield 33, (12, 26, 1410), 0)) (by decide +kernel)) (by decide +kernel) hm_z
  replace hm_z := rn_bipush (w := 8) (am_cur_of (i := (70, 2, .bipush 8, (0, 0, 0), 0)) (by decide +kernel)) (by decide) hm_z
  replace hm_z := rn_callS (M' := am_m145) (ar := [.int 8, .ref 171]) (rest := []) (L := lv_args 0 [.ref 171, .int 8]) (am_cur_of (i := (72, 3, .invokestatic 234, (145, 1365, 3), 0)) (by decide +kernel)) rfl rfl rfl rfl hm_z
  obtain ⟨r134_z, h135_z, q136_z, hm_z⟩ := hm_z
  have vo := rn_void rfl q136_z
  subst vo
  clear q136_z
  replace hm_z : rn _ _ _ _ [] _ _ _ := hm_z
  replace hm_z := rn_aload_n (am_cur_of (i := (75, 1, .aload_n 0, (0, 0, 0), 0)) (by decide +kernel)) g0_z hm_z
  replace hm_z := rn_getR (x := 172) (am_cur_of (i := (76, 3, .getfield 36, (12, 27, 1411), 0)) (by decide +kernel)) (by decide +kernel) hm_z
  replace hm_z := rn_bipush (w := 8) (am_cur_of (i := (79, 2, .bipush 8, (0, 0, 0), 0)) (by decide +kernel)) (by decide) hm_z
  replace hm_z := rn_callS (M' := am_m145) (ar := [.int 8, .ref 172]) (rest := []) (L := lv_args 0 [.ref 172, .int 8]) (am_cur_of (i := (81, 3, .invokestatic 234, (145, 1365, 3), 0)) (by decide +kernel)) rfl rfl rfl rfl hm_z
  obtain ⟨r137_z, h138_z, q139_z, hm_z⟩ := hm_z
  have vo := rn_void rfl q139_z
  subst vo
  clear q139_z
  replace hm_z : rn _ _ _ _ [] _ _ _ := hm_z
  replace hm_z := rn_aload_n (am_cur_of (i := (84, 1, .aload_n 0, (0, 0, 0), 0)) (by decide +kernel)) g0_z hm_z
  replace hm_z := rn_getR (x := 173) (am_cur_of (i := (85, 3, .getfield 39, (12, 28, 1412), 0)) (by decide +kernel)) (by decide +kernel) hm_z
  replace hm_z := rn_bipush (w := 6) (am_cur_of (i := (88, 2, .bipush 6, (0, 0, 0), 0)) (by decide +kernel)) (by decide) hm_z
  replace hm_z := rn_callS (M' := am_m145) (ar := [.int 6, .ref 173]) (rest := []) (L := lv_args 0 [.ref 173, .int 6]) (am_cur_of (i := (90, 3, .invokestatic 234, (145, 1365, 3), 0)) (by decide +kernel)) rfl rfl rfl rfl hm_z
  obtain ⟨r140_z, h141_z, q142_z, hm_z⟩ := hm_z
  have vo := rn_void rfl q142_z
  subst vo
  clear q142_z
  replace hm_z : rn _ _ _ _ [] _ _ _ := hm_z
  replace hm_z := rn_aload_n (am_cur_of (i := (93, 1, .aload_n 0, (0, 0, 0), 0)) (by decide +kernel)) g0_z hm_z
  replace hm_z := rn_getR (x := 174) (am_cur_of (i := (94, 3, .getfield 42, (12, 29, 1413), 0)) (by decide +kernel)) (by decide +kernel) hm_z
  replace hm_z := rn_bipush (w := 6) (am_cur_of (i := (97, 2, .bipush 6, (0, 0, 0), 0)) (by decide +kernel)) (by decide) hm_z
  replace hm_z := rn_callS (M' := am_m145) (ar := [.int 6, .ref 174]) (rest := []) (L := lv_args 0 [.ref 174, .int 6]) (am_cur_of (i := (99, 3, .invokestatic 234, (145, 1365, 3), 0)) (by decide +kernel)) rfl rfl rfl rfl hm_z
  obtain ⟨r143_z, h144_z, q145_z, hm_z⟩ := hm_z
  have vo := rn_void rfl q145_z
  subst vo
  clear q145_z
  replace hm_z : rn _ _ _ _ [] _ _ _ := hm_z
  replace hm_z := rn_aload_n (am_cur_of (i := (102, 1, .aload_n 0, (0, 0, 0), 0)) (by decide +kernel)) g0_z hm_z
  replace hm_z := rn_getR (x := 175) (am_cur_of (i := (103, 3, .getfield 45, (12, 30, 1414), 0)) (by decide +kernel)) (by decide +kernel) hm_z
  replace hm_z := rn_iconst (w := 3) (am_cur_of (i := (106, 1, .iconst 3, (0, 0, 0), 0)) (by decide +kernel)) (by decide) hm_z
  replace hm_z := rn_callS (M' := am_m145) (ar := [.int 3, .ref 175]) (rest := []) (L := lv_args 0 [.ref 175, .int 3]) (am_cur_of (i := (107, 3, .invokestatic 234, (145, 1365, 3), 0)) (by decide +kernel)) rfl rfl rfl rfl hm_z
  obtain ⟨r146_z, h147_z, q148_z, hm_z⟩ := hm_z
  have vo := rn_void rfl q148_z
  subst vo
  clear q148_z
  replace hm_z : rn _ _ _ _ [] _ _ _ := hm_z
  replace hm_z := rn_aload_n (am_cur_of (i := (110, 1, .aload_n 0, (0, 0, 0), 0)) (by decide +kernel)) g0_z hm_z
  replace hm_z := rn_getR (x := 176) (am_cur_of (i := (111, 3, .getfield 48, (12, 31, 1415), 0)) (by decide +kernel)) (by decide +kernel) hm_z
  replace hm_z := rn_iconst (w := 3) (am_cur_of (i := (114, 1, .iconst 3, (0, 0, 0), 0)) (by decide +kernel)) (by decide) hm_z
  replace hm_z := rn_callS (M' := am_m145) (ar := [.int 3, .ref 176]) (rest := []) (L := lv_args 0 [.ref 176, .int 3]) (am_cur_of (i := (115, 3, .invokestatic 234, (145, 1365, 3), 0)) (by decide +kernel)) rfl rfl rfl rfl hm_z
  obtain ⟨r149_z, h150_z, q151_z, hm_z⟩ := hm_z
  have vo := rn_void rfl q151_z
  subst vo
  clear q151_z
  replace hm_z : rn _ _ _ _ [] _ _ _ := hm_z
  replace hm_z := rn_aload_n (am_cur_of (i := (118, 1, .aload_n 0, (0, 0, 0), 0)) (by decide +kernel)) g0_z hm_z
  replace hm_z := rn_getR (x := 177) (am_cur_of (i := (119, 3, .getfield 51, (12, 32, 1416), 0)) (by decide +kernel)) (by decide +kernel) hm_z
  replace hm_z := rn_iconst (w := 3) (am_cur_of (i := (122, 1, .iconst 3, (0, 0, 0), 0)) (by decide +kernel)) (by decide) hm_z
  replace hm_z := rn_callS (M' := am_m145) (ar := [.int 3, .ref 177]) (rest := []) (L := lv_args 0 [.ref 177, .int 3]) (am_cur_of (i := (123, 3, .invokestatic 234, (145, 1365, 3), 0)) (by decide +kernel)) rfl rfl rfl rfl hm_z
  obtain ⟨r152_z, h153_z, q154_z, hm_z⟩ := hm_z
  have vo := rn_void rfl q154_z
  subst vo
  clear q154_z
  replace hm_z : rn _ _ _ _ [] _ _ _ := hm_z
  replace hm_z := rn_iconst (w := 0) (am_cur_of (i := (126, 1, .iconst 0, (0, 0, 0), 0)) (by decide +kernel)) (by decide) hm_z
  replace hm_z := rn_istore_n (am_cur_of (i := (127, 1, .istore_n 1, (0, 0, 0), 0)) (by decide +kernel)) hm_z
  obtain ⟨_, s155_z, s156_z, g1_z, hm_z⟩ := hm_z
  replace g0_z := s155_z 0 _ (by decide) rfl g0_z
  clear s155_z s156_z
  replace hm_z := rn_iload_n (am_cur_of (i := (128, 1, .iload_n 1, (0, 0, 0), 0)) (by decide +kernel)) g1_z hm_z
  replace hm_z := rn_iconst (w := 3) (am_cur_of (i := (129, 1, .iconst 3, (0, 0, 0), 0)) (by decide +kernel)) (by decide) hm_z
  replace hm_z := rn_cmpF (am_cur_of (i := (130, 3, .if_icmp .ge 23, (77, 0, 0), 0)) (by decide +kernel)) (by decide) hm_z
  replace hm_z := rn_aload_n (am_cur_of (i := (133, 1, .aload_n 0, (0, 0, 0), 0)) (by decide +kernel)) g0_z hm_z
  replace hm_z := rn_getR (x := 178) (am_cur_of (i := (134, 3, .getfield 54, (12, 33, 1417), 0)) (by decide +kernel)) (by decide +kernel) hm_z
  replace hm_z := rn_iload_n (am_cur_of (i := (137, 1, .iload_n 1, (0, 0, 0), 0)) (by decide +kernel)) g1_z hm_z
  replace hm_z := rn_aload_n (am_cur_of (i := (138, 1, .aload_n 0, (0, 0, 0), 0)) (by decide +kernel)) g0_z hm_z
  replace hm_z := rn_getR (x := 178) (am_cur_of (i := (139, 3, .getfield 54, (12, 33, 1417), 0)) (by decide +kernel)) (by decide +kernel) hm_z
  replace hm_z := rn_iconst (w := 3) (am_cur_of (i := (142, 1, .iconst 3, (0, 0, 0), 0)) (by decide +kernel)) (by decide) hm_z
  replace hm_z := rn_iload_n (am_cur_of (i := (143, 1, .iload_n 1, (0, 0, 0), 0)) (by decide +kernel)) g1_z hm_z
  replace hm_z := rn_iadd (w := 3) (am_cur_of (i := (144, 1, .iadd, (0, 0, 0), 0)) (by decide +kernel)) (by decide) hm_z
  replace hm_z := rn_baload (N := 6) (q := 3) (v := rg_v h153_z 178 3) (am_cur_of (i := (145, 1, .baload, (0, 0, 0), 0)) (by decide +kernel)) (by decide +kernel) rfl rfl hm_z
  obtain ⟨p157_z, hm_z⟩ := hm_z
  replace hm_z := rn_bastore (N := 6) (q := 0) (am_cur_of (i := (146, 1, .bastore, (0, 0, 0), 0)) (by decide +kernel)) (by decide +kernel) rfl hm_z
  obtain ⟨p158_z, hm_z⟩ := hm_z
  replace hm_z := rn_iinc (w := 1) (am_cur_of (i := (147, 3, .iinc 1 1, (0, 0, 0), 0)) (by decide +kernel)) g1_z (by decide) hm_z
  obtain ⟨_, s159_z, s160_z, g1_z, hm_z⟩ := hm_z
  replace g0_z := s159_z 0 _ (by decide) rfl g0_z
  clear s159_z s160_z
  replace hm_z := rn_goto (am_cur_of (i := (150, 3, .goto (-22), (62, 0, 0), 0)) (by decide +kernel)) hm_z
  replace hm_z := rn_iload_n (am_cur_of (i := (128, 1, .iload_n 1, (0, 0, 0), 0)) (by decide +kernel)) g1_z hm_z
  replace hm_z := rn_iconst (w := 3) (am_cur_of (i := (129, 1, .iconst 3, (0, 0, 0), 0)) (by decide +kernel)) (by decide) hm_z
  replace hm_z := rn_cmpF (am_cur_of (i := (130, 3, .if_icmp .ge 23, (77, 0, 0), 0)) (by decide +kernel)) (by decide) hm_z
  replace hm_z := rn_aload_n (am_cur_of (i := (133, 1, .aload_n 0, (0, 0, 0), 0)) (by decide +kernel)) g0_z hm_z
  replace hm_z := rn_getR (x := 178) (am_cur_of (i := (134, 3, .getfield 54, (12, 33, 1417), 0)) (by decide +kernel)) (by decide +kernel) hm_z
  replace hm_z := rn_iload_n (am_cur_of (i := (137, 1, .iload_n 1, (0, 0, 0), 0)) (by decide +kernel)) g1_z hm_z
  replace hm_z := rn_aload_n (am_cur_of (i := (138, 1, .aload_n 0, (0, 0, 0), 0)) (by decide +kernel)) g0_z hm_z
  replace hm_z := rn_getR (x := 178) (am_cur_of (i := (139, 3, .getfield 54, (12, 33, 1417), 0)) (by decide +kernel)) (by decide +kernel) hm_z
  replace hm_z := rn_iconst (w := 3) (am_cur_of (i := (142, 1, .iconst 3, (0, 0, 0), 0)) (by decide +kernel)) (by decide) hm_z
  replace hm_z := rn_iload_n (am_cur_of (i := (143, 1, .iload_n 1, (0, 0, 0), 0)) (by decide +kernel)) g1_z hm_z
  replace hm_z := rn_iadd (w := 4) (am_cur_of (i := (144, 1, .iadd, (0, 0, 0), 0)) (by decide +kernel)) (by decide) hm_z
  replace hm_z := rn_baload (N := 6) (q := 4) (v := rg_v h153_z 178 4) (am_cur_of (i := (145, 1, .baload, (0, 0, 0), 0)) (by decide +kernel)) (by decide +kernel) rfl (show rg_v (am_up h153_z 178 0 (.int (rg_v h153_z 178 3))) 178 4 = rg_v h153_z 178 4 from rfl) hm_z
  obtain ⟨p161_z, hm_z⟩ := hm_z
  replace hm_z := rn_bastore (N := 6) (q := 1) (am_cur_of (i := (146, 1, .bastore, (0, 0, 0), 0)) (by decide +kernel)) (by decide +kernel) rfl hm_z
  obtain ⟨p162_z, hm_z⟩ := hm_z
  replace hm_z := rn_iinc (w := 2) (am_cur_of (i := (147, 3, .iinc 1 1, (0, 0, 0), 0)) (by decide +kernel)) g1_z (by decide) hm_z
  obtain ⟨_, s163_z, s164_z, g1_z, hm_z⟩ := hm_z
  replace g0_z := s163_z 0 _ (by decide) rfl g0_z
  clear s163_z s164_z
  replace hm_z := rn_goto (am_cur_of (i := (150, 3, .goto (-22), (62, 0, 0), 0)) (by decide +kernel)) hm_z
  replace hm_z := rn_iload_n (am_cur_of (i := (128, 1, .iload_n 1, (0, 0, 0), 0)) (by decide +kernel)) g1_z hm_z
  replace hm_z := rn_iconst (w := 3) (am_cur_of (i := (129, 1, .iconst 3, (0, 0, 0), 0)) (by decide +kernel)) (by decide) hm_z
  replace hm_z := rn_cmpF (am_cur_of (i := (130, 3, .if_icmp .ge 23, (77, 0, 0), 0)) (by decide +kernel)) (by decide) hm_z
  replace hm_z := rn_aload_n (am_cur_of (i := (133, 1, .aload_n 0, (0, 0, 0), 0)) (by decide +kernel)) g0_z hm_z
  replace hm_z := rn_getR (x := 178) (am_cur_of (i := (134, 3, .getfield 54, (12, 33, 1417), 0)) (by decide +kernel)) (by decide +kernel) hm_z
  replace hm_z := rn_iload_n (am_cur_of (i := (137, 1, .iload_n 1, (0, 0, 0), 0)) (by decide +kernel)) g1_z hm_z
  replace hm_z := rn_aload_n (am_cur_of (i := (138, 1, .aload_n 0, (0, 0, 0), 0)) (by decide +kernel)) g0_z hm_z
  replace hm_z := rn_getR (x := 178) (am_cur_of (i := (139, 3, .getfield 54, (12, 33, 1417), 0)) (by decide +kernel)) (by decide +kernel) hm_z
  replace hm_z := rn_iconst (w := 3) (am_cur_of (i := (142, 1, .iconst 3, (0, 0, 0), 0)) (by decide +kernel)) (by decide) hm_z
  replace hm_z := rn_iload_n (am_cur_of (i := (143, 1, .iload_n 1, (0, 0, 0), 0)) (by decide +kernel)) g1_z hm_z
  replace hm_z := rn_iadd (w := 5) (am_cur_of (i := (144, 1, .iadd, (0, 0, 0), 0)) (by decide +kernel)) (by decide) hm_z
  replace hm_z := rn_baload (N := 6) (q := 5) (v := rg_v h153_z 178 5) (am_cur_of (i := (145, 1, .baload, (0, 0, 0), 0)) (by decide +kernel)) (by decide +kernel) rfl (show rg_v (am_up (am_up h153_z 178 0 (.int (rg_v h153_z 178 3))) 178 1 (.int (rg_v h153_z 178 4))) 178 5 = rg_v h153_z 178 5 from rfl) hm_z
  obtain ⟨p165_z, hm_z⟩ := hm_z
  replace hm_z := rn_bastore (N := 6) (q := 2) (am_cur_of (i := (146, 1, .bastore, (0, 0, 0), 0)) (by decide +kernel)) (by decide +kernel) rfl hm_z
  obtain ⟨p166_z, hm_z⟩ := hm_z
  replace hm_z := rn_iinc (w := 3) (am_cur_of (i := (147, 3, .iinc 1 1, (0, 0, 0), 0)) (by decide +kernel)) g1_z (by decide) hm_z
  obtain ⟨_, s167_z, s168_z, g1_z, hm_z⟩ := hm_z
  replace g0_z := s167_z 0 _ (by decide) rfl g0_z
  clear s167_z s168_z
  replace hm_z := rn_goto (am_cur_of (i := (150, 3, .goto (-22), (62, 0, 0), 0)) (by decide +kernel)) hm_z
  replace hm_z := rn_iload_n (am_cur_of (i := (128, 1, .iload_n 1, (0, 0, 0), 0)) (by decide +kernel)) g1_z hm_z
  replace hm_z := rn_iconst (w := 3) (am_cur_of (i := (129, 1, .iconst 3, (0, 0, 0), 0)) (by decide +kernel)) (by decide) hm_z
  replace hm_z := rn_cmpT (am_cur_of (i := (130, 3, .if_icmp .ge 23, (77, 0, 0), 0)) (by decide +kernel)) (by decide) hm_z
  replace hm_z := rn_aload_n (am_cur_of (i := (153, 1, .aload_n 0, (0, 0, 0), 0)) (by decide +kernel)) g0_z hm_z
  replace hm_z := rn_getR (x := 179) (am_cur_of (i := (154, 3, .getfield 57, (12, 34, 1418), 0)) (by decide +kernel)) (by decide +kernel) hm_z
  replace hm_z := rn_iconst (w := 3) (am_cur_of (i := (157, 1, .iconst 3, (0, 0, 0), 0)) (by decide +kernel)) (by decide) hm_z
  replace hm_z := rn_callS (M' := am_m145) (ar := [.int 3, .ref 179]) (rest := []) (L := lv_args 0 [.ref 179, .int 3]) (am_cur_of (i := (158, 3, .invokestatic 234, (145, 1365, 3), 0)) (by decide +kernel)) rfl rfl rfl rfl hm_z
  obtain ⟨r169_z, h170_z, q171_z, hm_z⟩ := hm_z
  have vo := rn_void rfl q171_z
  subst vo
  clear q171_z
  replace hm_z : rn _ _ _ _ [] _ _ _ := hm_z
  replace hm_z := rn_aload_n (am_cur_of (i := (161, 1, .aload_n 0, (0, 0, 0), 0)) (by decide +kernel)) g0_z hm_z
  replace hm_z := rn_getR (x := 180) (am_cur_of (i := (162, 3, .getfield 60, (12, 35, 1419), 0)) (by decide +kernel)) (by decide +kernel) hm_z
  replace hm_z := rn_iconst (w := 3) (am_cur_of (i := (165, 1, .iconst 3, (0, 0, 0), 0)) (by decide +kernel)) (by decide) hm_z
  replace hm_z := rn_callS (M' := am_m145) (ar := [.int 3, .ref 180]) (rest := []) (L := lv_args 0 [.ref 180, .int 3]) (am_cur_of (i := (166, 3, .invokestatic 234, (145, 1365, 3), 0)) (by decide +kernel)) rfl rfl rfl rfl hm_z
  obtain ⟨r172_z, h173_z, q174_z, hm_z⟩ := hm_z
  have vo := rn_void rfl q174_z
  subst vo
  clear q174_z
  replace hm_z : rn _ _ _ _ [] _ _ _ := hm_z
  replace hm_z := rn_aload_n (am_cur_of (i := (169, 1, .aload_n 0, (0, 0, 0), 0)) (by decide +kernel)) g0_z hm_z
  replace hm_z := rn_getR (x := 181) (am_cur_of (i := (170, 3, .getfield 63, (12, 36, 1420), 0)) (by decide +kernel)) (by decide +kernel) hm_z
  replace hm_z := rn_bipush (w := 64) (am_cur_of (i := (173, 2, .bipush 64, (0, 0, 0), 0)) (by decide +kernel)) (by decide) hm_z
  replace hm_z := rn_callS (M' := am_m145) (ar := [.int 64, .ref 181]) (rest := []) (L := lv_args 0 [.ref 181, .int 64]) (am_cur_of (i := (175, 3, .invokestatic 234, (145, 1365, 3), 0)) (by decide +kernel)) rfl rfl rfl rfl hm_z
  obtain ⟨r175_z, h176_z, q177_z, hm_z⟩ := hm_z
  have vo := rn_void rfl q177_z
  subst vo
  clear q177_z
  replace hm_z : rn _ _ _ _ [] _ _ _ := hm_z
  replace hm_z := rn_aload_n (am_cur_of (i := (178, 1, .aload_n 0, (0, 0, 0), 0)) (by decide +kernel)) g0_z hm_z
  replace hm_z := rn_getR (x := 182) (am_cur_of (i := (179, 3, .getfield 66, (12, 37, 1421), 0)) (by decide +kernel)) (by decide +kernel) hm_z
  replace hm_z := rn_bipush (w := 64) (am_cur_of (i := (182, 2, .bipush 64, (0, 0, 0), 0)) (by decide +kernel)) (by decide) hm_z
  replace hm_z := rn_callS (M' := am_m145) (ar := [.int 64, .ref 182]) (rest := []) (L := lv_args 0 [.ref 182, .int 64]) (am_cur_of (i := (184, 3, .invokestatic 234, (145, 1365, 3), 0)) (by decide +kernel)) rfl rfl rfl rfl hm_z
  obtain ⟨r178_z, h179_z, q180_z, hm_z⟩ := hm_z
  have vo := rn_void rfl q180_z
  subst vo
  clear q180_z
  replace hm_z : rn _ _ _ _ [] _ _ _ := hm_z
  replace hm_z := rn_aload_n (am_cur_of (i := (187, 1, .aload_n 0, (0, 0, 0), 0)) (by decide +kernel)) g0_z hm_z
  replace hm_z := rn_getR (x := 183) (am_cur_of (i := (188, 3, .getfield 69, (12, 38, 1422), 0)) (by decide +kernel)) (by decide +kernel) hm_z
  replace hm_z := rn_bipush (w := 64) (am_cur_of (i := (191, 2, .bipush 64, (0, 0, 0), 0)) (by decide +kernel)) (by decide) hm_z
  replace hm_z := rn_callS (M' := am_m145) (ar := [.int 64, .ref 183]) (rest := []) (L := lv_args 0 [.ref 183, .int 64]) (am_cur_of (i := (193, 3, .invokestatic 234, (145, 1365, 3), 0)) (by decide +kernel)) rfl rfl rfl rfl hm_z
  obtain ⟨r181_z, h182_z, q183_z, hm_z⟩ := hm_z
  have vo := rn_void rfl q183_z
  subst vo
  clear q183_z
  replace hm_z : rn _ _ _ _ [] _ _ _ := hm_z
  replace hm_z := rn_aload_n (am_cur_of (i := (196, 1, .aload_n 0, (0, 0, 0), 0)) (by decide +kernel)) g0_z hm_z
  replace hm_z := rn_callV (M' := am_m146) (o := 164) (ar := []) (rest := []) (L := lv_args 0 [.ref 164]) (am_cur_of (i := (197, 3, .invokevirtual 238, (146, 1368, 3), 0)) (by decide +kernel)) rfl rfl rfl rfl hm_z
  obtain ⟨r184_z, h185_z, q186_z, hm_z⟩ := hm_z
  have vo := rn_void rfl q186_z
  subst vo
  have zb := kt_begin q186_z
  have lb : _ → _ → _ → _ := fun x y z => lk_b (g := h182_z) x y z q186_z
  replace hm_z : rn _ _ _ _ [] _ _ _ := hm_z
  replace hm_z := rn_vret (am_cur_of (i := (200, 1, .return_, (0, 0, 0), 0)) (by decide +kernel)) hm_z
  obtain ⟨e187_z, e188_z⟩ := hm_z
  replace e188_z := e188_z.symm
  subst e188_z
  have zw : ∀ t, t < 6 → rg_v h185_z 173 t = rg_v h182_z 173 t := fun t ht => zb 173 t (zmB_lt (n := 6) rfl ht)
  have z14_z := zb 164 14 (by decide)
  have z5_z := zb 168 5 (by decide)
  rw [z14_z] at n0_z n6_z ⊢
  rw [z5_z]
  have cn := rt_cl n0_z
  refine (lb (fun t ht => by rw [← zw t ht]; exact R t ht) n0_z n6_z).trans ?_
  exact lkR_c (by omega) (fun t ht => (zw t (by omega)).symm)
theorem lk_3_2 {h' g' : am_H} (R : (∀ t, t < 6 → 0 ≤ (rg_v g' 173 t).toInt ∧ (rg_v g' 173 t).toInt ≤ 99)) (X : tx_3 2 h' g') : rg_v h' 2 18 = rg_v g' 164 58 ∧ h' 0 2 = .ref 2 := by
  obtain ⟨hq_z, gq, h1_z, h2_z, h3_z, h4_z, n1_z, n2_z, n3_z, n4_z, n5_z, A, e1_z, r54_z, r144_z, r14_z, r57_z, r58_z, rfl, e2_z⟩ := X
  have k := kt_rK A r144_z
  obtain ⟨⟨-, -, -, -, -, k17_z⟩, -, -, ⟨k9_z, k90_z, k96_z⟩, -, -, -, E, -⟩ := k
  have c := lk_54_2 k90_z k96_z r54_z
  have m := lk_144 R (by rw [← k9_z]; exact k90_z) (by rw [← k9_z]; exact k96_z) r144_z
  have cn := rt_cl k90_z
  have z14_z : rg_v h2_z 2 18 = rg_v h1_z 2 18 := by
    rw [(kg_14_2 r14_z).2]
    exact (rg_v_other (by omega)).trans ((rg_v_other (by omega)).trans ((rg_v_other (by omega)).trans ((rg_v_other (by omega)).trans ((rg_v_other (by omega)).trans ((rg_v_other (by omega)).trans ((rg_v_other (by omega)).trans ((rg_v_other (by omega)).trans ((rg_v_other (by omega)).trans ((rg_v_other (by omega)).trans ((rg_v_other (by omega)).trans ((rg_v_other (by omega)).trans ((rg_v_other (by omega)).trans ((rg_v_other (by omega)).trans ((rg_v_other (by omega)).trans ((rg_v_other (by omega)).trans ((rg_v_other (by omega)).trans ((rg_v_other (by omega)).trans (rg_v_other (by omega)))))))))))))))))))
  have z57_z : rg_v h3_z 2 18 = rg_v h2_z 2 18 := by
    rw [(kg_57 r57_z).2]
    exact rg_v_other (by omega)
  have z58_z : rg_v h4_z 2 18 = rg_v h3_z 2 18 := by
    rw [(kg_58 r58_z).2]
    exact (rg_v_other (by omega)).trans (rg_v_other (by omega))
  refine ⟨?_, e2_z⟩
  rw [m]
  refine ((rg_v_other (by omega)).trans (z58_z.trans (z57_z.trans (z14_z.trans c)))).trans ?_
  rw [← k9_z, ← k17_z]
  exact lkR_c (by omega) (fun t ht => (E t (by omega)).1)
theorem lk_3_23 {h' g' : am_H} (R : (∀ t, t < 6 → 0 ≤ (rg_v g' 173 t).toInt ∧ (rg_v g' 173 t).toInt ≤ 99)) (X : tx_3 23 h' g') : rg_v h' 23 18 = rg_v g' 164 58 ∧ h' 0 2 = .ref 23 := by
  obtain ⟨hq_z, gq, h1_z, h2_z, h3_z, h4_z, n1_z, n2_z, n3_z, n4_z, n5_z, A, e1_z, r54_z, r144_z, r14_z, r57_z, r58_z, rfl, e2_z⟩ := X
  have k := kt_rK A r144_z
  obtain ⟨⟨-, -, -, -, -, k17_z⟩, -, -, ⟨k9_z, k90_z, k96_z⟩, -, -, -, E, -⟩ := k
  have c := lk_54_23 k90_z k96_z r54_z
  have m := lk_144 R (by rw [← k9_z]; exact k90_z) (by rw [← k9_z]; exact k96_z) r144_z
  have cn := rt_cl k90_z
  have z14_z : rg_v h2_z 23 18 = rg_v h1_z 23 18 := by
    rw [(kg_14_23 r14_z).2]
    exact (rg_v_other (by omega)).trans ((rg_v_other (by omega)).trans ((rg_v_other (by omega)).trans ((rg_v_other (by omega)).trans ((rg_v_other (by omega)).trans ((rg_v_other (by omega)).trans ((rg_v_other (by omega)).trans ((rg_v_other (by omega)).trans ((rg_v_other (by omega)).trans ((rg_v_other (by omega)).trans ((rg_v_other (by omega)).trans ((rg_v_other (by omega)).trans ((rg_v_other (by omega)).trans ((rg_v_other (by omega)).trans ((rg_v_other (by omega)).trans ((rg_v_other (by omega)).trans ((rg_v_other (by omega)).trans ((rg_v_other (by omega)).trans (rg_v_other (by omega)))))))))))))))))))
  have z57_z : rg_v h3_z 23 18 = rg_v h2_z 23 18 := by
    rw [(kg_57 r57_z).2]
    exact rg_v_other (by omega)
  have z58_z : rg_v h4_z 23 18 = rg_v h3_z 23 18 := by
    rw [(kg_58 r58_z).2]
    exact (rg_v_other (by omega)).trans (rg_v_other (by omega))
  refine ⟨?_, e2_z⟩
  rw [m]
  refine ((rg_v_other (by omega)).trans (z58_z.trans (z57_z.trans (z14_z.trans c)))).trans ?_
  rw [← k9_z, ← k17_z]
  exact lkR_c (by omega) (fun t ht => (E t (by omega)).1)
/-- the leak between the calls -/
def lK (h : am_H) : Prop := ∀ p, h 0 2 = .ref p → rg_v h p 18 = rg_v h 164 58
def R7 (h : am_H) : Prop := R6 h ∧ lK h
def lk_ok (md : List (Nat × Nat)) : Bool := !(ab_in md 0 2) && !(ab_in md 2 18) && !(ab_in md 23 18) && !(ab_in md 164 58)
theorem lk_fr {md : List (Nat × Nat)} {h h' : am_H} (hb_z : lk_ok md = true) (hf_z : ab_Fr md h h') (hD : tx_D h) (K : lK h) : lK h' := by
  unfold lk_ok at hb_z
  simp only [Bool.and_eq_true, Bool.not_eq_true'] at hb_z
  obtain ⟨⟨⟨b1_z, b2_z⟩, b3_z⟩, b4_z⟩ := hb_z
  intro p hp_z
  rw [hf_z 0 2 b1_z] at hp_z
  have k := K p hp_z
  rcases hD with ⟨-, e⟩ | ⟨-, e⟩
  · rw [e] at hp_z
    cases hp_z
    exact (rg_v_fr hf_z b3_z).trans (k.trans (rg_v_fr hf_z b4_z).symm)
  · rw [e] at hp_z
    cases hp_z
    exact (rg_v_fr hf_z b2_z).trans (k.trans (rg_v_fr hf_z b4_z).symm)
theorem lk_rg {t : Int32} {h : am_H} (hG : ag_G t h) : ∀ q, q < 6 → 0 ≤ (rg_v h 173 q).toInt ∧ (rg_v h 173 q).toInt ≤ 99 := by
  intro q hq_z
  have z := hG.1 173 q (.inr (.int, 12)) (by decide +kernel) (show q < 12 by omega)
  rw [show ab_hi ab_tab 173 q = ab_i 0 99 from rfl] at z
  obtain ⟨x, e, x0_z, x1_z⟩ := z
  unfold rg_v
  rw [e]
  exact ⟨x0_z, x1_z⟩
theorem R7_text : ax_text R7 := by
  intro t t1_z a h h1_z h2_z r1_z r2_z n1_z n2_z hR hG hG2 hT F1 F2 rn1_z rn2_z
  refine ⟨R6_text t t1_z a h h1_z h2_z r1_z r2_z n1_z n2_z hR.1 hG hG2 hT F1 F2 rn1_z rn2_z, ?_⟩
  obtain ⟨-, -, d, hd_z, D, E, O⟩ := tx_all hR.1.1.1.1 hG F1 rn1_z rn2_z
  have e02_z : h2_z 0 2 = h1_z 0 2 := F2 0 2 (by decide +kernel)
  have e58_z : rg_v h1_z 164 58 = rg_v h 164 58 := rg_v_fr F1 (by decide +kernel)
  have e18_z : ∀ p, (p = 2 ∨ p = 23) → rg_v h2_z p 18 = rg_v h1_z p 18 := by
    intro p hp_z
    rcases hp_z with rfl | rfl
    · exact rg_v_fr F2 (by decide +kernel)
    · exact rg_v_fr F2 (by decide +kernel)
  intro p hp_z
  rw [e02_z] at hp_z
  rcases O with ⟨q1_z, q2_z⟩ | ⟨-, -, -, ep, kc, km⟩ | X
  · subst q1_z
    have k := hR.2 p hp_z
    have hp2_z := pk_p hd_z E hp_z
    refine (e18_z p (hp2_z.elim (fun q => Or.inl q.1) (fun q => Or.inr q.1))).trans (k.trans ?_)
    rw [q2_z]
    exact (rg_v_other (by omega)).symm
  · have hp2_z := pk_p hd_z ep hp_z
    have e25_z : 25 - d = p := by rcases hp2_z with ⟨rfl, rfl⟩ | ⟨rfl, rfl⟩ <;> rfl
    have k := hR.2 p (by rw [E, e25_z])
    have c1_z : rg_v h1_z p 18 = rg_v h p 18 := by
      unfold rg_v
      rw [kc p 18 (Or.inr (Or.inr (by omega))) (by omega)]
    exact (e18_z p (hp2_z.elim (fun q => Or.inl q.1) (fun q => Or.inr q.1))).trans (c1_z.trans (k.trans (e58_z.symm.trans (yk_v km (by decide)).symm)))
  · rcases hd_z with rfl | rfl
    · obtain ⟨k, e⟩ := lk_3_2 (lk_rg hG2) X
      rw [e] at hp_z
      cases hp_z
      exact (e18_z 2 (Or.inl rfl)).trans k
    · obtain ⟨k, e⟩ := lk_3_23 (lk_rg hG2) X
      rw [e] at hp_z
      cases hp_z
      exact (e18_z 23 (Or.inr rfl)).trans k
theorem R7_feed : ax_feed R7 := fun a b c d e f g h h1_z h2_z r1_z r2_z n1_z n2_z hR hG hG2 f1_z f2_z x y => ⟨R6_feed a b c d e f g h h1_z h2_z r1_z r2_z n1_z n2_z hR.1 hG hG2 f1_z f2_z x y, lk_fr (by decide +kernel) f2_z (R3_fD (by decide +kernel) f1_z hR.1.1.1.1.1) (lk_fr (by decide +kernel) f1_z hR.1.1.1.1.1 hR.2)⟩
theorem R7_fault : ax_fault R7 := fun x0_z x1_z x2_z x3_z x4_z x5_z x6_z x7_z x8_z hR g0_z g1_z g2_z f1_z f2_z y0_z y1_z => ⟨R6_fault x0_z x1_z x2_z x3_z x4_z x5_z x6_z x7_z x8_z hR.1 g0_z g1_z g2_z f1_z f2_z y0_z y1_z, lk_fr (by decide +kernel) f2_z (R3_fD (by decide +kernel) f1_z hR.1.1.1.1.1) (lk_fr (by decide +kernel) f1_z hR.1.1.1.1.1 hR.2)⟩
theorem R7_named : ax_named R7 := fun x0_z x1_z x2_z x3_z x4_z x5_z x6_z x7_z x8_z x9_z hR g0_z g1_z g2_z f1_z f2_z y0_z y1_z => ⟨R6_named x0_z x1_z x2_z x3_z x4_z x5_z x6_z x7_z x8_z x9_z hR.1 g0_z g1_z g2_z f1_z f2_z y0_z y1_z, lk_fr (by decide +kernel) f2_z (R3_fD (by decide +kernel) f1_z hR.1.1.1.1.1) (lk_fr (by decide +kernel) f1_z hR.1.1.1.1.1 hR.2)⟩
theorem R7_look : ax_look R7 := fun x0_z x1_z x2_z x3_z x4_z x5_z x6_z x7_z hR g0_z g1_z g2_z f1_z f2_z y0_z => ⟨R6_look x0_z x1_z x2_z x3_z x4_z x5_z x6_z x7_z hR.1 g0_z g1_z g2_z f1_z f2_z y0_z, lk_fr (by decide +kernel) f2_z (R3_fD (by decide +kernel) f1_z hR.1.1.1.1.1) (lk_fr (by decide +kernel) f1_z hR.1.1.1.1.1 hR.2)⟩
theorem R7_law : ax_law R7 := fun x0_z x1_z x2_z x3_z x4_z x5_z x6_z x7_z x8_z x9_z hR g0_z g1_z g2_z f1_z f2_z y0_z y1_z => ⟨R6_law x0_z x1_z x2_z x3_z x4_z x5_z x6_z x7_z x8_z x9_z hR.1 g0_z g1_z g2_z f1_z f2_z y0_z y1_z, lk_fr (by decide +kernel) f2_z (R3_fD (by decide +kernel) f1_z hR.1.1.1.1.1) (lk_fr (by decide +kernel) f1_z hR.1.1.1.1.1 hR.2)⟩
theorem R7_blow : ax_blow R7 := fun x0_z x1_z x2_z x3_z x4_z x5_z x6_z x7_z x8_z x9_z hR g0_z g1_z g2_z f1_z f2_z y0_z y1_z => ⟨R6_blow x0_z x1_z x2_z x3_z x4_z x5_z x6_z x7_z x8_z x9_z hR.1 g0_z g1_z g2_z f1_z f2_z y0_z y1_z, lk_fr (by decide +kernel) f2_z (R3_fD (by decide +kernel) f1_z hR.1.1.1.1.1) (lk_fr (by decide +kernel) f1_z hR.1.1.1.1.1 hR.2)⟩
theorem R7_waits : ax_waits R7 := fun x0_z x1_z x2_z x3_z x4_z x5_z x6_z x7_z x8_z x9_z hR g0_z g1_z g2_z u0_z u1_z f1_z f2_z y0_z y1_z => ⟨R6_waits x0_z x1_z x2_z x3_z x4_z x5_z x6_z x7_z x8_z x9_z hR.1 g0_z g1_z g2_z u0_z u1_z f1_z f2_z y0_z y1_z, lk_fr (by decide +kernel) f2_z (R3_fD (by decide +kernel) f1_z hR.1.1.1.1.1) (lk_fr (by decide +kernel) f1_z hR.1.1.1.1.1 hR.2)⟩
theorem R7_pump : ax_pump R7 := fun x0_z x1_z x2_z x3_z x4_z x5_z x6_z x7_z x8_z hR g0_z g1_z g2_z f1_z f2_z y0_z y1_z => ⟨R6_pump x0_z x1_z x2_z x3_z x4_z x5_z x6_z x7_z x8_z hR.1 g0_z g1_z g2_z f1_z f2_z y0_z y1_z, lk_fr (by decide +kernel) f2_z (R3_fD (by decide +kernel) f1_z hR.1.1.1.1.1) (lk_fr (by decide +kernel) f1_z hR.1.1.1.1.1 hR.2)⟩
theorem R7_patch : ax_patch R7 := fun x0_z x1_z x2_z x3_z x4_z x5_z x6_z x7_z x8_z hR g0_z g1_z g2_z f1_z f2_z y0_z y1_z => ⟨R6_patch x0_z x1_z x2_z x3_z x4_z x5_z x6_z x7_z x8_z hR.1 g0_z g1_z g2_z f1_z f2_z y0_z y1_z, lk_fr (by decide +kernel) f2_z (R3_fD (by decide +kernel) f1_z hR.1.1.1.1.1) (lk_fr (by decide +kernel) f1_z hR.1.1.1.1.1 hR.2)⟩
theorem R7_leak : ax_leak R7 := fun x0_z x1_z x2_z x3_z x4_z x5_z x6_z x7_z hR g0_z g1_z g2_z f1_z f2_z y0_z y1_z => ⟨R6_leak x0_z x1_z x2_z x3_z x4_z x5_z x6_z x7_z hR.1 g0_z g1_z g2_z f1_z f2_z y0_z y1_z, lk_fr (by decide +kernel) f2_z (R3_fD (by decide +kernel) f1_z hR.1.1.1.1.1) (lk_fr (by decide +kernel) f1_z hR.1.1.1.1.1 hR.2)⟩
theorem R7_ever : ax_ever R7 := fun x0_z x1_z x2_z x3_z x4_z x5_z x6_z x7_z x8_z hR g0_z g1_z g2_z f1_z f2_z y0_z y1_z => ⟨R6_ever x0_z x1_z x2_z x3_z x4_z x5_z x6_z x7_z x8_z hR.1 g0_z g1_z g2_z f1_z f2_z y0_z y1_z, lk_fr (by decide +kernel) f2_z (R3_fD (by decide +kernel) f1_z hR.1.1.1.1.1) (lk_fr (by decide +kernel) f1_z hR.1.1.1.1.1 hR.2)⟩
theorem R7_best : ax_best R7 := fun x0_z x1_z x2_z x3_z x4_z x5_z x6_z x7_z x8_z x9_z hR g0_z g1_z g2_z f1_z f2_z y0_z y1_z => ⟨R6_best x0_z x1_z x2_z x3_z x4_z x5_z x6_z x7_z x8_z x9_z hR.1 g0_z g1_z g2_z f1_z f2_z y0_z y1_z, lk_fr (by decide +kernel) f2_z (R3_fD (by decide +kernel) f1_z hR.1.1.1.1.1) (lk_fr (by decide +kernel) f1_z hR.1.1.1.1.1 hR.2)⟩
theorem R7_lasts : ax_lasts R7 := fun x0_z x1_z x2_z x3_z x4_z x5_z x6_z x7_z x8_z x9_z hR g0_z g1_z g2_z f1_z f2_z y0_z y1_z => ⟨R6_lasts x0_z x1_z x2_z x3_z x4_z x5_z x6_z x7_z x8_z x9_z hR.1 g0_z g1_z g2_z f1_z f2_z y0_z y1_z, lk_fr (by decide +kernel) f2_z (R3_fD (by decide +kernel) f1_z hR.1.1.1.1.1) (lk_fr (by decide +kernel) f1_z hR.1.1.1.1.1 hR.2)⟩
theorem R7_firm : ax_firm R7 := fun x0_z x1_z x2_z x3_z x4_z x5_z x6_z x7_z x8_z x9_z hR g0_z g1_z g2_z f1_z f2_z y0_z y1_z => ⟨R6_firm x0_z x1_z x2_z x3_z x4_z x5_z x6_z x7_z x8_z x9_z hR.1 g0_z g1_z g2_z f1_z f2_z y0_z y1_z, lk_fr (by decide +kernel) f2_z (R3_fD (by decide +kernel) f1_z hR.1.1.1.1.1) (lk_fr (by decide +kernel) f1_z hR.1.1.1.1.1 hR.2)⟩
theorem R7_up : ax_up R7 := fun x0_z x1_z x2_z x3_z x4_z x5_z x6_z x7_z x8_z x9_z x10_z hR g0_z g1_z g2_z f1_z f2_z y0_z y1_z => ⟨R6_up x0_z x1_z x2_z x3_z x4_z x5_z x6_z x7_z x8_z x9_z x10_z hR.1 g0_z g1_z g2_z f1_z f2_z y0_z y1_z, lk_fr (by decide +kernel) f2_z (R3_fD (by decide +kernel) f1_z hR.1.1.1.1.1) (lk_fr (by decide +kernel) f1_z hR.1.1.1.1.1 hR.2)⟩
theorem R7_upAt : ax_upAt R7 := fun x0_z x1_z x2_z x3_z x4_z x5_z x6_z x7_z x8_z x9_z x10_z x11_z hR g0_z g1_z g2_z f1_z f2_z y0_z y1_z => ⟨R6_upAt x0_z x1_z x2_z x3_z x4_z x5_z x6_z x7_z x8_z x9_z x10_z x11_z hR.1 g0_z g1_z g2_z f1_z f2_z y0_z y1_z, lk_fr (by decide +kernel) f2_z (R3_fD (by decide +kernel) f1_z hR.1.1.1.1.1) (lk_fr (by decide +kernel) f1_z hR.1.1.1.1.1 hR.2)⟩
theorem R7_cheapest : ax_cheapest R7 := fun x0_z x1_z x2_z x3_z x4_z x5_z x6_z x7_z x8_z x9_z x10_z hR g0_z g1_z g2_z f1_z f2_z y0_z y1_z => ⟨R6_cheapest x0_z x1_z x2_z x3_z x4_z x5_z x6_z x7_z x8_z x9_z x10_z hR.1 g0_z g1_z g2_z f1_z f2_z y0_z y1_z, lk_fr (by decide +kernel) f2_z (R3_fD (by decide +kernel) f1_z hR.1.1.1.1.1) (lk_fr (by decide +kernel) f1_z hR.1.1.1.1.1 hR.2)⟩
theorem R7_lend : ax_lend R7 := fun x0_z x1_z x2_z x3_z x4_z x5_z x6_z x7_z x8_z x9_z hR g0_z g1_z g2_z f1_z f2_z y0_z y1_z => ⟨R6_lend x0_z x1_z x2_z x3_z x4_z x5_z x6_z x7_z x8_z x9_z hR.1 g0_z g1_z g2_z f1_z f2_z y0_z y1_z, lk_fr (by decide +kernel) f2_z (R3_fD (by decide +kernel) f1_z hR.1.1.1.1.1) (lk_fr (by decide +kernel) f1_z hR.1.1.1.1.1 hR.2)⟩
theorem R7_seek : ax_seek R7 := fun x0_z x1_z x2_z x3_z x4_z x5_z x6_z x7_z x8_z x9_z hR g0_z g1_z g2_z f1_z f2_z y0_z y1_z => ⟨R6_seek x0_z x1_z x2_z x3_z x4_z x5_z x6_z x7_z x8_z x9_z hR.1 g0_z g1_z g2_z f1_z f2_z y0_z y1_z, lk_fr (by decide +kernel) f2_z (R3_fD (by decide +kernel) f1_z hR.1.1.1.1.1) (lk_fr (by decide +kernel) f1_z hR.1.1.1.1.1 hR.2)⟩
theorem R7_mean : ax_mean R7 := fun x0_z x1_z x2_z x3_z x4_z x5_z x6_z x7_z x8_z hR g0_z g1_z g2_z f1_z f2_z y0_z y1_z => ⟨R6_mean x0_z x1_z x2_z x3_z x4_z x5_z x6_z x7_z x8_z hR.1 g0_z g1_z g2_z f1_z f2_z y0_z y1_z, lk_fr (by decide +kernel) f2_z (R3_fD (by decide +kernel) f1_z hR.1.1.1.1.1) (lk_fr (by decide +kernel) f1_z hR.1.1.1.1.1 hR.2)⟩
theorem R7_rule : ax_rule R7 := fun x0_z x1_z x2_z x3_z x4_z x5_z x6_z x7_z x8_z hR g0_z g1_z g2_z f1_z f2_z y0_z y1_z => ⟨R6_rule x0_z x1_z x2_z x3_z x4_z x5_z x6_z x7_z x8_z hR.1 g0_z g1_z g2_z f1_z f2_z y0_z y1_z, lk_fr (by decide +kernel) f2_z (R3_fD (by decide +kernel) f1_z hR.1.1.1.1.1) (lk_fr (by decide +kernel) f1_z hR.1.1.1.1.1 hR.2)⟩
theorem R7_fairest : ax_fairest R7 := fun x0_z x1_z x2_z x3_z x4_z x5_z x6_z x7_z hR g0_z g1_z g2_z f1_z f2_z y0_z y1_z => ⟨R6_fairest x0_z x1_z x2_z x3_z x4_z x5_z x6_z x7_z hR.1 g0_z g1_z g2_z f1_z f2_z y0_z y1_z, lk_fr (by decide +kernel) f2_z (R3_fD (by decide +kernel) f1_z hR.1.1.1.1.1) (lk_fr (by decide +kernel) f1_z hR.1.1.1.1.1 hR.2)⟩
theorem R7_cheek : ax_cheek R7 := fun x0_z x1_z x2_z x3_z x4_z x5_z x6_z x7_z x8_z x9_z x10_z x11_z hR g0_z g1_z g2_z u0_z u1_z f1_z f2_z y0_z y1_z => ⟨R6_cheek x0_z x1_z x2_z x3_z x4_z x5_z x6_z x7_z x8_z x9_z x10_z x11_z hR.1 g0_z g1_z g2_z u0_z u1_z f1_z f2_z y0_z y1_z, lk_fr (by decide +kernel) f2_z (R3_fD (by decide +kernel) f1_z hR.1.1.1.1.1) (lk_fr (by decide +kernel) f1_z hR.1.1.1.1.1 hR.2)⟩
theorem R7_strike : ax_strike R7 := fun x0_z x1_z x2_z x3_z x4_z x5_z x6_z x7_z x8_z hR g0_z g1_z g2_z f1_z f2_z y0_z y1_z => ⟨R6_strike x0_z x1_z x2_z x3_z x4_z x5_z x6_z x7_z x8_z hR.1 g0_z g1_z g2_z f1_z f2_z y0_z y1_z, lk_fr (by decide +kernel) f2_z (R3_fD (by decide +kernel) f1_z hR.1.1.1.1.1) (lk_fr (by decide +kernel) f1_z hR.1.1.1.1.1 hR.2)⟩
theorem R7_known : ax_known R7 := fun x0_z x1_z x2_z x3_z x4_z x5_z x6_z x7_z x8_z hR g0_z g1_z g2_z f1_z f2_z y0_z y1_z => ⟨R6_known x0_z x1_z x2_z x3_z x4_z x5_z x6_z x7_z x8_z hR.1 g0_z g1_z g2_z f1_z f2_z y0_z y1_z, lk_fr (by decide +kernel) f2_z (R3_fD (by decide +kernel) f1_z hR.1.1.1.1.1) (lk_fr (by decide +kernel) f1_z hR.1.1.1.1.1 hR.2)⟩
theorem R7_fits : ax_fits R7 := fun x0_z x1_z x2_z x3_z x4_z x5_z x6_z x7_z hR g0_z g1_z g2_z f1_z f2_z y0_z y1_z => ⟨R6_fits x0_z x1_z x2_z x3_z x4_z x5_z x6_z x7_z hR.1 g0_z g1_z g2_z f1_z f2_z y0_z y1_z, lk_fr (by decide +kernel) f2_z (R3_fD (by decide +kernel) f1_z hR.1.1.1.1.1) (lk_fr (by decide +kernel) f1_z hR.1.1.1.1.1 hR.2)⟩
theorem R7_chance : ax_chance R7 := fun x0_z x1_z x2_z x3_z x4_z x5_z x6_z x7_z x8_z x9_z x10_z hR g0_z g1_z g2_z f1_z f2_z y0_z y1_z => ⟨R6_chance x0_z x1_z x2_z x3_z x4_z x5_z x6_z x7_z x8_z x9_z x10_z hR.1 g0_z g1_z g2_z f1_z f2_z y0_z y1_z, lk_fr (by decide +kernel) f2_z (R3_fD (by decide +kernel) f1_z hR.1.1.1.1.1) (lk_fr (by decide +kernel) f1_z hR.1.1.1.1.1 hR.2)⟩
theorem R7_tried : ax_tried R7 := fun x0_z x1_z x2_z x3_z x4_z x5_z x6_z x7_z x8_z x9_z x10_z hR g0_z g1_z g2_z f1_z f2_z y0_z y1_z => ⟨R6_tried x0_z x1_z x2_z x3_z x4_z x5_z x6_z x7_z x8_z x9_z x10_z hR.1 g0_z g1_z g2_z f1_z f2_z y0_z y1_z, lk_fr (by decide +kernel) f2_z (R3_fD (by decide +kernel) f1_z hR.1.1.1.1.1) (lk_fr (by decide +kernel) f1_z hR.1.1.1.1.1 hR.2)⟩
theorem R7_undo : ax_undo R7 := fun x0_z x1_z x2_z x3_z x4_z x5_z x6_z x7_z hR g0_z g1_z g2_z f1_z f2_z y0_z y1_z => ⟨R6_undo x0_z x1_z x2_z x3_z x4_z x5_z x6_z x7_z hR.1 g0_z g1_z g2_z f1_z f2_z y0_z y1_z, lk_fr (by decide +kernel) f2_z (R3_fD (by decide +kernel) f1_z hR.1.1.1.1.1) (lk_fr (by decide +kernel) f1_z hR.1.1.1.1.1 hR.2)⟩
theorem R7_keep : ax_keep R7 := fun x0_z x1_z x2_z x3_z x4_z x5_z x6_z x7_z hR g0_z g1_z g2_z f1_z f2_z y0_z y1_z => ⟨R6_keep x0_z x1_z x2_z x3_z x4_z x5_z x6_z x7_z hR.1 g0_z g1_z g2_z f1_z f2_z y0_z y1_z, lk_fr (by decide +kernel) f2_z (R3_fD (by decide +kernel) f1_z hR.1.1.1.1.1) (lk_fr (by decide +kernel) f1_z hR.1.1.1.1.1 hR.2)⟩
theorem R7_back : ax_back R7 := fun x0_z x1_z x2_z x3_z x4_z x5_z x6_z x7_z hR g0_z g1_z g2_z f1_z f2_z y0_z y1_z => ⟨R6_back x0_z x1_z x2_z x3_z x4_z x5_z x6_z x7_z hR.1 g0_z g1_z g2_z f1_z f2_z y0_z y1_z, lk_fr (by decide +kernel) f2_z (R3_fD (by decide +kernel) f1_z hR.1.1.1.1.1) (lk_fr (by decide +kernel) f1_z hR.1.1.1.1.1 hR.2)⟩
theorem R7_count : ax_count R7 := fun x0_z x1_z x2_z x3_z x4_z x5_z x6_z x7_z x8_z hR g0_z g1_z g2_z f1_z f2_z y0_z y1_z => ⟨R6_count x0_z x1_z x2_z x3_z x4_z x5_z x6_z x7_z x8_z hR.1 g0_z g1_z g2_z f1_z f2_z y0_z y1_z, lk_fr (by decide +kernel) f2_z (R3_fD (by decide +kernel) f1_z hR.1.1.1.1.1) (lk_fr (by decide +kernel) f1_z hR.1.1.1.1.1 hR.2)⟩
theorem R7_All : ax_All R7 := ⟨R7_feed, R7_text, R7_fault, R7_named, R7_look, R7_law, R7_blow, R7_waits, R7_pump, R7_patch, R7_leak, R7_ever, R7_best, R7_lasts, R7_firm, R7_up, R7_upAt, R7_cheapest, R7_lend, R7_seek, R7_mean, R7_rule, R7_fairest, R7_cheek, R7_strike, R7_known, R7_fits, R7_chance, R7_tried, R7_undo, R7_keep, R7_back, R7_count⟩
theorem R7_0 : R7 am_h0 := by
  refine ⟨R6_0, ?_⟩
  intro p hp_z
  have e : am_h0 0 2 = .ref 2 := rg_r0 (x := 2) (by decide +kernel) (rg_any gd_h0 (kd := .inl 0) (by decide +kernel) (by decide) (by decide +kernel))
  rw [e] at hp_z
  cases hp_z
  have z : rg_v am_h0 2 18 = rg_v am_h0 164 58 := by decide +kernel
  exact z
theorem lk_eq2 {n n' : Nat} {h h' g g' : am_H} {r r' : Option Value} (D : h 0 2 = .ref 2) (K : rg_v h 2 18 = rg_v g 164 58) (hc_z : rn n am_m86 0 (lv_args 0 [.ref 0]) [] h r h') (hm_z : rn n' am_m212 0 (lv_args 0 [.ref 164]) [] g r' g') : r = r' := by
  have g0_z : am_get (lv_args 0 [.ref 0]) 0 = some (.ref 0) := rfl
  have g0m : am_get (lv_args 0 [.ref 164]) 0 = some (.ref 164) := rfl
  replace hc_z := rn_aload_n (am_cur_of (i := (0, 1, .aload_n 0, (0, 0, 0), 0)) (by decide +kernel)) g0_z hc_z
  replace hc_z := rn_getM (x := 2) (am_cur_of (i := (1, 3, .getfield 18, (0, 2, 663), 0)) (by decide +kernel)) D hc_z
  replace hc_z := rn_getI (v := rg_v h 2 18) (am_cur_of (i := (4, 3, .getfield 250, (1, 18, 313), 0)) (by decide +kernel)) (by decide +kernel) rfl hc_z
  replace hc_z := rn_iret (am_cur_of (i := (7, 1, .ireturn, (0, 0, 0), 0)) (by decide +kernel)) hc_z
  obtain ⟨e241_z, e242_z⟩ := hc_z
  replace hm_z := rn_aload_n (am_cur_of (i := (0, 1, .aload_n 0, (0, 0, 0), 0)) (by decide +kernel)) g0m hm_z
  replace hm_z := rn_iconst (w := 0) (am_cur_of (i := (1, 1, .iconst 0, (0, 0, 0), 0)) (by decide +kernel)) (by decide) hm_z
  replace hm_z := rn_put (am_cur_of (i := (2, 3, .putfield 139, (12, 2, 1386), 0)) (by decide +kernel)) (by decide +kernel) hm_z
  replace hm_z := rn_aload_n (am_cur_of (i := (5, 1, .aload_n 0, (0, 0, 0), 0)) (by decide +kernel)) g0m hm_z
  replace hm_z := rn_getI (v := rg_v g 164 58) (am_cur_of (i := (6, 3, .getfield 362, (12, 58, 1442), 0)) (by decide +kernel)) (by decide +kernel) (show rg_v (am_up g 164 2 (.int 0)) 164 58 = rg_v g 164 58 from rfl) hm_z
  replace hm_z := rn_iret (am_cur_of (i := (9, 1, .ireturn, (0, 0, 0), 0)) (by decide +kernel)) hm_z
  obtain ⟨e243_z, e244_z⟩ := hm_z
  rw [e241_z, e243_z]
  exact congrArg (fun q => some (Value.int q)) K
theorem lk_eq23 {n n' : Nat} {h h' g g' : am_H} {r r' : Option Value} (D : h 0 2 = .ref 23) (K : rg_v h 23 18 = rg_v g 164 58) (hc_z : rn n am_m86 0 (lv_args 0 [.ref 0]) [] h r h') (hm_z : rn n' am_m212 0 (lv_args 0 [.ref 164]) [] g r' g') : r = r' := by
  have g0_z : am_get (lv_args 0 [.ref 0]) 0 = some (.ref 0) := rfl
  have g0m : am_get (lv_args 0 [.ref 164]) 0 = some (.ref 164) := rfl
  replace hc_z := rn_aload_n (am_cur_of (i := (0, 1, .aload_n 0, (0, 0, 0), 0)) (by decide +kernel)) g0_z hc_z
  replace hc_z := rn_getM (x := 23) (am_cur_of (i := (1, 3, .getfield 18, (0, 2, 663), 0)) (by decide +kernel)) D hc_z
  replace hc_z := rn_getI (v := rg_v h 23 18) (am_cur_of (i := (4, 3, .getfield 250, (1, 18, 313), 0)) (by decide +kernel)) (by decide +kernel) rfl hc_z
  replace hc_z := rn_iret (am_cur_of (i := (7, 1, .ireturn, (0, 0, 0), 0)) (by decide +kernel)) hc_z
  obtain ⟨e245_z, e246_z⟩ := hc_z
  replace hm_z := rn_aload_n (am_cur_of (i := (0, 1, .aload_n 0, (0, 0, 0), 0)) (by decide +kernel)) g0m hm_z
  replace hm_z := rn_iconst (w := 0) (am_cur_of (i := (1, 1, .iconst 0, (0, 0, 0), 0)) (by decide +kernel)) (by decide) hm_z
  replace hm_z := rn_put (am_cur_of (i := (2, 3, .putfield 139, (12, 2, 1386), 0)) (by decide +kernel)) (by decide +kernel) hm_z
  replace hm_z := rn_aload_n (am_cur_of (i := (5, 1, .aload_n 0, (0, 0, 0), 0)) (by decide +kernel)) g0m hm_z
  replace hm_z := rn_getI (v := rg_v g 164 58) (am_cur_of (i := (6, 3, .getfield 362, (12, 58, 1442), 0)) (by decide +kernel)) (by decide +kernel) (show rg_v (am_up g 164 2 (.int 0)) 164 58 = rg_v g 164 58 from rfl) hm_z
  replace hm_z := rn_iret (am_cur_of (i := (9, 1, .ireturn, (0, 0, 0), 0)) (by decide +kernel)) hm_z
  obtain ⟨e247_z, e248_z⟩ := hm_z
  rw [e245_z, e247_z]
  exact congrArg (fun q => some (Value.int q)) K
theorem R7_y : ay_leak R7 := by
  intro t h h1_z h2_z r1_z r2_z n1_z n2_z hR hG hG1 hG2 F1 F2 rn1_z rn2_z
  have e58_z : rg_v h1_z 164 58 = rg_v h 164 58 := rg_v_fr F1 (by decide +kernel)
  rcases hR.1.1.1.1.1 with ⟨-, e⟩ | ⟨-, e⟩
  · exact lk_eq23 e ((hR.2 23 e).trans e58_z.symm) rn1_z rn2_z
  · exact lk_eq2 e ((hR.2 2 e).trans e58_z.symm) rn1_z rn2_z
