/-! ===== NUMBERS, WORDS, SIGNS OF BOTH SIDES (wip/r/gen99qd2.py) ===== -/
def rt_cv (T : Nat → Int32) (p : Nat) : Nat → Int
  | 0 => 0
  | j + 1 => if 1000000 < rt_cv T p j * 10 + (T (p + j)).toInt - 48 then 1000000 else rt_cv T p j * 10 + (T (p + j)).toInt - 48
def rt_mv (T : Nat → Int32) (p : Nat) : Nat → Int
  | 0 => 0
  | j + 1 => if 99999 < rt_mv T p j then rt_mv T p j else 10 * rt_mv T p j + (T (p + j)).toInt - 48
/-- alike up to 99999, else both above -/
theorem rt_nv {T : Nat → Int32} {p : Nat} : ∀ j, (∀ k, k < j → rd_dg (T (p + k)) = true) → 0 ≤ rt_cv T p j ∧ 0 ≤ rt_mv T p j ∧ (rt_cv T p j = rt_mv T p j ∨ (99999 < rt_cv T p j ∧ 99999 < rt_mv T p j)) := by
  intro j
  induction j with
  | zero => intro _; exact ⟨Int.le_refl _, Int.le_refl _, Or.inl rfl⟩
  | succ j ih_z =>
    intro hd_z
    obtain ⟨a, b, c⟩ := ih_z (fun k hk_z => hd_z k (by omega))
    have d := rd_dg_iff.mp (hd_z j (by omega))
    simp only [rt_cv, rt_mv]
    split <;> split <;> omega
/-- the class's letters, packed as it does -/
def rt_lt (T : Nat → Int32) (p : Nat) : Nat → Int32
  | 0 => 0
  | j + 1 => if j ≤ 5 then rt_lt T p j ||| ((T (p + j) - 97 + 1) <<< (Int32.ofNat (5 * (5 - j)) &&& 31)) else rt_lt T p j
/-- the model's -/
def rt_mp (T : Nat → Int32) (p e : Nat) : Nat → Int32
  | 0 => 0
  | j + 1 => (rt_mp T p e j <<< (5 &&& 31)) ||| (if p + j < e then T (p + j) - 96 else 0)
theorem rt_sh {x a : Int32} {j : Nat} (h : x.toInt - a.toInt = j) (hj_z : j ≤ 5) : 5 * (5 - (x - a)) = Int32.ofNat (5 * (5 - j)) := by
  have e : x - a = Int32.ofNat j := by
    apply Int32.toInt_inj.mp
    rw [ab_isub (by omega) (by omega), h]
    match j, hj_z with
    | 0, _ => rfl
    | 1, _ => rfl
    | 2, _ => rfl
    | 3, _ => rfl
    | 4, _ => rfl
    | 5, _ => rfl
  rw [e]
  match j, hj_z with
  | 0, _ => rfl
  | 1, _ => rfl
  | 2, _ => rfl
  | 3, _ => rfl
  | 4, _ => rfl
  | 5, _ => rfl
theorem rt_shs {x a : Int32} {j : Nat} (h : x.toInt - a.toInt = j) (hj_z : j ≤ 700) : (5 * (5 - (x - a))).toInt = 25 - 5 * j := by
  have z5_z : (5 : Int32).toInt = 5 := by decide
  have e1_z : (x - a).toInt = j := by rw [ab_isub (by omega) (by omega), h]
  have e2_z : (5 - (x - a)).toInt = 5 - j := by rw [ab_isub (by omega) (by omega), e1_z, z5_z]
  rw [Int32.toInt_mul, z5_z, e2_z]
  rw [ab_bm (by omega) (by omega)]
  omega
theorem rt_numC {T : Nat → Int32} {S : Int32} {r : Option Value} {h' : am_H} {p : Nat} : ∀ (n : Nat) (x v : Int32) (h : am_H) (ls : am_L), rt_C T S x h → rg_v h 44 11 = v → 0 ≤ v.toInt → v.toInt ≤ 1000000 → p ≤ x.toNatClampNeg → v.toInt = rt_cv T p (x.toNatClampNeg - p) → am_get ls 0 = some (.ref 44) → rn n am_m23 6 ls [] h r h' → r = none ∧ ∃ x2_z, rt_C T S x2_z h' ∧ x2_z.toNatClampNeg = rd_end rd_dg T S.toNatClampNeg x.toNatClampNeg ∧ ab_Fr rt_mC h h' ∧ rg_v h' 44 9 = rg_v h 44 9 ∧ rg_v h' 44 10 = rg_v h 44 10 ∧ (rg_v h' 44 11).toInt = rt_cv T p (x2_z.toNatClampNeg - p) := by
  intro n
  induction n with
  | zero => intro x v h ls hC ev_z v0_z v1_z hp_z hv_z g0_z hc_z; exact absurd hc_z rn_0
  | succ n ih_z =>
    intro x v h ls hC ev_z v0_z v1_z hp_z hv_z g0_z hc_z
    have hC' := hC
    obtain ⟨r1_z, r2_z, r3_z, r4_z, r5_z, r6_z, r7_z, r8_z⟩ := hC
    have cx_z := rt_cl r4_z
    have cS_z := rt_cl (x := S) (by omega)
    replace hc_z := rn_aload_n (am_cur_of (i := (10, 1, .aload_n 0, (0, 0, 0), 0)) (by decide +kernel)) g0_z hc_z
    replace hc_z := rn_getI (v := x) (am_cur_of (i := (11, 3, .getfield 54, (4, 8, 417), 0)) (by decide +kernel)) (by decide +kernel) r3_z hc_z
    replace hc_z := rn_aload_n (am_cur_of (i := (14, 1, .aload_n 0, (0, 0, 0), 0)) (by decide +kernel)) g0_z hc_z
    replace hc_z := rn_getI (v := S) (am_cur_of (i := (15, 3, .getfield 37, (4, 5, 414), 0)) (by decide +kernel)) (by decide +kernel) r2_z hc_z
    replace hc_z := rn_cmp (am_cur_of (i := (18, 3, .if_icmp .ge 60, (41, 0, 0), 0)) (by decide +kernel)) hc_z
    rcases hc_z with ⟨b53_z, hc_z⟩ | ⟨b53_z, hc_z⟩
    · replace b53_z : S.toInt ≤ x.toInt := b53_z
      replace hc_z := rn_vret (am_cur_of (i := (78, 1, .return_, (0, 0, 0), 0)) (by decide +kernel)) hc_z
      obtain ⟨e54_z, e55_z⟩ := hc_z
      subst e54_z e55_z
      have hz_z := rd_end_off (f := rd_dg) (T := T) (s := S.toNatClampNeg) (p := x.toNatClampNeg) (fun q => absurd q.1 (by omega))
      exact ⟨rfl, x, hC', hz_z.symm, ab_Fr_refl, rfl, rfl, by rw [ev_z]; exact hv_z⟩
    · replace b53_z : x.toInt < S.toInt := b53_z
      replace hc_z := rn_aload_n (am_cur_of (i := (21, 1, .aload_n 0, (0, 0, 0), 0)) (by decide +kernel)) g0_z hc_z
      replace hc_z := rn_getM (x := 1) (am_cur_of (i := (22, 3, .getfield 19, (4, 4, 413), 0)) (by decide +kernel)) r1_z hc_z
      replace hc_z := rn_aload_n (am_cur_of (i := (25, 1, .aload_n 0, (0, 0, 0), 0)) (by decide +kernel)) g0_z hc_z
      replace hc_z := rn_getI (v := x) (am_cur_of (i := (26, 3, .getfield 54, (4, 8, 417), 0)) (by decide +kernel)) (by decide +kernel) r3_z hc_z
      replace hc_z := rn_iaload (N := 700) (q := x.toNatClampNeg) (v := T x.toNatClampNeg) (am_cur_of (i := (29, 1, .iaload, (0, 0, 0), 0)) (by decide +kernel)) (by decide +kernel) rfl (r7_z _ (by omega)) hc_z
      obtain ⟨p56_z, hc_z⟩ := hc_z
      replace hc_z := rn_callS (M' := am_m22) (ar := [.int (T x.toNatClampNeg)]) (rest := []) (L := lv_args 0 [.int (T x.toNatClampNeg)]) (am_cur_of (i := (30, 3, .invokestatic 82, (22, 738, 3), 0)) (by decide +kernel)) rfl rfl rfl rfl hc_z
      obtain ⟨r57_z, h58_z, q59_z, hc_z⟩ := hc_z
      rcases rt_isDigit q59_z with ⟨rfl, l60h, l60_z⟩ | ⟨rfl, l60h, l60_z⟩
      · replace l60h := l60h.symm
        subst l60h
        replace hc_z : rn _ _ _ _ [.int 1] _ _ _ := hc_z
        replace hc_z := rn_ifF (am_cur_of (i := (33, 3, .ifCond .eq 45, (41, 0, 0), 0)) (by decide +kernel)) (by decide) hc_z
        replace hc_z := rn_aload_n (am_cur_of (i := (36, 1, .aload_n 0, (0, 0, 0), 0)) (by decide +kernel)) g0_z hc_z
        replace hc_z := rn_aload_n (am_cur_of (i := (37, 1, .aload_n 0, (0, 0, 0), 0)) (by decide +kernel)) g0_z hc_z
        replace hc_z := rn_getI (v := v) (am_cur_of (i := (38, 3, .getfield 91, (4, 11, 420), 0)) (by decide +kernel)) (by decide +kernel) ev_z hc_z
        replace hc_z := rn_bipush (w := 10) (am_cur_of (i := (41, 2, .bipush 10, (0, 0, 0), 0)) (by decide +kernel)) (by decide) hc_z
        replace hc_z := rn_imul (w := v * 10) (am_cur_of (i := (43, 1, .imul, (0, 0, 0), 0)) (by decide +kernel)) rfl hc_z
        replace hc_z := rn_aload_n (am_cur_of (i := (44, 1, .aload_n 0, (0, 0, 0), 0)) (by decide +kernel)) g0_z hc_z
        replace hc_z := rn_getM (x := 1) (am_cur_of (i := (45, 3, .getfield 19, (4, 4, 413), 0)) (by decide +kernel)) r1_z hc_z
        replace hc_z := rn_aload_n (am_cur_of (i := (48, 1, .aload_n 0, (0, 0, 0), 0)) (by decide +kernel)) g0_z hc_z
        replace hc_z := rn_getI (v := x) (am_cur_of (i := (49, 3, .getfield 54, (4, 8, 417), 0)) (by decide +kernel)) (by decide +kernel) r3_z hc_z
        replace hc_z := rn_iaload (N := 700) (q := x.toNatClampNeg) (v := T x.toNatClampNeg) (am_cur_of (i := (52, 1, .iaload, (0, 0, 0), 0)) (by decide +kernel)) (by decide +kernel) rfl (r7_z _ (by omega)) hc_z
        obtain ⟨p61_z, hc_z⟩ := hc_z
        replace hc_z := rn_iadd (w := (v * 10) + (T x.toNatClampNeg)) (am_cur_of (i := (53, 1, .iadd, (0, 0, 0), 0)) (by decide +kernel)) rfl hc_z
        replace hc_z := rn_bipush (w := 48) (am_cur_of (i := (54, 2, .bipush 48, (0, 0, 0), 0)) (by decide +kernel)) (by decide) hc_z
        replace hc_z := rn_isub (w := ((v * 10) + (T x.toNatClampNeg)) - 48) (am_cur_of (i := (56, 1, .isub, (0, 0, 0), 0)) (by decide +kernel)) rfl hc_z
        replace hc_z := rn_ldc (w := 1000000) (am_cur_of (i := (57, 2, .ldc 94, (0, 0, 745), 1000000)) (by decide +kernel)) (by decide) hc_z
        obtain ⟨m62_z, e63_z⟩ : ∃ mq : Int32, (if (1000000 : Int32) < ((v * 10) + (T x.toNatClampNeg)) - 48 then 1000000 else ((v * 10) + (T x.toNatClampNeg)) - 48) = mq := ⟨_, rfl⟩
        replace hc_z := rn_min (w := m62_z) (am_cur_of (i := (59, 3, .invokestatic 95, (0, 746, 2), 0)) (by decide +kernel)) e63_z hc_z
        replace hc_z := rn_put (am_cur_of (i := (62, 3, .putfield 91, (4, 11, 420), 0)) (by decide +kernel)) (by decide +kernel) hc_z
        replace hc_z := rn_aload_n (am_cur_of (i := (65, 1, .aload_n 0, (0, 0, 0), 0)) (by decide +kernel)) g0_z hc_z
        replace hc_z := rn_dup (am_cur_of (i := (66, 1, .dup, (0, 0, 0), 0)) (by decide +kernel)) hc_z
        replace hc_z := rn_getI (v := x) (am_cur_of (i := (67, 3, .getfield 54, (4, 8, 417), 0)) (by decide +kernel)) (by decide +kernel) (show rg_v (am_up h 44 11 (.int m62_z)) 44 8 = x from r3_z) hc_z
        replace hc_z := rn_iconst (w := 1) (am_cur_of (i := (70, 1, .iconst 1, (0, 0, 0), 0)) (by decide +kernel)) (by decide) hc_z
        replace hc_z := rn_iadd (w := x + 1) (am_cur_of (i := (71, 1, .iadd, (0, 0, 0), 0)) (by decide +kernel)) rfl hc_z
        replace hc_z := rn_put (am_cur_of (i := (72, 3, .putfield 54, (4, 8, 417), 0)) (by decide +kernel)) (by decide +kernel) hc_z
        replace hc_z := rn_gotoL (am_cur_of (i := (75, 3, .goto (-65), (6, 0, 0), 0)) (by decide +kernel)) hc_z
        have e1_z := rt_c1 r4_z (by omega)
        have cx1_z := rt_cl (x := x + 1) (by omega)
        have hd_z := rd_dg_iff.mp l60_z
        have z10_z : (10 : Int32).toInt = 10 := by decide
        have z48_z : (48 : Int32).toInt = 48 := by decide
        have zM : (1000000 : Int32).toInt = 1000000 := by decide
        have m1_z : (v * 10).toInt = v.toInt * 10 := by
          rw [Int32.toInt_mul, z10_z]
          exact ab_bm (by omega) (by omega)
        have m2_z := ab_iadd (x := v * 10) (y := T x.toNatClampNeg) (by omega) (by omega)
        have m3_z : (v * 10 + T x.toNatClampNeg - 48).toInt = v.toInt * 10 + (T x.toNatClampNeg).toInt - 48 := by
          rw [ab_isub (by omega) (by omega)]
          omega
        have hj_z : (x + 1).toNatClampNeg - p = (x.toNatClampNeg - p) + 1 := by omega
        have hm_z : m62_z.toInt = rt_cv T p ((x + 1).toNatClampNeg - p) ∧ 0 ≤ m62_z.toInt ∧ m62_z.toInt ≤ 1000000 := by
          rw [hj_z]
          show _ = (if 1000000 < rt_cv T p (x.toNatClampNeg - p) * 10 + (T (p + (x.toNatClampNeg - p))).toInt - 48 then _ else _) ∧ _
          rw [show p + (x.toNatClampNeg - p) = x.toNatClampNeg by omega, ← hv_z, ← e63_z]
          by_cases hb_z : (1000000 : Int32) < v * 10 + T x.toNatClampNeg - 48
          · rw [if_pos hb_z]
            have := Int32.lt_iff_toInt_lt.mp hb_z
            rw [if_pos (by omega)]
            omega
          · rw [if_neg hb_z]
            rw [Int32.lt_iff_toInt_lt] at hb_z
            rw [if_neg (by omega)]
            omega
        have hC1 : rt_C T S (x + 1) (am_up (am_up h 44 11 (.int m62_z)) 44 8 (.int (x + 1))) := ⟨r1_z, r2_z, rfl, by omega, by omega, r6_z, fun k hk_z => r7_z k hk_z, fun k hk_z => r8_z k hk_z⟩
        obtain ⟨q0_z, x2_z, q1_z, q2_z, q3_z, q4_z, q5_z, q6_z⟩ := ih_z (x + 1) _ _ ls hC1 rfl hm_z.2.1 hm_z.2.2 (by omega) hm_z.1 g0_z hc_z
        refine ⟨q0_z, x2_z, q1_z, ?_, ab_Fr_trans (ab_Fr_up (by decide) (ab_Fr_up (by decide) ab_Fr_refl)) q3_z, q4_z, q5_z, q6_z⟩
        rw [q2_z, rd_end_on (by omega) l60_z, show x.toNatClampNeg + 1 = (x + 1).toNatClampNeg by omega]
      · replace l60h := l60h.symm
        subst l60h
        replace hc_z : rn _ _ _ _ [.int 0] _ _ _ := hc_z
        replace hc_z := rn_ifT (am_cur_of (i := (33, 3, .ifCond .eq 45, (41, 0, 0), 0)) (by decide +kernel)) (by decide) hc_z
        replace hc_z := rn_vret (am_cur_of (i := (78, 1, .return_, (0, 0, 0), 0)) (by decide +kernel)) hc_z
        obtain ⟨e64_z, e65_z⟩ := hc_z
        subst e64_z e65_z
        have hz_z := rd_end_off (f := rd_dg) (T := T) (s := S.toNatClampNeg) (p := x.toNatClampNeg) (rt_noT l60_z)
        exact ⟨rfl, x, hC', hz_z.symm, ab_Fr_refl, rfl, rfl, by rw [ev_z]; exact hv_z⟩
theorem rt_anC {T : Nat → Int32} {S x : Int32} {n : Nat} {h h' : am_H} {r : Option Value} (hC : rt_C T S x h) (hc_z : rn n am_m23 0 (lv_args 0 [.ref 44]) [] h r h') : r = none ∧ ∃ x2_z, rt_C T S x2_z h' ∧ x2_z.toNatClampNeg = rd_end rd_dg T S.toNatClampNeg x.toNatClampNeg ∧ ab_Fr rt_mC h h' ∧ rg_v h' 44 9 = rg_v h 44 9 ∧ rg_v h' 44 10 = 4 ∧ (rg_v h' 44 11).toInt = rt_cv T x.toNatClampNeg (x2_z.toNatClampNeg - x.toNatClampNeg) := by
  have g0_z : am_get (lv_args 0 [.ref 44]) 0 = some (.ref 44) := rfl
  obtain ⟨r1_z, r2_z, r3_z, r4_z, r5_z, r6_z, r7_z, r8_z⟩ := hC
  have cx_z := rt_cl r4_z
  replace hc_z := rn_aload_n (am_cur_of (i := (0, 1, .aload_n 0, (0, 0, 0), 0)) (by decide +kernel)) g0_z hc_z
  replace hc_z := rn_iconst (w := 4) (am_cur_of (i := (1, 1, .iconst 4, (0, 0, 0), 0)) (by decide +kernel)) (by decide) hc_z
  replace hc_z := rn_put (am_cur_of (i := (2, 3, .putfield 60, (4, 10, 419), 0)) (by decide +kernel)) (by decide +kernel) hc_z
  replace hc_z := rn_aload_n (am_cur_of (i := (5, 1, .aload_n 0, (0, 0, 0), 0)) (by decide +kernel)) g0_z hc_z
  replace hc_z := rn_iconst (w := 0) (am_cur_of (i := (6, 1, .iconst 0, (0, 0, 0), 0)) (by decide +kernel)) (by decide) hc_z
  replace hc_z := rn_put (am_cur_of (i := (7, 3, .putfield 91, (4, 11, 420), 0)) (by decide +kernel)) (by decide +kernel) hc_z
  have hC1 : rt_C T S x (am_up (am_up h 44 10 (.int 4)) 44 11 (.int 0)) := ⟨r1_z, r2_z, r3_z, r4_z, r5_z, r6_z, fun k hk_z => r7_z k hk_z, fun k hk_z => r8_z k hk_z⟩
  obtain ⟨q0_z, x2_z, q1_z, q2_z, q3_z, q4_z, q5_z, q6_z⟩ := rt_numC (p := x.toNatClampNeg) _ x 0 _ _ hC1 rfl (by decide) (by decide) (Nat.le_refl _) (by rw [Nat.sub_self]; rfl) g0_z hc_z
  exact ⟨q0_z, x2_z, q1_z, q2_z, ab_Fr_trans (ab_Fr_up (by decide) (ab_Fr_up (by decide) ab_Fr_refl)) q3_z, q4_z, q5_z, q6_z⟩
theorem rt_lett {T : Nat → Int32} {S a : Int32} {r : Option Value} {h' : am_H} : ∀ (n : Nat) (x v : Int32) (h : am_H) (ls : am_L), rt_C T S x h → rg_v h 44 9 = a → 0 ≤ a.toInt → a.toInt ≤ x.toInt → v = rt_lt T a.toNatClampNeg (x.toNatClampNeg - a.toNatClampNeg) → am_get ls 0 = some (.ref 44) → am_get ls 1 = some (.int v) → rn n am_m21 2 ls [] h r h' → ∃ n2_z x2_z v2_z h2_z ls2_z, rt_C T S x2_z h2_z ∧ x2_z.toNatClampNeg = rd_end rd_sm T S.toNatClampNeg x.toNatClampNeg ∧ ab_Fr rt_mC h h2_z ∧ rg_v h2_z 44 9 = a ∧ v2_z = rt_lt T a.toNatClampNeg (x2_z.toNatClampNeg - a.toNatClampNeg) ∧ am_get ls2_z 0 = some (.ref 44) ∧ am_get ls2_z 1 = some (.int v2_z) ∧ rn n2_z am_m21 47 ls2_z [] h2_z r h' := by
  intro n
  induction n with
  | zero => intro x v h ls hC ea a0_z a1_z hv_z g0_z g1_z hc_z; exact absurd hc_z rn_0
  | succ n ih_z =>
    intro x v h ls hC ea a0_z a1_z hv_z g0_z g1_z hc_z
    have hC' := hC
    have z0_z : (0 : Int32).toInt = 0 := by decide
    obtain ⟨r1_z, r2_z, r3_z, r4_z, r5_z, r6_z, r7_z, r8_z⟩ := hC
    have cx_z := rt_cl r4_z
    have cS_z := rt_cl (x := S) (by omega)
    have ca_z := rt_cl a0_z
    have hsh := rt_shs (x := x) (a := a) (j := x.toNatClampNeg - a.toNatClampNeg) (by omega) (by omega)
    replace hc_z := rn_aload_n (am_cur_of (i := (2, 1, .aload_n 0, (0, 0, 0), 0)) (by decide +kernel)) g0_z hc_z
    replace hc_z := rn_getI (v := x) (am_cur_of (i := (3, 3, .getfield 54, (4, 8, 417), 0)) (by decide +kernel)) (by decide +kernel) r3_z hc_z
    replace hc_z := rn_aload_n (am_cur_of (i := (6, 1, .aload_n 0, (0, 0, 0), 0)) (by decide +kernel)) g0_z hc_z
    replace hc_z := rn_getI (v := S) (am_cur_of (i := (7, 3, .getfield 37, (4, 5, 414), 0)) (by decide +kernel)) (by decide +kernel) r2_z hc_z
    replace hc_z := rn_cmp (am_cur_of (i := (10, 3, .if_icmp .ge 68, (47, 0, 0), 0)) (by decide +kernel)) hc_z
    rcases hc_z with ⟨b66_z, hc_z⟩ | ⟨b66_z, hc_z⟩
    · replace b66_z : S.toInt ≤ x.toInt := b66_z
      have hz_z := rd_end_off (f := rd_sm) (T := T) (s := S.toNatClampNeg) (p := x.toNatClampNeg) (fun q => absurd q.1 (by omega))
      exact ⟨_, x, v, h, ls, hC', hz_z.symm, ab_Fr_refl, ea, hv_z, g0_z, g1_z, hc_z⟩
    · replace b66_z : x.toInt < S.toInt := b66_z
      replace hc_z := rn_aload_n (am_cur_of (i := (13, 1, .aload_n 0, (0, 0, 0), 0)) (by decide +kernel)) g0_z hc_z
      replace hc_z := rn_getM (x := 1) (am_cur_of (i := (14, 3, .getfield 19, (4, 4, 413), 0)) (by decide +kernel)) r1_z hc_z
      replace hc_z := rn_aload_n (am_cur_of (i := (17, 1, .aload_n 0, (0, 0, 0), 0)) (by decide +kernel)) g0_z hc_z
      replace hc_z := rn_getI (v := x) (am_cur_of (i := (18, 3, .getfield 54, (4, 8, 417), 0)) (by decide +kernel)) (by decide +kernel) r3_z hc_z
      replace hc_z := rn_iaload (N := 700) (q := x.toNatClampNeg) (v := T x.toNatClampNeg) (am_cur_of (i := (21, 1, .iaload, (0, 0, 0), 0)) (by decide +kernel)) (by decide +kernel) rfl (r7_z _ (by omega)) hc_z
      obtain ⟨p67_z, hc_z⟩ := hc_z
      replace hc_z := rn_callS (M' := am_m20) (ar := [.int (T x.toNatClampNeg)]) (rest := []) (L := lv_args 0 [.int (T x.toNatClampNeg)]) (am_cur_of (i := (22, 3, .invokestatic 75, (20, 731, 3), 0)) (by decide +kernel)) rfl rfl rfl rfl hc_z
      obtain ⟨r68_z, h69_z, q70_z, hc_z⟩ := hc_z
      rcases rt_isLetter q70_z with ⟨rfl, l71h, l71_z⟩ | ⟨rfl, l71h, l71_z⟩
      · replace l71h := l71h.symm
        subst l71h
        replace hc_z : rn _ _ _ _ [.int 1] _ _ _ := hc_z
        replace hc_z := rn_ifF (am_cur_of (i := (25, 3, .ifCond .eq 53, (47, 0, 0), 0)) (by decide +kernel)) (by decide) hc_z
        replace hc_z := rn_iconst (w := 5) (am_cur_of (i := (28, 1, .iconst 5, (0, 0, 0), 0)) (by decide +kernel)) (by decide) hc_z
        replace hc_z := rn_iconst (w := 5) (am_cur_of (i := (29, 1, .iconst 5, (0, 0, 0), 0)) (by decide +kernel)) (by decide) hc_z
        replace hc_z := rn_aload_n (am_cur_of (i := (30, 1, .aload_n 0, (0, 0, 0), 0)) (by decide +kernel)) g0_z hc_z
        replace hc_z := rn_getI (v := x) (am_cur_of (i := (31, 3, .getfield 54, (4, 8, 417), 0)) (by decide +kernel)) (by decide +kernel) r3_z hc_z
        replace hc_z := rn_aload_n (am_cur_of (i := (34, 1, .aload_n 0, (0, 0, 0), 0)) (by decide +kernel)) g0_z hc_z
        replace hc_z := rn_getI (v := a) (am_cur_of (i := (35, 3, .getfield 72, (4, 9, 418), 0)) (by decide +kernel)) (by decide +kernel) ea hc_z
        replace hc_z := rn_isub (w := x - a) (am_cur_of (i := (38, 1, .isub, (0, 0, 0), 0)) (by decide +kernel)) rfl hc_z
        replace hc_z := rn_isub (w := (5 : Int32) - (x - a)) (am_cur_of (i := (39, 1, .isub, (0, 0, 0), 0)) (by decide +kernel)) rfl hc_z
        replace hc_z := rn_imul (w := (5 : Int32) * ((5 : Int32) - (x - a))) (am_cur_of (i := (40, 1, .imul, (0, 0, 0), 0)) (by decide +kernel)) rfl hc_z
        replace hc_z := rn_istore_n (am_cur_of (i := (41, 1, .istore_n 2, (0, 0, 0), 0)) (by decide +kernel)) hc_z
        obtain ⟨_, s72_z, s73_z, g2_z, hc_z⟩ := hc_z
        replace g0_z := s72_z 0 _ (by decide) rfl g0_z
        replace g1_z := s72_z 1 _ (by decide) rfl g1_z
        clear s72_z s73_z
        replace hc_z := rn_iload_n (am_cur_of (i := (42, 1, .iload_n 2, (0, 0, 0), 0)) (by decide +kernel)) g2_z hc_z
        replace hc_z := rn_if (am_cur_of (i := (43, 3, .ifCond .lt 22, (40, 0, 0), 0)) (by decide +kernel)) hc_z
        rcases hc_z with ⟨b74_z, hc_z⟩ | ⟨b74_z, hc_z⟩
        · replace b74_z : ((5 : Int32) * ((5 : Int32) - (x - a))).toInt < (0 : Int32).toInt := b74_z
          replace hc_z := rn_aload_n (am_cur_of (i := (65, 1, .aload_n 0, (0, 0, 0), 0)) (by decide +kernel)) g0_z hc_z
          replace hc_z := rn_dup (am_cur_of (i := (66, 1, .dup, (0, 0, 0), 0)) (by decide +kernel)) hc_z
          replace hc_z := rn_getI (v := x) (am_cur_of (i := (67, 3, .getfield 54, (4, 8, 417), 0)) (by decide +kernel)) (by decide +kernel) r3_z hc_z
          replace hc_z := rn_iconst (w := 1) (am_cur_of (i := (70, 1, .iconst 1, (0, 0, 0), 0)) (by decide +kernel)) (by decide) hc_z
          replace hc_z := rn_iadd (w := x + 1) (am_cur_of (i := (71, 1, .iadd, (0, 0, 0), 0)) (by decide +kernel)) rfl hc_z
          replace hc_z := rn_put (am_cur_of (i := (72, 3, .putfield 54, (4, 8, 417), 0)) (by decide +kernel)) (by decide +kernel) hc_z
          replace hc_z := rn_gotoL (am_cur_of (i := (75, 3, .goto (-73), (2, 0, 0), 0)) (by decide +kernel)) hc_z
          have e1_z := rt_c1 r4_z (by omega)
          have cx1_z := rt_cl (x := x + 1) (by omega)
          have hj_z : (x + 1).toNatClampNeg - a.toNatClampNeg = (x.toNatClampNeg - a.toNatClampNeg) + 1 := by omega
          have hv2_z : v = rt_lt T a.toNatClampNeg ((x + 1).toNatClampNeg - a.toNatClampNeg) := by
            rw [hj_z]
            show v = (if _ then _ else _)
            rw [if_neg (by omega)]
            exact hv_z
          have hC1 : rt_C T S (x + 1) (am_up h 44 8 (.int (x + 1))) := ⟨r1_z, r2_z, rfl, by omega, by omega, r6_z, fun k hk_z => r7_z k hk_z, fun k hk_z => r8_z k hk_z⟩
          obtain ⟨n2_z, x2_z, v2_z, h2_z, ls2_z, q1_z, q2_z, q3_z, q4_z, q5_z⟩ := ih_z (x + 1) _ _ _ hC1 ea a0_z (by omega) hv2_z g0_z g1_z hc_z
          refine ⟨n2_z, x2_z, v2_z, h2_z, ls2_z, q1_z, ?_, ab_Fr_trans (ab_Fr_up (by decide) ab_Fr_refl) q3_z, q4_z, q5_z⟩
          rw [q2_z, rd_end_on (by omega) l71_z, show x.toNatClampNeg + 1 = (x + 1).toNatClampNeg by omega]
        · replace b74_z : (0 : Int32).toInt ≤ ((5 : Int32) * ((5 : Int32) - (x - a))).toInt := b74_z
          replace hc_z := rn_iload_n (am_cur_of (i := (46, 1, .iload_n 1, (0, 0, 0), 0)) (by decide +kernel)) g1_z hc_z
          replace hc_z := rn_aload_n (am_cur_of (i := (47, 1, .aload_n 0, (0, 0, 0), 0)) (by decide +kernel)) g0_z hc_z
          replace hc_z := rn_getM (x := 1) (am_cur_of (i := (48, 3, .getfield 19, (4, 4, 413), 0)) (by decide +kernel)) r1_z hc_z
          replace hc_z := rn_aload_n (am_cur_of (i := (51, 1, .aload_n 0, (0, 0, 0), 0)) (by decide +kernel)) g0_z hc_z
          replace hc_z := rn_getI (v := x) (am_cur_of (i := (52, 3, .getfield 54, (4, 8, 417), 0)) (by decide +kernel)) (by decide +kernel) r3_z hc_z
          replace hc_z := rn_iaload (N := 700) (q := x.toNatClampNeg) (v := T x.toNatClampNeg) (am_cur_of (i := (55, 1, .iaload, (0, 0, 0), 0)) (by decide +kernel)) (by decide +kernel) rfl (r7_z _ (by omega)) hc_z
          obtain ⟨p75_z, hc_z⟩ := hc_z
          replace hc_z := rn_bipush (w := 97) (am_cur_of (i := (56, 2, .bipush 97, (0, 0, 0), 0)) (by decide +kernel)) (by decide) hc_z
          replace hc_z := rn_isub (w := (T x.toNatClampNeg) - 97) (am_cur_of (i := (58, 1, .isub, (0, 0, 0), 0)) (by decide +kernel)) rfl hc_z
          replace hc_z := rn_iconst (w := 1) (am_cur_of (i := (59, 1, .iconst 1, (0, 0, 0), 0)) (by decide +kernel)) (by decide) hc_z
          replace hc_z := rn_iadd (w := ((T x.toNatClampNeg) - 97) + 1) (am_cur_of (i := (60, 1, .iadd, (0, 0, 0), 0)) (by decide +kernel)) rfl hc_z
          replace hc_z := rn_iload_n (am_cur_of (i := (61, 1, .iload_n 2, (0, 0, 0), 0)) (by decide +kernel)) g2_z hc_z
          replace hc_z := rn_ishl (w := (((T x.toNatClampNeg) - 97) + 1) <<< (((5 : Int32) * ((5 : Int32) - (x - a))) &&& 31)) (am_cur_of (i := (62, 1, .ishl, (0, 0, 0), 0)) (by decide +kernel)) rfl hc_z
          replace hc_z := rn_ior (w := v ||| ((((T x.toNatClampNeg) - 97) + 1) <<< (((5 : Int32) * ((5 : Int32) - (x - a))) &&& 31))) (am_cur_of (i := (63, 1, .ior, (0, 0, 0), 0)) (by decide +kernel)) rfl hc_z
          replace hc_z := rn_istore_n (am_cur_of (i := (64, 1, .istore_n 1, (0, 0, 0), 0)) (by decide +kernel)) hc_z
          obtain ⟨_, s76_z, s77_z, g1_z, hc_z⟩ := hc_z
          replace g0_z := s76_z 0 _ (by decide) rfl g0_z
          replace g2_z := s76_z 2 _ (by decide) rfl g2_z
          clear s76_z s77_z
          replace hc_z := rn_aload_n (am_cur_of (i := (65, 1, .aload_n 0, (0, 0, 0), 0)) (by decide +kernel)) g0_z hc_z
          replace hc_z := rn_dup (am_cur_of (i := (66, 1, .dup, (0, 0, 0), 0)) (by decide +kernel)) hc_z
          replace hc_z := rn_getI (v := x) (am_cur_of (i := (67, 3, .getfield 54, (4, 8, 417), 0)) (by decide +kernel)) (by decide +kernel) r3_z hc_z
          replace hc_z := rn_iconst (w := 1) (am_cur_of (i := (70, 1, .iconst 1, (0, 0, 0), 0)) (by decide +kernel)) (by decide) hc_z
          replace hc_z := rn_iadd (w := x + 1) (am_cur_of (i := (71, 1, .iadd, (0, 0, 0), 0)) (by decide +kernel)) rfl hc_z
          replace hc_z := rn_put (am_cur_of (i := (72, 3, .putfield 54, (4, 8, 417), 0)) (by decide +kernel)) (by decide +kernel) hc_z
          replace hc_z := rn_gotoL (am_cur_of (i := (75, 3, .goto (-73), (2, 0, 0), 0)) (by decide +kernel)) hc_z
          have e1_z := rt_c1 r4_z (by omega)
          have cx1_z := rt_cl (x := x + 1) (by omega)
          have hj_z : (x + 1).toNatClampNeg - a.toNatClampNeg = (x.toNatClampNeg - a.toNatClampNeg) + 1 := by omega
          have hv2_z : v ||| ((((T x.toNatClampNeg) - 97) + 1) <<< (((5 : Int32) * ((5 : Int32) - (x - a))) &&& 31)) = rt_lt T a.toNatClampNeg ((x + 1).toNatClampNeg - a.toNatClampNeg) := by
            rw [hj_z]
            show _ = (if _ then rt_lt T a.toNatClampNeg (x.toNatClampNeg - a.toNatClampNeg) ||| _ else _)
            rw [if_pos (by omega), ← hv_z, show a.toNatClampNeg + (x.toNatClampNeg - a.toNatClampNeg) = x.toNatClampNeg by omega, rt_sh (x := x) (a := a) (j := x.toNatClampNeg - a.toNatClampNeg) (by omega) (by omega)]
          have hC1 : rt_C T S (x + 1) (am_up h 44 8 (.int (x + 1))) := ⟨r1_z, r2_z, rfl, by omega, by omega, r6_z, fun k hk_z => r7_z k hk_z, fun k hk_z => r8_z k hk_z⟩
          obtain ⟨n2_z, x2_z, v2_z, h2_z, ls2_z, q1_z, q2_z, q3_z, q4_z, q5_z⟩ := ih_z (x + 1) _ _ _ hC1 ea a0_z (by omega) hv2_z g0_z g1_z hc_z
          refine ⟨n2_z, x2_z, v2_z, h2_z, ls2_z, q1_z, ?_, ab_Fr_trans (ab_Fr_up (by decide) ab_Fr_refl) q3_z, q4_z, q5_z⟩
          rw [q2_z, rd_end_on (by omega) l71_z, show x.toNatClampNeg + 1 = (x + 1).toNatClampNeg by omega]
      · replace l71h := l71h.symm
        subst l71h
        replace hc_z : rn _ _ _ _ [.int 0] _ _ _ := hc_z
        replace hc_z := rn_ifT (am_cur_of (i := (25, 3, .ifCond .eq 53, (47, 0, 0), 0)) (by decide +kernel)) (by decide) hc_z
        have hz_z := rd_end_off (f := rd_sm) (T := T) (s := S.toNatClampNeg) (p := x.toNatClampNeg) (rt_noT l71_z)
        exact ⟨_, x, v, h, ls, hC', hz_z.symm, ab_Fr_refl, ea, hv_z, g0_z, g1_z, hc_z⟩
def rt_kd (k : Nat) : Int32 := if k < 17 then 2 else 6
def rt_vl (k : Nat) : Int32 := if k < 17 then Int32.ofNat k else Int32.ofNat (k - 14)
/-- the word's kind and value, by its letters packed -/
def rt_wd (v kd vl : Int32) : Prop := (∃ k, k < 20 ∧ rt_w k = v ∧ kd = rt_kd k ∧ vl = rt_vl k) ∨ ((∀ k, k < 20 → ¬ rt_w k = v) ∧ kd = 3 ∧ vl = v)
theorem rt_i20 {i : Int32} (h0_z : 0 ≤ i.toInt) (h1_z : i.toInt < 20) : i = Int32.ofNat i.toNatClampNeg := by
  have c := rt_cl h0_z
  apply Int32.toInt_inj.mp
  rw [Int32.toInt_ofNat_of_lt (by omega)]
  omega
theorem rt_tab {v : Int32} {r : Option Value} {h' : am_H} : ∀ (n : Nat) (i kd : Int32) (h : am_H) (ls : am_L), (∀ k, k < 20 → rg_v h 45 k = rt_w k) → rg_v h 44 10 = kd → 0 ≤ i.toInt → i.toInt ≤ 20 → am_get ls 0 = some (.ref 44) → am_get ls 1 = some (.int v) → am_get ls 2 = some (.int i) → rn n am_m21 64 ls [] h r h' → r = none ∧ ((¬ kd = 3 ∧ h' = h) ∨ (kd = 3 ∧ ((∃ k, i.toNatClampNeg ≤ k ∧ k < 20 ∧ rt_w k = v ∧ h' = am_up (am_up h 44 10 (.int (rt_kd k))) 44 11 (.int (rt_vl k))) ∨ ((∀ k, i.toNatClampNeg ≤ k → k < 20 → ¬ rt_w k = v) ∧ h' = h)))) := by
  intro n
  induction n with
  | zero => intro i kd h ls r8_z ek i0_z i1_z g0_z g1_z g2_z hc_z; exact absurd hc_z rn_0
  | succ n ih_z =>
    intro i kd h ls r8_z ek i0_z i1_z g0_z g1_z g2_z hc_z
    have z3_z : (3 : Int32).toInt = 3 := by decide
    have z17_z : (17 : Int32).toInt = 17 := by decide
    have z20_z : (20 : Int32).toInt = 20 := by decide
    have ci_z := rt_cl i0_z
    replace hc_z := rn_iload_n (am_cur_of (i := (108, 1, .iload_n 2, (0, 0, 0), 0)) (by decide +kernel)) g2_z hc_z
    replace hc_z := rn_bipush (w := 20) (am_cur_of (i := (109, 2, .bipush 20, (0, 0, 0), 0)) (by decide +kernel)) (by decide) hc_z
    replace hc_z := rn_cmp (am_cur_of (i := (111, 3, .if_icmp .ge 63, (99, 0, 0), 0)) (by decide +kernel)) hc_z
    rcases hc_z with ⟨b78_z, hc_z⟩ | ⟨b78_z, hc_z⟩
    · replace b78_z : (20 : Int32).toInt ≤ i.toInt := b78_z
      replace hc_z := rn_vret (am_cur_of (i := (174, 1, .return_, (0, 0, 0), 0)) (by decide +kernel)) hc_z
      obtain ⟨e79_z, e80_z⟩ := hc_z
      subst e79_z e80_z
      by_cases hk_z : kd = 3
      · exact ⟨rfl, Or.inr ⟨hk_z, Or.inr ⟨fun k h1_z h2_z => absurd h1_z (by omega), rfl⟩⟩⟩
      · exact ⟨rfl, Or.inl ⟨hk_z, rfl⟩⟩
    · replace b78_z : i.toInt < (20 : Int32).toInt := b78_z
      replace hc_z := rn_aload_n (am_cur_of (i := (114, 1, .aload_n 0, (0, 0, 0), 0)) (by decide +kernel)) g0_z hc_z
      replace hc_z := rn_getI (v := kd) (am_cur_of (i := (115, 3, .getfield 60, (4, 10, 419), 0)) (by decide +kernel)) (by decide +kernel) ek hc_z
      replace hc_z := rn_iconst (w := 3) (am_cur_of (i := (118, 1, .iconst 3, (0, 0, 0), 0)) (by decide +kernel)) (by decide) hc_z
      replace hc_z := rn_cmp (am_cur_of (i := (119, 3, .if_icmp .ne 55, (99, 0, 0), 0)) (by decide +kernel)) hc_z
      rcases hc_z with ⟨b81_z, hc_z⟩ | ⟨b81_z, hc_z⟩
      · replace b81_z : ¬ kd = (3 : Int32) ∧ ¬ kd.toInt = (3 : Int32).toInt := b81_z
        replace hc_z := rn_vret (am_cur_of (i := (174, 1, .return_, (0, 0, 0), 0)) (by decide +kernel)) hc_z
        obtain ⟨e82_z, e83_z⟩ := hc_z
        subst e82_z e83_z
        exact ⟨rfl, Or.inl ⟨b81_z.1, rfl⟩⟩
      · replace b81_z : kd = (3 : Int32) ∧ kd.toInt = (3 : Int32).toInt := b81_z
        replace hc_z := rn_aload_n (am_cur_of (i := (122, 1, .aload_n 0, (0, 0, 0), 0)) (by decide +kernel)) g0_z hc_z
        replace hc_z := rn_getR (x := 45) (am_cur_of (i := (123, 3, .getfield 15, (4, 3, 412), 0)) (by decide +kernel)) (by decide +kernel) hc_z
        replace hc_z := rn_iload_n (am_cur_of (i := (126, 1, .iload_n 2, (0, 0, 0), 0)) (by decide +kernel)) g2_z hc_z
        replace hc_z := rn_iaload (N := 20) (q := i.toNatClampNeg) (v := rt_w i.toNatClampNeg) (am_cur_of (i := (127, 1, .iaload, (0, 0, 0), 0)) (by decide +kernel)) (by decide +kernel) rfl (r8_z _ (by omega)) hc_z
        obtain ⟨p84_z, hc_z⟩ := hc_z
        replace hc_z := rn_iload_n (am_cur_of (i := (128, 1, .iload_n 1, (0, 0, 0), 0)) (by decide +kernel)) g1_z hc_z
        replace hc_z := rn_cmp (am_cur_of (i := (129, 3, .if_icmp .ne 39, (97, 0, 0), 0)) (by decide +kernel)) hc_z
        rcases hc_z with ⟨b85_z, hc_z⟩ | ⟨b85_z, hc_z⟩
        · replace b85_z : ¬ (rt_w i.toNatClampNeg) = v ∧ ¬ (rt_w i.toNatClampNeg).toInt = v.toInt := b85_z
          replace hc_z := rn_iinc (w := i + 1) (am_cur_of (i := (168, 3, .iinc 2 1, (0, 0, 0), 0)) (by decide +kernel)) g2_z rfl hc_z
          obtain ⟨_, s86_z, s87_z, g2_z, hc_z⟩ := hc_z
          replace g0_z := s86_z 0 _ (by decide) rfl g0_z
          replace g1_z := s86_z 1 _ (by decide) rfl g1_z
          clear s86_z s87_z
          replace hc_z := rn_gotoL (am_cur_of (i := (171, 3, .goto (-63), (64, 0, 0), 0)) (by decide +kernel)) hc_z
          have e1_z := rt_c1 i0_z (by omega)
          have ci1_z := rt_cl (x := i + 1) (by omega)
          obtain ⟨q0_z, q⟩ := ih_z (i + 1) kd _ _ r8_z ek (by omega) (by omega) g0_z g1_z g2_z hc_z
          refine ⟨q0_z, ?_⟩
          rcases q with ⟨q, e⟩ | ⟨q, ⟨k, k1_z, k2_z, k3_z⟩ | ⟨q2_z, e⟩⟩
          · exact Or.inl ⟨q, e⟩
          · exact Or.inr ⟨q, Or.inl ⟨k, by omega, k2_z, k3_z⟩⟩
          · refine Or.inr ⟨q, Or.inr ⟨fun k k1_z k2_z => ?_, e⟩⟩
            by_cases hk_z : k = i.toNatClampNeg
            · rw [hk_z]
              exact b85_z.1
            · exact q2_z k (by omega) k2_z
        · replace b85_z : (rt_w i.toNatClampNeg) = v ∧ (rt_w i.toNatClampNeg).toInt = v.toInt := b85_z
          replace hc_z := rn_aload_n (am_cur_of (i := (132, 1, .aload_n 0, (0, 0, 0), 0)) (by decide +kernel)) g0_z hc_z
          replace hc_z := rn_iload_n (am_cur_of (i := (133, 1, .iload_n 2, (0, 0, 0), 0)) (by decide +kernel)) g2_z hc_z
          replace hc_z := rn_bipush (w := 17) (am_cur_of (i := (134, 2, .bipush 17, (0, 0, 0), 0)) (by decide +kernel)) (by decide) hc_z
          replace hc_z := rn_cmp (am_cur_of (i := (136, 3, .if_icmp .ge 7, (83, 0, 0), 0)) (by decide +kernel)) hc_z
          rcases hc_z with ⟨b88_z, hc_z⟩ | ⟨b88_z, hc_z⟩
          · replace b88_z : (17 : Int32).toInt ≤ i.toInt := b88_z
            replace hc_z := rn_bipush (w := 6) (am_cur_of (i := (143, 2, .bipush 6, (0, 0, 0), 0)) (by decide +kernel)) (by decide) hc_z
            replace hc_z := rn_put (am_cur_of (i := (145, 3, .putfield 60, (4, 10, 419), 0)) (by decide +kernel)) (by decide +kernel) hc_z
            replace hc_z := rn_aload_n (am_cur_of (i := (148, 1, .aload_n 0, (0, 0, 0), 0)) (by decide +kernel)) g0_z hc_z
            replace hc_z := rn_iload_n (am_cur_of (i := (149, 1, .iload_n 2, (0, 0, 0), 0)) (by decide +kernel)) g2_z hc_z
            replace hc_z := rn_bipush (w := 17) (am_cur_of (i := (150, 2, .bipush 17, (0, 0, 0), 0)) (by decide +kernel)) (by decide) hc_z
            replace hc_z := rn_cmp (am_cur_of (i := (152, 3, .if_icmp .ge 7, (91, 0, 0), 0)) (by decide +kernel)) hc_z
            rcases hc_z with ⟨b89_z, hc_z⟩ | ⟨b89_z, hc_z⟩
            · replace b89_z : (17 : Int32).toInt ≤ i.toInt := b89_z
              replace hc_z := rn_iconst (w := 3) (am_cur_of (i := (159, 1, .iconst 3, (0, 0, 0), 0)) (by decide +kernel)) (by decide) hc_z
              replace hc_z := rn_iload_n (am_cur_of (i := (160, 1, .iload_n 2, (0, 0, 0), 0)) (by decide +kernel)) g2_z hc_z
              replace hc_z := rn_iadd (w := (3 : Int32) + i) (am_cur_of (i := (161, 1, .iadd, (0, 0, 0), 0)) (by decide +kernel)) rfl hc_z
              replace hc_z := rn_bipush (w := 17) (am_cur_of (i := (162, 2, .bipush 17, (0, 0, 0), 0)) (by decide +kernel)) (by decide) hc_z
              replace hc_z := rn_isub (w := ((3 : Int32) + i) - 17) (am_cur_of (i := (164, 1, .isub, (0, 0, 0), 0)) (by decide +kernel)) rfl hc_z
              replace hc_z := rn_put (am_cur_of (i := (165, 3, .putfield 91, (4, 11, 420), 0)) (by decide +kernel)) (by decide +kernel) hc_z
              replace hc_z := rn_iinc (w := i + 1) (am_cur_of (i := (168, 3, .iinc 2 1, (0, 0, 0), 0)) (by decide +kernel)) g2_z rfl hc_z
              obtain ⟨_, s90_z, s91_z, g2_z, hc_z⟩ := hc_z
              replace g0_z := s90_z 0 _ (by decide) rfl g0_z
              replace g1_z := s90_z 1 _ (by decide) rfl g1_z
              clear s90_z s91_z
              replace hc_z := rn_gotoL (am_cur_of (i := (171, 3, .goto (-63), (64, 0, 0), 0)) (by decide +kernel)) hc_z
              have e1_z := rt_c1 i0_z (by omega)
              have ci1_z := rt_cl (x := i + 1) (by omega)
              obtain ⟨q0_z, q⟩ := ih_z (i + 1) 6 (am_up (am_up h 44 10 (.int 6)) 44 11 (.int (((3 : Int32) + i) - 17))) _ (fun k hk_z => r8_z k hk_z) rfl (by omega) (by omega) g0_z g1_z g2_z hc_z
              refine ⟨q0_z, ?_⟩
              rcases q with ⟨q, e⟩ | ⟨q, -⟩
              · refine Or.inr ⟨b81_z.1, Or.inl ⟨i.toNatClampNeg, Nat.le_refl _, by omega, b85_z.1, ?_⟩⟩
                have hk_z : rt_kd i.toNatClampNeg = 6 := if_neg (by omega)
                have hv_z : rt_vl i.toNatClampNeg = ((3 : Int32) + i) - 17 := by
                  unfold rt_vl
                  rw [if_neg (by omega)]
                  apply Int32.toInt_inj.mp
                  have z3_z : (3 : Int32).toInt = 3 := by decide
                  have z17_z : (17 : Int32).toInt = 17 := by decide
                  have y1_z : ((3 : Int32) + i).toInt = 3 + i.toInt := by rw [ab_iadd (by omega) (by omega), z3_z]
                  rw [Int32.toInt_ofNat_of_lt (by omega), ab_isub (by omega) (by omega), y1_z, z17_z]
                  omega
                rw [hk_z, hv_z]
                exact e
              · exact absurd q (by decide)
            · replace b89_z : i.toInt < (17 : Int32).toInt := b89_z
              omega
          · replace b88_z : i.toInt < (17 : Int32).toInt := b88_z
            replace hc_z := rn_iconst (w := 2) (am_cur_of (i := (139, 1, .iconst 2, (0, 0, 0), 0)) (by decide +kernel)) (by decide) hc_z
            replace hc_z := rn_goto (am_cur_of (i := (140, 3, .goto 5, (84, 0, 0), 0)) (by decide +kernel)) hc_z
            replace hc_z := rn_put (am_cur_of (i := (145, 3, .putfield 60, (4, 10, 419), 0)) (by decide +kernel)) (by decide +kernel) hc_z
            replace hc_z := rn_aload_n (am_cur_of (i := (148, 1, .aload_n 0, (0, 0, 0), 0)) (by decide +kernel)) g0_z hc_z
            replace hc_z := rn_iload_n (am_cur_of (i := (149, 1, .iload_n 2, (0, 0, 0), 0)) (by decide +kernel)) g2_z hc_z
            replace hc_z := rn_bipush (w := 17) (am_cur_of (i := (150, 2, .bipush 17, (0, 0, 0), 0)) (by decide +kernel)) (by decide) hc_z
            replace hc_z := rn_cmp (am_cur_of (i := (152, 3, .if_icmp .ge 7, (91, 0, 0), 0)) (by decide +kernel)) hc_z
            rcases hc_z with ⟨b92_z, hc_z⟩ | ⟨b92_z, hc_z⟩
            · replace b92_z : (17 : Int32).toInt ≤ i.toInt := b92_z
              omega
            · replace b92_z : i.toInt < (17 : Int32).toInt := b92_z
              replace hc_z := rn_iload_n (am_cur_of (i := (155, 1, .iload_n 2, (0, 0, 0), 0)) (by decide +kernel)) g2_z hc_z
              replace hc_z := rn_goto (am_cur_of (i := (156, 3, .goto 9, (96, 0, 0), 0)) (by decide +kernel)) hc_z
              replace hc_z := rn_put (am_cur_of (i := (165, 3, .putfield 91, (4, 11, 420), 0)) (by decide +kernel)) (by decide +kernel) hc_z
              replace hc_z := rn_iinc (w := i + 1) (am_cur_of (i := (168, 3, .iinc 2 1, (0, 0, 0), 0)) (by decide +kernel)) g2_z rfl hc_z
              obtain ⟨_, s93_z, s94_z, g2_z, hc_z⟩ := hc_z
              replace g0_z := s93_z 0 _ (by decide) rfl g0_z
              replace g1_z := s93_z 1 _ (by decide) rfl g1_z
              clear s93_z s94_z
              replace hc_z := rn_gotoL (am_cur_of (i := (171, 3, .goto (-63), (64, 0, 0), 0)) (by decide +kernel)) hc_z
              have e1_z := rt_c1 i0_z (by omega)
              have ci1_z := rt_cl (x := i + 1) (by omega)
              obtain ⟨q0_z, q⟩ := ih_z (i + 1) 2 (am_up (am_up h 44 10 (.int 2)) 44 11 (.int i)) _ (fun k hk_z => r8_z k hk_z) rfl (by omega) (by omega) g0_z g1_z g2_z hc_z
              refine ⟨q0_z, ?_⟩
              rcases q with ⟨q, e⟩ | ⟨q, -⟩
              · refine Or.inr ⟨b81_z.1, Or.inl ⟨i.toNatClampNeg, Nat.le_refl _, by omega, b85_z.1, ?_⟩⟩
                have hk_z : rt_kd i.toNatClampNeg = 2 := if_pos (by omega)
                have hv_z : rt_vl i.toNatClampNeg = i := by
                  unfold rt_vl
                  rw [if_pos (by omega)]
                  exact (rt_i20 i0_z (by omega)).symm
                rw [hk_z, hv_z]
                exact e
              · exact absurd q (by decide)
theorem rt_awC {T : Nat → Int32} {S x : Int32} {n : Nat} {h h' : am_H} {r : Option Value} (hC : rt_C T S x h) (ea : rg_v h 44 9 = x) (hc_z : rn n am_m21 0 (lv_args 0 [.ref 44]) [] h r h') : r = none ∧ ∃ x2_z, rt_C T S x2_z h' ∧ x2_z.toNatClampNeg = rd_end rd_sm T S.toNatClampNeg x.toNatClampNeg ∧ ab_Fr rt_mC h h' ∧ rg_v h' 44 9 = x ∧ ((6 < x2_z.toInt - x.toInt ∧ rg_v h' 44 10 = 1) ∨ (x2_z.toInt - x.toInt ≤ 6 ∧ rt_wd (rt_lt T x.toNatClampNeg (x2_z.toNatClampNeg - x.toNatClampNeg)) (rg_v h' 44 10) (rg_v h' 44 11))) := by
  have z6_z : (6 : Int32).toInt = 6 := by decide
  have g0_z : am_get (lv_args 0 [.ref 44]) 0 = some (.ref 44) := rfl
  have hC2 := hC
  obtain ⟨r1_z, r2_z, r3_z, r4_z, r5_z, r6_z, r7_z, r8_z⟩ := hC
  have cx_z := rt_cl r4_z
  have cS_z := rt_cl (x := S) (by omega)
  replace hc_z := rn_iconst (w := 0) (am_cur_of (i := (0, 1, .iconst 0, (0, 0, 0), 0)) (by decide +kernel)) (by decide) hc_z
  replace hc_z := rn_istore_n (am_cur_of (i := (1, 1, .istore_n 1, (0, 0, 0), 0)) (by decide +kernel)) hc_z
  obtain ⟨_, s95_z, s96_z, g1_z, hc_z⟩ := hc_z
  replace g0_z := s95_z 0 _ (by decide) rfl g0_z
  clear s95_z s96_z
  obtain ⟨n2_z, x2_z, v2_z, h2_z, ls2_z, q1_z, q2_z, q3_z, q4_z, q5_z, g0_z, g1_z, hc_z⟩ := rt_lett _ x 0 _ _ hC2 ea r4_z (Int.le_refl _) (by rw [Nat.sub_self]; rfl) g0_z g1_z hc_z
  have q1_z' := q1_z
  obtain ⟨r1_z, r2_z, r3_z, s4_z, s5_z, -, r7_z, r8_z⟩ := q1_z
  have cy_z := rt_cl s4_z
  have hle := (rd_end_le (f := rd_sm) (T := T) (s := S.toNatClampNeg) (p := x.toNatClampNeg) (by omega)).1
  have hsub := ab_isub (x := x2_z) (y := x) (by omega) (by omega)
  replace hc_z := rn_aload_n (am_cur_of (i := (78, 1, .aload_n 0, (0, 0, 0), 0)) (by decide +kernel)) g0_z hc_z
  replace hc_z := rn_aload_n (am_cur_of (i := (79, 1, .aload_n 0, (0, 0, 0), 0)) (by decide +kernel)) g0_z hc_z
  replace hc_z := rn_getI (v := x2_z) (am_cur_of (i := (80, 3, .getfield 54, (4, 8, 417), 0)) (by decide +kernel)) (by decide +kernel) r3_z hc_z
  replace hc_z := rn_aload_n (am_cur_of (i := (83, 1, .aload_n 0, (0, 0, 0), 0)) (by decide +kernel)) g0_z hc_z
  replace hc_z := rn_getI (v := x) (am_cur_of (i := (84, 3, .getfield 72, (4, 9, 418), 0)) (by decide +kernel)) (by decide +kernel) q4_z hc_z
  replace hc_z := rn_isub (w := x2_z - x) (am_cur_of (i := (87, 1, .isub, (0, 0, 0), 0)) (by decide +kernel)) rfl hc_z
  replace hc_z := rn_bipush (w := 6) (am_cur_of (i := (88, 2, .bipush 6, (0, 0, 0), 0)) (by decide +kernel)) (by decide) hc_z
  replace hc_z := rn_cmp (am_cur_of (i := (90, 3, .if_icmp .le 7, (57, 0, 0), 0)) (by decide +kernel)) hc_z
  rcases hc_z with ⟨b97_z, hc_z⟩ | ⟨b97_z, hc_z⟩
  · replace b97_z : (x2_z - x).toInt ≤ (6 : Int32).toInt := b97_z
    replace hc_z := rn_iconst (w := 3) (am_cur_of (i := (97, 1, .iconst 3, (0, 0, 0), 0)) (by decide +kernel)) (by decide) hc_z
    replace hc_z := rn_put (am_cur_of (i := (98, 3, .putfield 60, (4, 10, 419), 0)) (by decide +kernel)) (by decide +kernel) hc_z
    replace hc_z := rn_aload_n (am_cur_of (i := (101, 1, .aload_n 0, (0, 0, 0), 0)) (by decide +kernel)) g0_z hc_z
    replace hc_z := rn_iload_n (am_cur_of (i := (102, 1, .iload_n 1, (0, 0, 0), 0)) (by decide +kernel)) g1_z hc_z
    replace hc_z := rn_put (am_cur_of (i := (103, 3, .putfield 91, (4, 11, 420), 0)) (by decide +kernel)) (by decide +kernel) hc_z
    replace hc_z := rn_iconst (w := 0) (am_cur_of (i := (106, 1, .iconst 0, (0, 0, 0), 0)) (by decide +kernel)) (by decide) hc_z
    replace hc_z := rn_istore_n (am_cur_of (i := (107, 1, .istore_n 2, (0, 0, 0), 0)) (by decide +kernel)) hc_z
    obtain ⟨_, s98_z, s99_z, g2_z, hc_z⟩ := hc_z
    replace g0_z := s98_z 0 _ (by decide) rfl g0_z
    replace g1_z := s98_z 1 _ (by decide) rfl g1_z
    clear s98_z s99_z
    have R := rt_tab _ 0 3 (am_up (am_up h2_z 44 10 (.int 3)) 44 11 (.int v2_z)) _ (fun k hk_z => r8_z k hk_z) rfl (by decide) (by decide) g0_z g1_z g2_z hc_z
    obtain ⟨q0_z, R⟩ := R
    rcases R with ⟨R, -⟩ | ⟨-, ⟨k, k1_z, k2_z, k3_z, e⟩ | ⟨k1_z, e⟩⟩
    · exact absurd rfl R
    · subst e
      exact ⟨q0_z, x2_z, ⟨r1_z, r2_z, r3_z, s4_z, s5_z, r6_z, fun k hk_z => r7_z k hk_z, fun k hk_z => r8_z k hk_z⟩, q2_z, ab_Fr_trans q3_z (ab_Fr_up (by decide) (ab_Fr_up (by decide) (ab_Fr_up (by decide) (ab_Fr_up (by decide) ab_Fr_refl)))), q4_z, Or.inr ⟨by omega, Or.inl ⟨k, k2_z, by rw [k3_z, q5_z], rfl, rfl⟩⟩⟩
    · subst e
      exact ⟨q0_z, x2_z, ⟨r1_z, r2_z, r3_z, s4_z, s5_z, r6_z, fun k hk_z => r7_z k hk_z, fun k hk_z => r8_z k hk_z⟩, q2_z, ab_Fr_trans q3_z (ab_Fr_up (by decide) (ab_Fr_up (by decide) ab_Fr_refl)), q4_z, Or.inr ⟨by omega, Or.inr ⟨fun k k2_z => by rw [← q5_z]; exact k1_z k (Nat.zero_le _) k2_z, rfl, q5_z⟩⟩⟩
  · replace b97_z : (6 : Int32).toInt < (x2_z - x).toInt := b97_z
    replace hc_z := rn_iconst (w := 1) (am_cur_of (i := (93, 1, .iconst 1, (0, 0, 0), 0)) (by decide +kernel)) (by decide) hc_z
    replace hc_z := rn_goto (am_cur_of (i := (94, 3, .goto 4, (58, 0, 0), 0)) (by decide +kernel)) hc_z
    replace hc_z := rn_put (am_cur_of (i := (98, 3, .putfield 60, (4, 10, 419), 0)) (by decide +kernel)) (by decide +kernel) hc_z
    replace hc_z := rn_aload_n (am_cur_of (i := (101, 1, .aload_n 0, (0, 0, 0), 0)) (by decide +kernel)) g0_z hc_z
    replace hc_z := rn_iload_n (am_cur_of (i := (102, 1, .iload_n 1, (0, 0, 0), 0)) (by decide +kernel)) g1_z hc_z
    replace hc_z := rn_put (am_cur_of (i := (103, 3, .putfield 91, (4, 11, 420), 0)) (by decide +kernel)) (by decide +kernel) hc_z
    replace hc_z := rn_iconst (w := 0) (am_cur_of (i := (106, 1, .iconst 0, (0, 0, 0), 0)) (by decide +kernel)) (by decide) hc_z
    replace hc_z := rn_istore_n (am_cur_of (i := (107, 1, .istore_n 2, (0, 0, 0), 0)) (by decide +kernel)) hc_z
    obtain ⟨_, s100_z, s101_z, g2_z, hc_z⟩ := hc_z
    replace g0_z := s100_z 0 _ (by decide) rfl g0_z
    replace g1_z := s100_z 1 _ (by decide) rfl g1_z
    clear s100_z s101_z
    have R := rt_tab _ 0 1 (am_up (am_up h2_z 44 10 (.int 1)) 44 11 (.int v2_z)) _ (fun k hk_z => r8_z k hk_z) rfl (by decide) (by decide) g0_z g1_z g2_z hc_z
    obtain ⟨q0_z, R⟩ := R
    rcases R with ⟨-, e⟩ | ⟨R, -⟩
    · subst e
      exact ⟨q0_z, x2_z, ⟨r1_z, r2_z, r3_z, s4_z, s5_z, r6_z, fun k hk_z => r7_z k hk_z, fun k hk_z => r8_z k hk_z⟩, q2_z, ab_Fr_trans q3_z (ab_Fr_up (by decide) (ab_Fr_up (by decide) ab_Fr_refl)), q4_z, Or.inl ⟨by omega, rfl⟩⟩
    · exact absurd R (by decide)
