/-! ===== TOKENS OF BOTH SIDES, as functions of the bytes (wip/r/gen99qd.py) ===== -/
theorem rt_cl {x : Int32} (h : 0 ≤ x.toInt) : (x.toNatClampNeg : Int) = x.toInt := by
  have e : x.toNatClampNeg = x.toInt.toNat := rfl
  omega
theorem rt_cl' {x : Int32} : x.toNatClampNeg = x.toInt.toNat := rfl
theorem rt_c1 {x : Int32} (h0_z : 0 ≤ x.toInt) (h1_z : x.toInt ≤ 1000000) : (x + 1).toInt = x.toInt + 1 := ac_c1 h0_z h1_z
def rt_w (k : Nat) : Int32 := ([72482816, 80207026, 693712896, 559333376, 407940096, 690259328, 650428416, 642945024, 404455424, 419009536, 211169280, 418418688, 223752192, 620213248, 520271872, 642891204, 86148744, 522190848, 48365568, 486146048] : List Int32).getD k 0
/-- the class's reader stands at x of S bytes T -/
def rt_C (T : Nat → Int32) (S x : Int32) (h : am_H) : Prop := h 44 4 = .ref 1 ∧ rg_v h 44 5 = S ∧ rg_v h 44 8 = x ∧ 0 ≤ x.toInt ∧ x.toInt ≤ S.toInt ∧ S.toInt ≤ 700 ∧ (∀ k, k < S.toNatClampNeg → rg_v h 1 k = T k) ∧ (∀ k, k < 20 → rg_v h 45 k = rt_w k)
/-- the model's -/
def rt_M (T : Nat → Int32) (S x : Int32) (h : am_H) : Prop := rg_v h 164 6 = S ∧ rg_v h 164 7 = x ∧ 0 ≤ x.toInt ∧ x.toInt ≤ S.toInt ∧ S.toInt ≤ 700 ∧ (∀ k, k < S.toNatClampNeg → rg_v h 165 k = T k) ∧ (∀ k, k < 101 → rg_v h 166 k = ab_words k)
theorem rg_v_fr {md : List (Nat × Nat)} {h h1_z : am_H} {o k : Nat} (hF : ab_Fr md h h1_z) (hi_z : ab_in md o k = false) : rg_v h1_z o k = rg_v h o k := by
  unfold rg_v
  rw [hF o k hi_z]
theorem rg_v_in {o : Nat} {md : List (Nat × Nat)} (h : md.all (fun q => !(Nat.beq q.1 o)) = true) (k : Nat) : ab_in md o k = false := by
  cases hi_z : ab_in md o k with
  | false => rfl
  | true =>
    obtain ⟨q, hq_z, hb_z⟩ := List.any_eq_true.mp hi_z
    have h1_z := List.all_eq_true.mp h q hq_z
    rw [Bool.and_eq_true] at hb_z
    rw [hb_z.1] at h1_z
    cases h1_z
abbrev rt_mC : List (Nat × Nat) := [(44, 9), (44, 10), (44, 11), (44, 12)]
abbrev rt_mM : List (Nat × Nat) := [(164, 8), (164, 9), (164, 10), (164, 11)]
theorem rt_C_fr {T : Nat → Int32} {S x y : Int32} {h h1_z : am_H} (hC : rt_C T S x h) (hF : ab_Fr rt_mC h h1_z) (e : rg_v h1_z 44 8 = y) (y0_z : 0 ≤ y.toInt) (y1_z : y.toInt ≤ S.toInt) : rt_C T S y h1_z := by
  obtain ⟨r1_z, r2_z, r3_z, r4_z, r5_z, r6_z, r7_z, r8_z⟩ := hC
  refine ⟨(hF 44 4 (by decide)).trans r1_z, (rg_v_fr hF (by decide)).trans r2_z, e, y0_z, y1_z, r6_z, fun k hk_z => (rg_v_fr hF (rg_v_in (by decide) k)).trans (r7_z k hk_z), fun k hk_z => (rg_v_fr hF (rg_v_in (by decide) k)).trans (r8_z k hk_z)⟩
theorem rt_M_fr {T : Nat → Int32} {S x y : Int32} {h h1_z : am_H} (hC : rt_M T S x h) (hF : ab_Fr rt_mM h h1_z) (e : rg_v h1_z 164 7 = y) (y0_z : 0 ≤ y.toInt) (y1_z : y.toInt ≤ S.toInt) : rt_M T S y h1_z := by
  obtain ⟨r2_z, r3_z, r4_z, r5_z, r6_z, r7_z, r8_z⟩ := hC
  refine ⟨(rg_v_fr hF (by decide)).trans r2_z, e, y0_z, y1_z, r6_z, fun k hk_z => (rg_v_fr hF (rg_v_in (by decide) k)).trans (r7_z k hk_z), fun k hk_z => (rg_v_fr hF (rg_v_in (by decide) k)).trans (r8_z k hk_z)⟩
theorem rd_smf {v : Int32} (h : ¬ (97 ≤ v.toInt ∧ v.toInt ≤ 122)) : rd_sm v = false := by
  cases e : rd_sm v with
  | false => rfl
  | true => exact absurd (rd_sm_iff.mp e) h
theorem rd_dgf {v : Int32} (h : ¬ (48 ≤ v.toInt ∧ v.toInt ≤ 57)) : rd_dg v = false := by
  cases e : rd_dg v with
  | false => rfl
  | true => exact absurd (rd_dg_iff.mp e) h
theorem rd_wsT {v : Int32} (h : v = 10 ∨ v = 32) : rd_ws v = true := by
  unfold rd_ws
  rcases h with h | h <;> (subst h; rfl)
theorem rd_wsF {v : Int32} (h1_z : ¬ v = 10) (h2_z : ¬ v = 32) : rd_ws v = false := by
  unfold rd_ws
  rw [decide_eq_false h1_z, decide_eq_false h2_z]
  rfl
theorem rt_noT {P : Prop} {b : Bool} (h : b = false) : ¬ (P ∧ b = true) := fun q => by rw [h] at q; exact absurd q.2 (by decide)
theorem rt_isLetter {n : Nat} {h h' : am_H} {r : Option Value} {v : Int32} (hc_z : rn n am_m20 0 (lv_args 0 [.int v]) [] h r h') : (r = some (.int 1) ∧ h' = h ∧ rd_sm v = true) ∨ (r = some (.int 0) ∧ h' = h ∧ rd_sm v = false) := by
  have z97_z : (97 : Int32).toInt = 97 := by decide
  have z122_z : (122 : Int32).toInt = 122 := by decide
  have g0_z : am_get (lv_args 0 [.int v]) 0 = some (.int v) := rfl
  replace hc_z := rn_iload_n (am_cur_of (i := (0, 1, .iload_n 0, (0, 0, 0), 0)) (by decide +kernel)) g0_z hc_z
  replace hc_z := rn_bipush (w := 97) (am_cur_of (i := (1, 2, .bipush 97, (0, 0, 0), 0)) (by decide +kernel)) (by decide) hc_z
  replace hc_z := rn_cmp (am_cur_of (i := (3, 3, .if_icmp .lt 13, (8, 0, 0), 0)) (by decide +kernel)) hc_z
  rcases hc_z with ⟨b1_z, hc_z⟩ | ⟨b1_z, hc_z⟩
  · replace b1_z : v.toInt < (97 : Int32).toInt := b1_z
    replace hc_z := rn_iconst (w := 0) (am_cur_of (i := (16, 1, .iconst 0, (0, 0, 0), 0)) (by decide +kernel)) (by decide) hc_z
    replace hc_z := rn_iret (am_cur_of (i := (17, 1, .ireturn, (0, 0, 0), 0)) (by decide +kernel)) hc_z
    obtain ⟨e2_z, e3_z⟩ := hc_z
    exact Or.inr ⟨e2_z, e3_z, rd_smf (by omega)⟩
  · replace b1_z : (97 : Int32).toInt ≤ v.toInt := b1_z
    replace hc_z := rn_iload_n (am_cur_of (i := (6, 1, .iload_n 0, (0, 0, 0), 0)) (by decide +kernel)) g0_z hc_z
    replace hc_z := rn_bipush (w := 122) (am_cur_of (i := (7, 2, .bipush 122, (0, 0, 0), 0)) (by decide +kernel)) (by decide) hc_z
    replace hc_z := rn_cmp (am_cur_of (i := (9, 3, .if_icmp .gt 7, (8, 0, 0), 0)) (by decide +kernel)) hc_z
    rcases hc_z with ⟨b4_z, hc_z⟩ | ⟨b4_z, hc_z⟩
    · replace b4_z : (122 : Int32).toInt < v.toInt := b4_z
      replace hc_z := rn_iconst (w := 0) (am_cur_of (i := (16, 1, .iconst 0, (0, 0, 0), 0)) (by decide +kernel)) (by decide) hc_z
      replace hc_z := rn_iret (am_cur_of (i := (17, 1, .ireturn, (0, 0, 0), 0)) (by decide +kernel)) hc_z
      obtain ⟨e5_z, e6_z⟩ := hc_z
      exact Or.inr ⟨e5_z, e6_z, rd_smf (by omega)⟩
    · replace b4_z : v.toInt ≤ (122 : Int32).toInt := b4_z
      replace hc_z := rn_iconst (w := 1) (am_cur_of (i := (12, 1, .iconst 1, (0, 0, 0), 0)) (by decide +kernel)) (by decide) hc_z
      replace hc_z := rn_goto (am_cur_of (i := (13, 3, .goto 4, (9, 0, 0), 0)) (by decide +kernel)) hc_z
      replace hc_z := rn_iret (am_cur_of (i := (17, 1, .ireturn, (0, 0, 0), 0)) (by decide +kernel)) hc_z
      obtain ⟨e7_z, e8_z⟩ := hc_z
      exact Or.inl ⟨e7_z, e8_z, rd_sm_iff.mpr ⟨by omega, by omega⟩⟩
theorem rt_isDigit {n : Nat} {h h' : am_H} {r : Option Value} {v : Int32} (hc_z : rn n am_m22 0 (lv_args 0 [.int v]) [] h r h') : (r = some (.int 1) ∧ h' = h ∧ rd_dg v = true) ∨ (r = some (.int 0) ∧ h' = h ∧ rd_dg v = false) := by
  have z48_z : (48 : Int32).toInt = 48 := by decide
  have z57_z : (57 : Int32).toInt = 57 := by decide
  have g0_z : am_get (lv_args 0 [.int v]) 0 = some (.int v) := rfl
  replace hc_z := rn_iload_n (am_cur_of (i := (0, 1, .iload_n 0, (0, 0, 0), 0)) (by decide +kernel)) g0_z hc_z
  replace hc_z := rn_bipush (w := 48) (am_cur_of (i := (1, 2, .bipush 48, (0, 0, 0), 0)) (by decide +kernel)) (by decide) hc_z
  replace hc_z := rn_cmp (am_cur_of (i := (3, 3, .if_icmp .lt 13, (8, 0, 0), 0)) (by decide +kernel)) hc_z
  rcases hc_z with ⟨b9_z, hc_z⟩ | ⟨b9_z, hc_z⟩
  · replace b9_z : v.toInt < (48 : Int32).toInt := b9_z
    replace hc_z := rn_iconst (w := 0) (am_cur_of (i := (16, 1, .iconst 0, (0, 0, 0), 0)) (by decide +kernel)) (by decide) hc_z
    replace hc_z := rn_iret (am_cur_of (i := (17, 1, .ireturn, (0, 0, 0), 0)) (by decide +kernel)) hc_z
    obtain ⟨e10_z, e11_z⟩ := hc_z
    exact Or.inr ⟨e10_z, e11_z, rd_dgf (by omega)⟩
  · replace b9_z : (48 : Int32).toInt ≤ v.toInt := b9_z
    replace hc_z := rn_iload_n (am_cur_of (i := (6, 1, .iload_n 0, (0, 0, 0), 0)) (by decide +kernel)) g0_z hc_z
    replace hc_z := rn_bipush (w := 57) (am_cur_of (i := (7, 2, .bipush 57, (0, 0, 0), 0)) (by decide +kernel)) (by decide) hc_z
    replace hc_z := rn_cmp (am_cur_of (i := (9, 3, .if_icmp .gt 7, (8, 0, 0), 0)) (by decide +kernel)) hc_z
    rcases hc_z with ⟨b12_z, hc_z⟩ | ⟨b12_z, hc_z⟩
    · replace b12_z : (57 : Int32).toInt < v.toInt := b12_z
      replace hc_z := rn_iconst (w := 0) (am_cur_of (i := (16, 1, .iconst 0, (0, 0, 0), 0)) (by decide +kernel)) (by decide) hc_z
      replace hc_z := rn_iret (am_cur_of (i := (17, 1, .ireturn, (0, 0, 0), 0)) (by decide +kernel)) hc_z
      obtain ⟨e13_z, e14_z⟩ := hc_z
      exact Or.inr ⟨e13_z, e14_z, rd_dgf (by omega)⟩
    · replace b12_z : v.toInt ≤ (57 : Int32).toInt := b12_z
      replace hc_z := rn_iconst (w := 1) (am_cur_of (i := (12, 1, .iconst 1, (0, 0, 0), 0)) (by decide +kernel)) (by decide) hc_z
      replace hc_z := rn_goto (am_cur_of (i := (13, 3, .goto 4, (9, 0, 0), 0)) (by decide +kernel)) hc_z
      replace hc_z := rn_iret (am_cur_of (i := (17, 1, .ireturn, (0, 0, 0), 0)) (by decide +kernel)) hc_z
      obtain ⟨e15_z, e16_z⟩ := hc_z
      exact Or.inl ⟨e15_z, e16_z, rd_dg_iff.mpr ⟨by omega, by omega⟩⟩
theorem rt_misSmall {T : Nat → Int32} {S x : Int32} {n : Nat} {h h' : am_H} {r : Option Value} {v : Int32} (hC : rt_M T S x h) (v0_z : 0 ≤ v.toInt) (hc_z : rn n am_m152 0 (lv_args 0 [.ref 164, .int v]) [] h r h') : (r = some (.int 1) ∧ h' = h ∧ v.toNatClampNeg < S.toNatClampNeg ∧ rd_sm (T v.toNatClampNeg) = true) ∨ (r = some (.int 0) ∧ h' = h ∧ ¬ (v.toNatClampNeg < S.toNatClampNeg ∧ rd_sm (T v.toNatClampNeg) = true)) := by
  have z97_z : (97 : Int32).toInt = 97 := by decide
  have z122_z : (122 : Int32).toInt = 122 := by decide
  obtain ⟨r2_z, r3_z, r4_z, r5_z, r6_z, r7_z, r8_z⟩ := hC
  have cS_z := rt_cl (x := S) (by omega)
  have cv_z := rt_cl v0_z
  have g0_z : am_get (lv_args 0 [.ref 164, .int v]) 0 = some (.ref 164) := rfl
  have g1_z : am_get (lv_args 0 [.ref 164, .int v]) 1 = some (.int v) := rfl
  replace hc_z := rn_iload_n (am_cur_of (i := (0, 1, .iload_n 1, (0, 0, 0), 0)) (by decide +kernel)) g1_z hc_z
  replace hc_z := rn_aload_n (am_cur_of (i := (1, 1, .aload_n 0, (0, 0, 0), 0)) (by decide +kernel)) g0_z hc_z
  replace hc_z := rn_getI (v := S) (am_cur_of (i := (2, 3, .getfield 151, (12, 6, 1390), 0)) (by decide +kernel)) (by decide +kernel) r2_z hc_z
  replace hc_z := rn_cmp (am_cur_of (i := (5, 3, .if_icmp .ge 29, (18, 0, 0), 0)) (by decide +kernel)) hc_z
  rcases hc_z with ⟨b17_z, hc_z⟩ | ⟨b17_z, hc_z⟩
  · replace b17_z : S.toInt ≤ v.toInt := b17_z
    replace hc_z := rn_iconst (w := 0) (am_cur_of (i := (34, 1, .iconst 0, (0, 0, 0), 0)) (by decide +kernel)) (by decide) hc_z
    replace hc_z := rn_iret (am_cur_of (i := (35, 1, .ireturn, (0, 0, 0), 0)) (by decide +kernel)) hc_z
    obtain ⟨e18_z, e19_z⟩ := hc_z
    exact Or.inr ⟨e18_z, e19_z, fun q => absurd q.1 (by omega)⟩
  · replace b17_z : v.toInt < S.toInt := b17_z
    replace hc_z := rn_aload_n (am_cur_of (i := (8, 1, .aload_n 0, (0, 0, 0), 0)) (by decide +kernel)) g0_z hc_z
    replace hc_z := rn_getR (x := 165) (am_cur_of (i := (9, 3, .getfield 7, (12, 0, 1384), 0)) (by decide +kernel)) (by decide +kernel) hc_z
    replace hc_z := rn_iload_n (am_cur_of (i := (12, 1, .iload_n 1, (0, 0, 0), 0)) (by decide +kernel)) g1_z hc_z
    replace hc_z := rn_iaload (N := 700) (q := v.toNatClampNeg) (v := T v.toNatClampNeg) (am_cur_of (i := (13, 1, .iaload, (0, 0, 0), 0)) (by decide +kernel)) (by decide +kernel) rfl (r7_z _ (by omega)) hc_z
    obtain ⟨p20_z, hc_z⟩ := hc_z
    replace hc_z := rn_bipush (w := 97) (am_cur_of (i := (14, 2, .bipush 97, (0, 0, 0), 0)) (by decide +kernel)) (by decide) hc_z
    replace hc_z := rn_cmp (am_cur_of (i := (16, 3, .if_icmp .lt 18, (18, 0, 0), 0)) (by decide +kernel)) hc_z
    rcases hc_z with ⟨b21_z, hc_z⟩ | ⟨b21_z, hc_z⟩
    · replace b21_z : (T v.toNatClampNeg).toInt < (97 : Int32).toInt := b21_z
      replace hc_z := rn_iconst (w := 0) (am_cur_of (i := (34, 1, .iconst 0, (0, 0, 0), 0)) (by decide +kernel)) (by decide) hc_z
      replace hc_z := rn_iret (am_cur_of (i := (35, 1, .ireturn, (0, 0, 0), 0)) (by decide +kernel)) hc_z
      obtain ⟨e22_z, e23_z⟩ := hc_z
      exact Or.inr ⟨e22_z, e23_z, rt_noT (rd_smf (by omega))⟩
    · replace b21_z : (97 : Int32).toInt ≤ (T v.toNatClampNeg).toInt := b21_z
      replace hc_z := rn_aload_n (am_cur_of (i := (19, 1, .aload_n 0, (0, 0, 0), 0)) (by decide +kernel)) g0_z hc_z
      replace hc_z := rn_getR (x := 165) (am_cur_of (i := (20, 3, .getfield 7, (12, 0, 1384), 0)) (by decide +kernel)) (by decide +kernel) hc_z
      replace hc_z := rn_iload_n (am_cur_of (i := (23, 1, .iload_n 1, (0, 0, 0), 0)) (by decide +kernel)) g1_z hc_z
      replace hc_z := rn_iaload (N := 700) (q := v.toNatClampNeg) (v := T v.toNatClampNeg) (am_cur_of (i := (24, 1, .iaload, (0, 0, 0), 0)) (by decide +kernel)) (by decide +kernel) rfl (r7_z _ (by omega)) hc_z
      obtain ⟨p24_z, hc_z⟩ := hc_z
      replace hc_z := rn_bipush (w := 122) (am_cur_of (i := (25, 2, .bipush 122, (0, 0, 0), 0)) (by decide +kernel)) (by decide) hc_z
      replace hc_z := rn_cmp (am_cur_of (i := (27, 3, .if_icmp .gt 7, (18, 0, 0), 0)) (by decide +kernel)) hc_z
      rcases hc_z with ⟨b25_z, hc_z⟩ | ⟨b25_z, hc_z⟩
      · replace b25_z : (122 : Int32).toInt < (T v.toNatClampNeg).toInt := b25_z
        replace hc_z := rn_iconst (w := 0) (am_cur_of (i := (34, 1, .iconst 0, (0, 0, 0), 0)) (by decide +kernel)) (by decide) hc_z
        replace hc_z := rn_iret (am_cur_of (i := (35, 1, .ireturn, (0, 0, 0), 0)) (by decide +kernel)) hc_z
        obtain ⟨e26_z, e27_z⟩ := hc_z
        exact Or.inr ⟨e26_z, e27_z, rt_noT (rd_smf (by omega))⟩
      · replace b25_z : (T v.toNatClampNeg).toInt ≤ (122 : Int32).toInt := b25_z
        replace hc_z := rn_iconst (w := 1) (am_cur_of (i := (30, 1, .iconst 1, (0, 0, 0), 0)) (by decide +kernel)) (by decide) hc_z
        replace hc_z := rn_goto (am_cur_of (i := (31, 3, .goto 4, (19, 0, 0), 0)) (by decide +kernel)) hc_z
        replace hc_z := rn_iret (am_cur_of (i := (35, 1, .ireturn, (0, 0, 0), 0)) (by decide +kernel)) hc_z
        obtain ⟨e28_z, e29_z⟩ := hc_z
        exact Or.inl ⟨e28_z, e29_z, by omega, rd_sm_iff.mpr ⟨by omega, by omega⟩⟩
theorem rt_misDigit {T : Nat → Int32} {S x : Int32} {n : Nat} {h h' : am_H} {r : Option Value} {v : Int32} (hC : rt_M T S x h) (v0_z : 0 ≤ v.toInt) (hc_z : rn n am_m155 0 (lv_args 0 [.ref 164, .int v]) [] h r h') : (r = some (.int 1) ∧ h' = h ∧ v.toNatClampNeg < S.toNatClampNeg ∧ rd_dg (T v.toNatClampNeg) = true) ∨ (r = some (.int 0) ∧ h' = h ∧ ¬ (v.toNatClampNeg < S.toNatClampNeg ∧ rd_dg (T v.toNatClampNeg) = true)) := by
  have z48_z : (48 : Int32).toInt = 48 := by decide
  have z57_z : (57 : Int32).toInt = 57 := by decide
  obtain ⟨r2_z, r3_z, r4_z, r5_z, r6_z, r7_z, r8_z⟩ := hC
  have cS_z := rt_cl (x := S) (by omega)
  have cv_z := rt_cl v0_z
  have g0_z : am_get (lv_args 0 [.ref 164, .int v]) 0 = some (.ref 164) := rfl
  have g1_z : am_get (lv_args 0 [.ref 164, .int v]) 1 = some (.int v) := rfl
  replace hc_z := rn_iload_n (am_cur_of (i := (0, 1, .iload_n 1, (0, 0, 0), 0)) (by decide +kernel)) g1_z hc_z
  replace hc_z := rn_aload_n (am_cur_of (i := (1, 1, .aload_n 0, (0, 0, 0), 0)) (by decide +kernel)) g0_z hc_z
  replace hc_z := rn_getI (v := S) (am_cur_of (i := (2, 3, .getfield 151, (12, 6, 1390), 0)) (by decide +kernel)) (by decide +kernel) r2_z hc_z
  replace hc_z := rn_cmp (am_cur_of (i := (5, 3, .if_icmp .ge 29, (18, 0, 0), 0)) (by decide +kernel)) hc_z
  rcases hc_z with ⟨b30_z, hc_z⟩ | ⟨b30_z, hc_z⟩
  · replace b30_z : S.toInt ≤ v.toInt := b30_z
    replace hc_z := rn_iconst (w := 0) (am_cur_of (i := (34, 1, .iconst 0, (0, 0, 0), 0)) (by decide +kernel)) (by decide) hc_z
    replace hc_z := rn_iret (am_cur_of (i := (35, 1, .ireturn, (0, 0, 0), 0)) (by decide +kernel)) hc_z
    obtain ⟨e31_z, e32_z⟩ := hc_z
    exact Or.inr ⟨e31_z, e32_z, fun q => absurd q.1 (by omega)⟩
  · replace b30_z : v.toInt < S.toInt := b30_z
    replace hc_z := rn_aload_n (am_cur_of (i := (8, 1, .aload_n 0, (0, 0, 0), 0)) (by decide +kernel)) g0_z hc_z
    replace hc_z := rn_getR (x := 165) (am_cur_of (i := (9, 3, .getfield 7, (12, 0, 1384), 0)) (by decide +kernel)) (by decide +kernel) hc_z
    replace hc_z := rn_iload_n (am_cur_of (i := (12, 1, .iload_n 1, (0, 0, 0), 0)) (by decide +kernel)) g1_z hc_z
    replace hc_z := rn_iaload (N := 700) (q := v.toNatClampNeg) (v := T v.toNatClampNeg) (am_cur_of (i := (13, 1, .iaload, (0, 0, 0), 0)) (by decide +kernel)) (by decide +kernel) rfl (r7_z _ (by omega)) hc_z
    obtain ⟨p33_z, hc_z⟩ := hc_z
    replace hc_z := rn_bipush (w := 48) (am_cur_of (i := (14, 2, .bipush 48, (0, 0, 0), 0)) (by decide +kernel)) (by decide) hc_z
    replace hc_z := rn_cmp (am_cur_of (i := (16, 3, .if_icmp .lt 18, (18, 0, 0), 0)) (by decide +kernel)) hc_z
    rcases hc_z with ⟨b34_z, hc_z⟩ | ⟨b34_z, hc_z⟩
    · replace b34_z : (T v.toNatClampNeg).toInt < (48 : Int32).toInt := b34_z
      replace hc_z := rn_iconst (w := 0) (am_cur_of (i := (34, 1, .iconst 0, (0, 0, 0), 0)) (by decide +kernel)) (by decide) hc_z
      replace hc_z := rn_iret (am_cur_of (i := (35, 1, .ireturn, (0, 0, 0), 0)) (by decide +kernel)) hc_z
      obtain ⟨e35_z, e36_z⟩ := hc_z
      exact Or.inr ⟨e35_z, e36_z, rt_noT (rd_dgf (by omega))⟩
    · replace b34_z : (48 : Int32).toInt ≤ (T v.toNatClampNeg).toInt := b34_z
      replace hc_z := rn_aload_n (am_cur_of (i := (19, 1, .aload_n 0, (0, 0, 0), 0)) (by decide +kernel)) g0_z hc_z
      replace hc_z := rn_getR (x := 165) (am_cur_of (i := (20, 3, .getfield 7, (12, 0, 1384), 0)) (by decide +kernel)) (by decide +kernel) hc_z
      replace hc_z := rn_iload_n (am_cur_of (i := (23, 1, .iload_n 1, (0, 0, 0), 0)) (by decide +kernel)) g1_z hc_z
      replace hc_z := rn_iaload (N := 700) (q := v.toNatClampNeg) (v := T v.toNatClampNeg) (am_cur_of (i := (24, 1, .iaload, (0, 0, 0), 0)) (by decide +kernel)) (by decide +kernel) rfl (r7_z _ (by omega)) hc_z
      obtain ⟨p37_z, hc_z⟩ := hc_z
      replace hc_z := rn_bipush (w := 57) (am_cur_of (i := (25, 2, .bipush 57, (0, 0, 0), 0)) (by decide +kernel)) (by decide) hc_z
      replace hc_z := rn_cmp (am_cur_of (i := (27, 3, .if_icmp .gt 7, (18, 0, 0), 0)) (by decide +kernel)) hc_z
      rcases hc_z with ⟨b38_z, hc_z⟩ | ⟨b38_z, hc_z⟩
      · replace b38_z : (57 : Int32).toInt < (T v.toNatClampNeg).toInt := b38_z
        replace hc_z := rn_iconst (w := 0) (am_cur_of (i := (34, 1, .iconst 0, (0, 0, 0), 0)) (by decide +kernel)) (by decide) hc_z
        replace hc_z := rn_iret (am_cur_of (i := (35, 1, .ireturn, (0, 0, 0), 0)) (by decide +kernel)) hc_z
        obtain ⟨e39_z, e40_z⟩ := hc_z
        exact Or.inr ⟨e39_z, e40_z, rt_noT (rd_dgf (by omega))⟩
      · replace b38_z : (T v.toNatClampNeg).toInt ≤ (57 : Int32).toInt := b38_z
        replace hc_z := rn_iconst (w := 1) (am_cur_of (i := (30, 1, .iconst 1, (0, 0, 0), 0)) (by decide +kernel)) (by decide) hc_z
        replace hc_z := rn_goto (am_cur_of (i := (31, 3, .goto 4, (19, 0, 0), 0)) (by decide +kernel)) hc_z
        replace hc_z := rn_iret (am_cur_of (i := (35, 1, .ireturn, (0, 0, 0), 0)) (by decide +kernel)) hc_z
        obtain ⟨e41_z, e42_z⟩ := hc_z
        exact Or.inl ⟨e41_z, e42_z, by omega, rd_dg_iff.mpr ⟨by omega, by omega⟩⟩
theorem rt_wsC {T : Nat → Int32} {S : Int32} {r : Option Value} {h' : am_H} : ∀ (n : Nat) (x : Int32) (h : am_H) (ls : am_L), rt_C T S x h → am_get ls 0 = some (.ref 44) → rn n am_m19 0 ls [] h r h' → ∃ n2_z x2_z h2_z, rt_C T S x2_z h2_z ∧ x2_z.toNatClampNeg = rd_end rd_ws T S.toNatClampNeg x.toNatClampNeg ∧ ab_Fr rt_mC h h2_z ∧ rn n2_z am_m19 26 ls [] h2_z r h' := by
  intro n
  induction n with
  | zero => intro x h ls hC g0_z hc_z; exact absurd hc_z rn_0
  | succ n ih_z =>
    intro x h ls hC g0_z hc_z
    have hC' := hC
    have z10_z : (10 : Int32).toInt = 10 := by decide
    have z32_z : (32 : Int32).toInt = 32 := by decide
    obtain ⟨r1_z, r2_z, r3_z, r4_z, r5_z, r6_z, r7_z, r8_z⟩ := hC
    have cx_z := rt_cl r4_z
    have cS_z := rt_cl (x := S) (by omega)
    replace hc_z := rn_aload_n (am_cur_of (i := (0, 1, .aload_n 0, (0, 0, 0), 0)) (by decide +kernel)) g0_z hc_z
    replace hc_z := rn_getI (v := x) (am_cur_of (i := (1, 3, .getfield 54, (4, 8, 417), 0)) (by decide +kernel)) (by decide +kernel) r3_z hc_z
    replace hc_z := rn_aload_n (am_cur_of (i := (4, 1, .aload_n 0, (0, 0, 0), 0)) (by decide +kernel)) g0_z hc_z
    replace hc_z := rn_getI (v := S) (am_cur_of (i := (5, 3, .getfield 37, (4, 5, 414), 0)) (by decide +kernel)) (by decide +kernel) r2_z hc_z
    replace hc_z := rn_cmp (am_cur_of (i := (8, 3, .if_icmp .ge 44, (26, 0, 0), 0)) (by decide +kernel)) hc_z
    rcases hc_z with ⟨b43_z, hc_z⟩ | ⟨b43_z, hc_z⟩
    · replace b43_z : S.toInt ≤ x.toInt := b43_z
      exact ⟨_, x, h, hC', by rw [rd_end_off (fun q => absurd q.1 (by omega))], ab_Fr_refl, hc_z⟩
    · replace b43_z : x.toInt < S.toInt := b43_z
      replace hc_z := rn_aload_n (am_cur_of (i := (11, 1, .aload_n 0, (0, 0, 0), 0)) (by decide +kernel)) g0_z hc_z
      replace hc_z := rn_getM (x := 1) (am_cur_of (i := (12, 3, .getfield 19, (4, 4, 413), 0)) (by decide +kernel)) r1_z hc_z
      replace hc_z := rn_aload_n (am_cur_of (i := (15, 1, .aload_n 0, (0, 0, 0), 0)) (by decide +kernel)) g0_z hc_z
      replace hc_z := rn_getI (v := x) (am_cur_of (i := (16, 3, .getfield 54, (4, 8, 417), 0)) (by decide +kernel)) (by decide +kernel) r3_z hc_z
      replace hc_z := rn_iaload (N := 700) (q := x.toNatClampNeg) (v := T x.toNatClampNeg) (am_cur_of (i := (19, 1, .iaload, (0, 0, 0), 0)) (by decide +kernel)) (by decide +kernel) rfl (r7_z _ (by omega)) hc_z
      obtain ⟨p44_z, hc_z⟩ := hc_z
      replace hc_z := rn_bipush (w := 32) (am_cur_of (i := (20, 2, .bipush 32, (0, 0, 0), 0)) (by decide +kernel)) (by decide) hc_z
      replace hc_z := rn_cmp (am_cur_of (i := (22, 3, .if_icmp .eq 17, (19, 0, 0), 0)) (by decide +kernel)) hc_z
      rcases hc_z with ⟨b45_z, hc_z⟩ | ⟨b45_z, hc_z⟩
      · replace b45_z : (T x.toNatClampNeg) = (32 : Int32) ∧ (T x.toNatClampNeg).toInt = (32 : Int32).toInt := b45_z
        replace hc_z := rn_aload_n (am_cur_of (i := (39, 1, .aload_n 0, (0, 0, 0), 0)) (by decide +kernel)) g0_z hc_z
        replace hc_z := rn_dup (am_cur_of (i := (40, 1, .dup, (0, 0, 0), 0)) (by decide +kernel)) hc_z
        replace hc_z := rn_getI (v := x) (am_cur_of (i := (41, 3, .getfield 54, (4, 8, 417), 0)) (by decide +kernel)) (by decide +kernel) r3_z hc_z
        replace hc_z := rn_iconst (w := 1) (am_cur_of (i := (44, 1, .iconst 1, (0, 0, 0), 0)) (by decide +kernel)) (by decide) hc_z
        replace hc_z := rn_iadd (w := x + 1) (am_cur_of (i := (45, 1, .iadd, (0, 0, 0), 0)) (by decide +kernel)) rfl hc_z
        replace hc_z := rn_put (am_cur_of (i := (46, 3, .putfield 54, (4, 8, 417), 0)) (by decide +kernel)) (by decide +kernel) hc_z
        replace hc_z := rn_gotoL (am_cur_of (i := (49, 3, .goto (-49), (0, 0, 0), 0)) (by decide +kernel)) hc_z
        have e1_z := rt_c1 r4_z (by omega)
        have cx1_z := rt_cl (x := x + 1) (by omega)
        have hC1 : rt_C T S (x + 1) (am_up h 44 8 (.int (x + 1))) := ⟨r1_z, r2_z, rfl, by omega, by omega, r6_z, fun k hk_z => r7_z k hk_z, fun k hk_z => r8_z k hk_z⟩
        obtain ⟨n2_z, x2_z, h2_z, q1_z, q2_z, q3_z, q4_z⟩ := ih_z (x + 1) _ ls hC1 g0_z hc_z
        refine ⟨n2_z, x2_z, h2_z, q1_z, ?_, ab_Fr_trans (ab_Fr_up (by decide) ab_Fr_refl) q3_z, q4_z⟩
        rw [q2_z, rd_end_on (by omega) (rd_wsT (Or.inr b45_z.1)), show x.toNatClampNeg + 1 = (x + 1).toNatClampNeg by omega]
      · replace b45_z : ¬ (T x.toNatClampNeg) = (32 : Int32) ∧ ¬ (T x.toNatClampNeg).toInt = (32 : Int32).toInt := b45_z
        replace hc_z := rn_aload_n (am_cur_of (i := (25, 1, .aload_n 0, (0, 0, 0), 0)) (by decide +kernel)) g0_z hc_z
        replace hc_z := rn_getM (x := 1) (am_cur_of (i := (26, 3, .getfield 19, (4, 4, 413), 0)) (by decide +kernel)) r1_z hc_z
        replace hc_z := rn_aload_n (am_cur_of (i := (29, 1, .aload_n 0, (0, 0, 0), 0)) (by decide +kernel)) g0_z hc_z
        replace hc_z := rn_getI (v := x) (am_cur_of (i := (30, 3, .getfield 54, (4, 8, 417), 0)) (by decide +kernel)) (by decide +kernel) r3_z hc_z
        replace hc_z := rn_iaload (N := 700) (q := x.toNatClampNeg) (v := T x.toNatClampNeg) (am_cur_of (i := (33, 1, .iaload, (0, 0, 0), 0)) (by decide +kernel)) (by decide +kernel) rfl (r7_z _ (by omega)) hc_z
        obtain ⟨p46_z, hc_z⟩ := hc_z
        replace hc_z := rn_bipush (w := 10) (am_cur_of (i := (34, 2, .bipush 10, (0, 0, 0), 0)) (by decide +kernel)) (by decide) hc_z
        replace hc_z := rn_cmp (am_cur_of (i := (36, 3, .if_icmp .ne 16, (26, 0, 0), 0)) (by decide +kernel)) hc_z
        rcases hc_z with ⟨b47_z, hc_z⟩ | ⟨b47_z, hc_z⟩
        · replace b47_z : ¬ (T x.toNatClampNeg) = (10 : Int32) ∧ ¬ (T x.toNatClampNeg).toInt = (10 : Int32).toInt := b47_z
          exact ⟨_, x, h, hC', by rw [rd_end_off (rt_noT (rd_wsF b47_z.1 b45_z.1))], ab_Fr_refl, hc_z⟩
        · replace b47_z : (T x.toNatClampNeg) = (10 : Int32) ∧ (T x.toNatClampNeg).toInt = (10 : Int32).toInt := b47_z
          replace hc_z := rn_aload_n (am_cur_of (i := (39, 1, .aload_n 0, (0, 0, 0), 0)) (by decide +kernel)) g0_z hc_z
          replace hc_z := rn_dup (am_cur_of (i := (40, 1, .dup, (0, 0, 0), 0)) (by decide +kernel)) hc_z
          replace hc_z := rn_getI (v := x) (am_cur_of (i := (41, 3, .getfield 54, (4, 8, 417), 0)) (by decide +kernel)) (by decide +kernel) r3_z hc_z
          replace hc_z := rn_iconst (w := 1) (am_cur_of (i := (44, 1, .iconst 1, (0, 0, 0), 0)) (by decide +kernel)) (by decide) hc_z
          replace hc_z := rn_iadd (w := x + 1) (am_cur_of (i := (45, 1, .iadd, (0, 0, 0), 0)) (by decide +kernel)) rfl hc_z
          replace hc_z := rn_put (am_cur_of (i := (46, 3, .putfield 54, (4, 8, 417), 0)) (by decide +kernel)) (by decide +kernel) hc_z
          replace hc_z := rn_gotoL (am_cur_of (i := (49, 3, .goto (-49), (0, 0, 0), 0)) (by decide +kernel)) hc_z
          have e1_z := rt_c1 r4_z (by omega)
          have cx1_z := rt_cl (x := x + 1) (by omega)
          have hC1 : rt_C T S (x + 1) (am_up h 44 8 (.int (x + 1))) := ⟨r1_z, r2_z, rfl, by omega, by omega, r6_z, fun k hk_z => r7_z k hk_z, fun k hk_z => r8_z k hk_z⟩
          obtain ⟨n2_z, x2_z, h2_z, q1_z, q2_z, q3_z, q4_z⟩ := ih_z (x + 1) _ ls hC1 g0_z hc_z
          refine ⟨n2_z, x2_z, h2_z, q1_z, ?_, ab_Fr_trans (ab_Fr_up (by decide) ab_Fr_refl) q3_z, q4_z⟩
          rw [q2_z, rd_end_on (by omega) (rd_wsT (Or.inl b47_z.1)), show x.toNatClampNeg + 1 = (x + 1).toNatClampNeg by omega]
theorem rt_wsM {T : Nat → Int32} {S : Int32} {r : Option Value} {h' : am_H} : ∀ (n : Nat) (x : Int32) (h : am_H) (ls : am_L), rt_M T S x h → am_get ls 0 = some (.ref 164) → rn n am_m151 0 ls [] h r h' → ∃ n2_z x2_z h2_z, rt_M T S x2_z h2_z ∧ x2_z.toNatClampNeg = rd_end rd_ws T S.toNatClampNeg x.toNatClampNeg ∧ ab_Fr rt_mM h h2_z ∧ rn n2_z am_m151 26 ls [] h2_z r h' := by
  intro n
  induction n with
  | zero => intro x h ls hC g0_z hc_z; exact absurd hc_z rn_0
  | succ n ih_z =>
    intro x h ls hC g0_z hc_z
    have hC' := hC
    have z10_z : (10 : Int32).toInt = 10 := by decide
    have z32_z : (32 : Int32).toInt = 32 := by decide
    obtain ⟨r2_z, r3_z, r4_z, r5_z, r6_z, r7_z, r8_z⟩ := hC
    have cx_z := rt_cl r4_z
    have cS_z := rt_cl (x := S) (by omega)
    replace hc_z := rn_aload_n (am_cur_of (i := (0, 1, .aload_n 0, (0, 0, 0), 0)) (by decide +kernel)) g0_z hc_z
    replace hc_z := rn_getI (v := x) (am_cur_of (i := (1, 3, .getfield 154, (12, 7, 1391), 0)) (by decide +kernel)) (by decide +kernel) r3_z hc_z
    replace hc_z := rn_aload_n (am_cur_of (i := (4, 1, .aload_n 0, (0, 0, 0), 0)) (by decide +kernel)) g0_z hc_z
    replace hc_z := rn_getI (v := S) (am_cur_of (i := (5, 3, .getfield 151, (12, 6, 1390), 0)) (by decide +kernel)) (by decide +kernel) r2_z hc_z
    replace hc_z := rn_cmp (am_cur_of (i := (8, 3, .if_icmp .ge 44, (26, 0, 0), 0)) (by decide +kernel)) hc_z
    rcases hc_z with ⟨b48_z, hc_z⟩ | ⟨b48_z, hc_z⟩
    · replace b48_z : S.toInt ≤ x.toInt := b48_z
      exact ⟨_, x, h, hC', by rw [rd_end_off (fun q => absurd q.1 (by omega))], ab_Fr_refl, hc_z⟩
    · replace b48_z : x.toInt < S.toInt := b48_z
      replace hc_z := rn_aload_n (am_cur_of (i := (11, 1, .aload_n 0, (0, 0, 0), 0)) (by decide +kernel)) g0_z hc_z
      replace hc_z := rn_getR (x := 165) (am_cur_of (i := (12, 3, .getfield 7, (12, 0, 1384), 0)) (by decide +kernel)) (by decide +kernel) hc_z
      replace hc_z := rn_aload_n (am_cur_of (i := (15, 1, .aload_n 0, (0, 0, 0), 0)) (by decide +kernel)) g0_z hc_z
      replace hc_z := rn_getI (v := x) (am_cur_of (i := (16, 3, .getfield 154, (12, 7, 1391), 0)) (by decide +kernel)) (by decide +kernel) r3_z hc_z
      replace hc_z := rn_iaload (N := 700) (q := x.toNatClampNeg) (v := T x.toNatClampNeg) (am_cur_of (i := (19, 1, .iaload, (0, 0, 0), 0)) (by decide +kernel)) (by decide +kernel) rfl (r7_z _ (by omega)) hc_z
      obtain ⟨p49_z, hc_z⟩ := hc_z
      replace hc_z := rn_bipush (w := 10) (am_cur_of (i := (20, 2, .bipush 10, (0, 0, 0), 0)) (by decide +kernel)) (by decide) hc_z
      replace hc_z := rn_cmp (am_cur_of (i := (22, 3, .if_icmp .eq 17, (19, 0, 0), 0)) (by decide +kernel)) hc_z
      rcases hc_z with ⟨b50_z, hc_z⟩ | ⟨b50_z, hc_z⟩
      · replace b50_z : (T x.toNatClampNeg) = (10 : Int32) ∧ (T x.toNatClampNeg).toInt = (10 : Int32).toInt := b50_z
        replace hc_z := rn_aload_n (am_cur_of (i := (39, 1, .aload_n 0, (0, 0, 0), 0)) (by decide +kernel)) g0_z hc_z
        replace hc_z := rn_dup (am_cur_of (i := (40, 1, .dup, (0, 0, 0), 0)) (by decide +kernel)) hc_z
        replace hc_z := rn_getI (v := x) (am_cur_of (i := (41, 3, .getfield 154, (12, 7, 1391), 0)) (by decide +kernel)) (by decide +kernel) r3_z hc_z
        replace hc_z := rn_iconst (w := 1) (am_cur_of (i := (44, 1, .iconst 1, (0, 0, 0), 0)) (by decide +kernel)) (by decide) hc_z
        replace hc_z := rn_iadd (w := x + 1) (am_cur_of (i := (45, 1, .iadd, (0, 0, 0), 0)) (by decide +kernel)) rfl hc_z
        replace hc_z := rn_put (am_cur_of (i := (46, 3, .putfield 154, (12, 7, 1391), 0)) (by decide +kernel)) (by decide +kernel) hc_z
        replace hc_z := rn_gotoL (am_cur_of (i := (49, 3, .goto (-49), (0, 0, 0), 0)) (by decide +kernel)) hc_z
        have e1_z := rt_c1 r4_z (by omega)
        have cx1_z := rt_cl (x := x + 1) (by omega)
        have hC1 : rt_M T S (x + 1) (am_up h 164 7 (.int (x + 1))) := ⟨r2_z, rfl, by omega, by omega, r6_z, fun k hk_z => r7_z k hk_z, fun k hk_z => r8_z k hk_z⟩
        obtain ⟨n2_z, x2_z, h2_z, q1_z, q2_z, q3_z, q4_z⟩ := ih_z (x + 1) _ ls hC1 g0_z hc_z
        refine ⟨n2_z, x2_z, h2_z, q1_z, ?_, ab_Fr_trans (ab_Fr_up (by decide) ab_Fr_refl) q3_z, q4_z⟩
        rw [q2_z, rd_end_on (by omega) (rd_wsT (Or.inl b50_z.1)), show x.toNatClampNeg + 1 = (x + 1).toNatClampNeg by omega]
      · replace b50_z : ¬ (T x.toNatClampNeg) = (10 : Int32) ∧ ¬ (T x.toNatClampNeg).toInt = (10 : Int32).toInt := b50_z
        replace hc_z := rn_aload_n (am_cur_of (i := (25, 1, .aload_n 0, (0, 0, 0), 0)) (by decide +kernel)) g0_z hc_z
        replace hc_z := rn_getR (x := 165) (am_cur_of (i := (26, 3, .getfield 7, (12, 0, 1384), 0)) (by decide +kernel)) (by decide +kernel) hc_z
        replace hc_z := rn_aload_n (am_cur_of (i := (29, 1, .aload_n 0, (0, 0, 0), 0)) (by decide +kernel)) g0_z hc_z
        replace hc_z := rn_getI (v := x) (am_cur_of (i := (30, 3, .getfield 154, (12, 7, 1391), 0)) (by decide +kernel)) (by decide +kernel) r3_z hc_z
        replace hc_z := rn_iaload (N := 700) (q := x.toNatClampNeg) (v := T x.toNatClampNeg) (am_cur_of (i := (33, 1, .iaload, (0, 0, 0), 0)) (by decide +kernel)) (by decide +kernel) rfl (r7_z _ (by omega)) hc_z
        obtain ⟨p51_z, hc_z⟩ := hc_z
        replace hc_z := rn_bipush (w := 32) (am_cur_of (i := (34, 2, .bipush 32, (0, 0, 0), 0)) (by decide +kernel)) (by decide) hc_z
        replace hc_z := rn_cmp (am_cur_of (i := (36, 3, .if_icmp .ne 16, (26, 0, 0), 0)) (by decide +kernel)) hc_z
        rcases hc_z with ⟨b52_z, hc_z⟩ | ⟨b52_z, hc_z⟩
        · replace b52_z : ¬ (T x.toNatClampNeg) = (32 : Int32) ∧ ¬ (T x.toNatClampNeg).toInt = (32 : Int32).toInt := b52_z
          exact ⟨_, x, h, hC', by rw [rd_end_off (rt_noT (rd_wsF b50_z.1 b52_z.1))], ab_Fr_refl, hc_z⟩
        · replace b52_z : (T x.toNatClampNeg) = (32 : Int32) ∧ (T x.toNatClampNeg).toInt = (32 : Int32).toInt := b52_z
          replace hc_z := rn_aload_n (am_cur_of (i := (39, 1, .aload_n 0, (0, 0, 0), 0)) (by decide +kernel)) g0_z hc_z
          replace hc_z := rn_dup (am_cur_of (i := (40, 1, .dup, (0, 0, 0), 0)) (by decide +kernel)) hc_z
          replace hc_z := rn_getI (v := x) (am_cur_of (i := (41, 3, .getfield 154, (12, 7, 1391), 0)) (by decide +kernel)) (by decide +kernel) r3_z hc_z
          replace hc_z := rn_iconst (w := 1) (am_cur_of (i := (44, 1, .iconst 1, (0, 0, 0), 0)) (by decide +kernel)) (by decide) hc_z
          replace hc_z := rn_iadd (w := x + 1) (am_cur_of (i := (45, 1, .iadd, (0, 0, 0), 0)) (by decide +kernel)) rfl hc_z
          replace hc_z := rn_put (am_cur_of (i := (46, 3, .putfield 154, (12, 7, 1391), 0)) (by decide +kernel)) (by decide +kernel) hc_z
          replace hc_z := rn_gotoL (am_cur_of (i := (49, 3, .goto (-49), (0, 0, 0), 0)) (by decide +kernel)) hc_z
          have e1_z := rt_c1 r4_z (by omega)
          have cx1_z := rt_cl (x := x + 1) (by omega)
          have hC1 : rt_M T S (x + 1) (am_up h 164 7 (.int (x + 1))) := ⟨r2_z, rfl, by omega, by omega, r6_z, fun k hk_z => r7_z k hk_z, fun k hk_z => r8_z k hk_z⟩
          obtain ⟨n2_z, x2_z, h2_z, q1_z, q2_z, q3_z, q4_z⟩ := ih_z (x + 1) _ ls hC1 g0_z hc_z
          refine ⟨n2_z, x2_z, h2_z, q1_z, ?_, ab_Fr_trans (ab_Fr_up (by decide) ab_Fr_refl) q3_z, q4_z⟩
          rw [q2_z, rd_end_on (by omega) (rd_wsT (Or.inr b52_z.1)), show x.toNatClampNeg + 1 = (x + 1).toNatClampNeg by omega]
