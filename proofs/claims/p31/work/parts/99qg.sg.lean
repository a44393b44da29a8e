/-! ===== SIGNS, AND A TOKEN OF BOTH SIDES (wip/r/gen99qg.py) ===== -/
/-- the class's kind, value and how many bytes more, by a sign and the byte behind it -/
def rt_sC (c d : Int32) : Int32 × Int32 × Int32 :=
  if c = 60 then (if d = 61 then (6, 7, 1) else if d = 62 then (6, 9, 1) else (6, 6, 0)) else if c = 62 then (if d = 61 then (6, 10, 1) else (6, 11, 0)) else if c = 61 then (6, 8, 0)
  else if c = 43 then (6, 12, 0) else if c = 45 then (6, 13, 0) else if c = 42 then (6, 14, 0) else if c = 47 then (6, 15, 0) else if c = 59 ∨ c = 40 ∨ c = 41 then (5, c, 0) else (1, c, 0)
def rt_sM (c d : Int32) : Int32 × Int32 × Int32 :=
  if c = 60 then (if d = 61 then (5, 1, 1) else if d = 62 then (5, 3, 1) else (5, 0, 0)) else if c = 62 then (if d = 61 then (5, 4, 1) else (5, 5, 0)) else if c = 61 then (5, 2, 0)
  else if c = 43 then (4, c, 0) else if c = 45 then (4, c, 0) else if c = 42 then (4, c, 0) else if c = 47 then (4, c, 0) else if c = 59 ∨ c = 40 ∨ c = 41 then (4, c, 0) else if c = 37 then (4, c, 0) else (6, c, 0)
/-- the byte at q, 0 behind the last -/
def rt_nx (T : Nat → Int32) (s q : Nat) : Int32 := if q < s then T q else 0
theorem rt_nx_in {T : Nat → Int32} {s q : Nat} (h : q < s) : rt_nx T s q = T q := if_pos h
theorem rt_nx_out {T : Nat → Int32} {s q : Nat} (h : ¬ q < s) : rt_nx T s q = 0 := if_neg h
theorem rt_foll {T : Nat → Int32} {S x c : Int32} {n : Nat} {h h' : am_H} {r : Option Value} (hC : rt_C T S x h) (hc0_z : ¬ c = 0) (hc_z : rn n am_m25 0 (lv_args 0 [.ref 44, .int c]) [] h r h') : (r = some (.int 1) ∧ h' = am_up h 44 8 (.int (x + 1)) ∧ rt_nx T S.toNatClampNeg x.toNatClampNeg = c ∧ rt_C T S (x + 1) h') ∨ (r = some (.int 0) ∧ h' = h ∧ ¬ rt_nx T S.toNatClampNeg x.toNatClampNeg = c) := by
  have g0_z : am_get (lv_args 0 [.ref 44, .int c]) 0 = some (.ref 44) := rfl
  have g1_z : am_get (lv_args 0 [.ref 44, .int c]) 1 = some (.int c) := rfl
  have hC' := hC
  obtain ⟨r1_z, r2_z, r3_z, r4_z, r5_z, r6_z, r7_z, r8_z⟩ := hC
  have cx_z := rt_cl r4_z
  have cS_z := rt_cl (x := S) (by omega)
  replace hc_z := rn_aload_n (am_cur_of (i := (0, 1, .aload_n 0, (0, 0, 0), 0)) (by decide +kernel)) g0_z hc_z
  replace hc_z := rn_getI (v := x) (am_cur_of (i := (1, 3, .getfield 54, (4, 8, 417), 0)) (by decide +kernel)) (by decide +kernel) r3_z hc_z
  replace hc_z := rn_aload_n (am_cur_of (i := (4, 1, .aload_n 0, (0, 0, 0), 0)) (by decide +kernel)) g0_z hc_z
  replace hc_z := rn_getI (v := S) (am_cur_of (i := (5, 3, .getfield 37, (4, 5, 414), 0)) (by decide +kernel)) (by decide +kernel) r2_z hc_z
  replace hc_z := rn_cmp (am_cur_of (i := (8, 3, .if_icmp .ge 16, (12, 0, 0), 0)) (by decide +kernel)) hc_z
  rcases hc_z with ⟨b182_z, hc_z⟩ | ⟨b182_z, hc_z⟩
  · replace b182_z : S.toInt ≤ x.toInt := b182_z
    replace hc_z := rn_iconst (w := 0) (am_cur_of (i := (24, 1, .iconst 0, (0, 0, 0), 0)) (by decide +kernel)) (by decide) hc_z
    replace hc_z := rn_iret (am_cur_of (i := (25, 1, .ireturn, (0, 0, 0), 0)) (by decide +kernel)) hc_z
    obtain ⟨e183_z, e184_z⟩ := hc_z
    exact Or.inr ⟨e183_z, e184_z, by rw [rt_nx_out (by omega)]; exact fun q => hc0_z q.symm⟩
  · replace b182_z : x.toInt < S.toInt := b182_z
    replace hc_z := rn_aload_n (am_cur_of (i := (11, 1, .aload_n 0, (0, 0, 0), 0)) (by decide +kernel)) g0_z hc_z
    replace hc_z := rn_getM (x := 1) (am_cur_of (i := (12, 3, .getfield 19, (4, 4, 413), 0)) (by decide +kernel)) r1_z hc_z
    replace hc_z := rn_aload_n (am_cur_of (i := (15, 1, .aload_n 0, (0, 0, 0), 0)) (by decide +kernel)) g0_z hc_z
    replace hc_z := rn_getI (v := x) (am_cur_of (i := (16, 3, .getfield 54, (4, 8, 417), 0)) (by decide +kernel)) (by decide +kernel) r3_z hc_z
    replace hc_z := rn_iaload (N := 700) (q := x.toNatClampNeg) (v := T x.toNatClampNeg) (am_cur_of (i := (19, 1, .iaload, (0, 0, 0), 0)) (by decide +kernel)) (by decide +kernel) rfl (r7_z _ (by omega)) hc_z
    obtain ⟨p185_z, hc_z⟩ := hc_z
    replace hc_z := rn_iload_n (am_cur_of (i := (20, 1, .iload_n 1, (0, 0, 0), 0)) (by decide +kernel)) g1_z hc_z
    replace hc_z := rn_cmp (am_cur_of (i := (21, 3, .if_icmp .eq 5, (14, 0, 0), 0)) (by decide +kernel)) hc_z
    rcases hc_z with ⟨b186_z, hc_z⟩ | ⟨b186_z, hc_z⟩
    · replace b186_z : (T x.toNatClampNeg) = c ∧ (T x.toNatClampNeg).toInt = c.toInt := b186_z
      replace hc_z := rn_aload_n (am_cur_of (i := (26, 1, .aload_n 0, (0, 0, 0), 0)) (by decide +kernel)) g0_z hc_z
      replace hc_z := rn_dup (am_cur_of (i := (27, 1, .dup, (0, 0, 0), 0)) (by decide +kernel)) hc_z
      replace hc_z := rn_getI (v := x) (am_cur_of (i := (28, 3, .getfield 54, (4, 8, 417), 0)) (by decide +kernel)) (by decide +kernel) r3_z hc_z
      replace hc_z := rn_iconst (w := 1) (am_cur_of (i := (31, 1, .iconst 1, (0, 0, 0), 0)) (by decide +kernel)) (by decide) hc_z
      replace hc_z := rn_iadd (w := x + 1) (am_cur_of (i := (32, 1, .iadd, (0, 0, 0), 0)) (by decide +kernel)) rfl hc_z
      replace hc_z := rn_put (am_cur_of (i := (33, 3, .putfield 54, (4, 8, 417), 0)) (by decide +kernel)) (by decide +kernel) hc_z
      replace hc_z := rn_iconst (w := 1) (am_cur_of (i := (36, 1, .iconst 1, (0, 0, 0), 0)) (by decide +kernel)) (by decide) hc_z
      replace hc_z := rn_iret (am_cur_of (i := (37, 1, .ireturn, (0, 0, 0), 0)) (by decide +kernel)) hc_z
      obtain ⟨e187_z, e188_z⟩ := hc_z
      have e1_z := rt_c1 r4_z (by omega)
      subst e188_z
      exact Or.inl ⟨e187_z, rfl, (rt_nx_in (by omega)).trans b186_z.1, ⟨r1_z, r2_z, rfl, by omega, by omega, r6_z, fun k hk_z => r7_z k hk_z, fun k hk_z => r8_z k hk_z⟩⟩
    · replace b186_z : ¬ (T x.toNatClampNeg) = c ∧ ¬ (T x.toNatClampNeg).toInt = c.toInt := b186_z
      replace hc_z := rn_iconst (w := 0) (am_cur_of (i := (24, 1, .iconst 0, (0, 0, 0), 0)) (by decide +kernel)) (by decide) hc_z
      replace hc_z := rn_iret (am_cur_of (i := (25, 1, .ireturn, (0, 0, 0), 0)) (by decide +kernel)) hc_z
      obtain ⟨e189_z, e190_z⟩ := hc_z
      exact Or.inr ⟨e189_z, e190_z, by rw [rt_nx_in (by omega)]; exact b186_z.1⟩
theorem rt_asC {T : Nat → Int32} {S x : Int32} {n : Nat} {h h' : am_H} {r : Option Value} (hC : rt_C T S x h) (hx_z : x.toInt < S.toInt) (hc_z : rn n am_m24 0 (lv_args 0 [.ref 44]) [] h r h') : r = none ∧ rt_C T S (x + 1 + (rt_sC (T x.toNatClampNeg) (rt_nx T S.toNatClampNeg (x.toNatClampNeg + 1))).2.2) h' ∧ ab_Fr rt_mC h h' ∧ rg_v h' 44 9 = rg_v h 44 9 ∧ rg_v h' 44 10 = (rt_sC (T x.toNatClampNeg) (rt_nx T S.toNatClampNeg (x.toNatClampNeg + 1))).1 ∧ rg_v h' 44 11 = (rt_sC (T x.toNatClampNeg) (rt_nx T S.toNatClampNeg (x.toNatClampNeg + 1))).2.1 ∧ rg_v h' 44 8 = x + 1 + (rt_sC (T x.toNatClampNeg) (rt_nx T S.toNatClampNeg (x.toNatClampNeg + 1))).2.2 := by
  have z40_z : (40 : Int32).toInt = 40 := by decide
  have z41_z : (41 : Int32).toInt = 41 := by decide
  have z59_z : (59 : Int32).toInt = 59 := by decide
  have g0_z : am_get (lv_args 0 [.ref 44]) 0 = some (.ref 44) := rfl
  obtain ⟨r1_z, r2_z, r3_z, r4_z, r5_z, r6_z, r7_z, r8_z⟩ := hC
  have cx_z := rt_cl r4_z
  have cS_z := rt_cl (x := S) (by omega)
  have c1_z := rt_c1 r4_z (by omega)
  have cx1_z := rt_cl (x := x + 1) (by omega)
  obtain ⟨c, ec_z⟩ : ∃ c, T x.toNatClampNeg = c := ⟨_, rfl⟩
  rw [ec_z]
  obtain ⟨d, ed_z⟩ : ∃ d, rt_nx T S.toNatClampNeg (x.toNatClampNeg + 1) = d := ⟨_, rfl⟩
  rw [ed_z]
  replace hc_z := rn_aload_n (am_cur_of (i := (0, 1, .aload_n 0, (0, 0, 0), 0)) (by decide +kernel)) g0_z hc_z
  replace hc_z := rn_getM (x := 1) (am_cur_of (i := (1, 3, .getfield 19, (4, 4, 413), 0)) (by decide +kernel)) r1_z hc_z
  replace hc_z := rn_aload_n (am_cur_of (i := (4, 1, .aload_n 0, (0, 0, 0), 0)) (by decide +kernel)) g0_z hc_z
  replace hc_z := rn_getI (v := x) (am_cur_of (i := (5, 3, .getfield 54, (4, 8, 417), 0)) (by decide +kernel)) (by decide +kernel) r3_z hc_z
  replace hc_z := rn_iaload (N := 700) (q := x.toNatClampNeg) (v := c) (am_cur_of (i := (8, 1, .iaload, (0, 0, 0), 0)) (by decide +kernel)) (by decide +kernel) rfl ((r7_z _ (by omega)).trans ec_z) hc_z
  obtain ⟨p191_z, hc_z⟩ := hc_z
  replace hc_z := rn_istore_n (am_cur_of (i := (9, 1, .istore_n 1, (0, 0, 0), 0)) (by decide +kernel)) hc_z
  obtain ⟨_, s192_z, s193_z, g1_z, hc_z⟩ := hc_z
  replace g0_z := s192_z 0 _ (by decide) rfl g0_z
  clear s192_z s193_z
  replace hc_z := rn_aload_n (am_cur_of (i := (10, 1, .aload_n 0, (0, 0, 0), 0)) (by decide +kernel)) g0_z hc_z
  replace hc_z := rn_dup (am_cur_of (i := (11, 1, .dup, (0, 0, 0), 0)) (by decide +kernel)) hc_z
  replace hc_z := rn_getI (v := x) (am_cur_of (i := (12, 3, .getfield 54, (4, 8, 417), 0)) (by decide +kernel)) (by decide +kernel) r3_z hc_z
  replace hc_z := rn_iconst (w := 1) (am_cur_of (i := (15, 1, .iconst 1, (0, 0, 0), 0)) (by decide +kernel)) (by decide) hc_z
  replace hc_z := rn_iadd (w := x + 1) (am_cur_of (i := (16, 1, .iadd, (0, 0, 0), 0)) (by decide +kernel)) rfl hc_z
  replace hc_z := rn_put (am_cur_of (i := (17, 3, .putfield 54, (4, 8, 417), 0)) (by decide +kernel)) (by decide +kernel) hc_z
  replace hc_z := rn_aload_n (am_cur_of (i := (20, 1, .aload_n 0, (0, 0, 0), 0)) (by decide +kernel)) g0_z hc_z
  replace hc_z := rn_bipush (w := 6) (am_cur_of (i := (21, 2, .bipush 6, (0, 0, 0), 0)) (by decide +kernel)) (by decide) hc_z
  replace hc_z := rn_put (am_cur_of (i := (23, 3, .putfield 60, (4, 10, 419), 0)) (by decide +kernel)) (by decide +kernel) hc_z
  replace hc_z := rn_iload_n (am_cur_of (i := (26, 1, .iload_n 1, (0, 0, 0), 0)) (by decide +kernel)) g1_z hc_z
  by_cases v194_z : c = 42
  · replace hc_z := rn_swI (off := 184) (a := 55) (am_cur_of (i := (27, 97, .tableswitch 202 42 62 #[184, 166, 202, 175, 202, 193, 202, 202, 202, 202, 202, 202, 202, 202, 202, 202, 202, 202, 97, 157, 134], (0, 0, 0), 0)) (by decide +kernel)) (by rw [v194_z]; decide) (by rw [v194_z]; decide) (by decide +kernel) hc_z
    replace hc_z := rn_aload_n (am_cur_of (i := (211, 1, .aload_n 0, (0, 0, 0), 0)) (by decide +kernel)) g0_z hc_z
    replace hc_z := rn_bipush (w := 14) (am_cur_of (i := (212, 2, .bipush 14, (0, 0, 0), 0)) (by decide +kernel)) (by decide) hc_z
    replace hc_z := rn_put (am_cur_of (i := (214, 3, .putfield 91, (4, 11, 420), 0)) (by decide +kernel)) (by decide +kernel) hc_z
    replace hc_z := rn_goto (am_cur_of (i := (217, 3, .goto 44, (80, 0, 0), 0)) (by decide +kernel)) hc_z
    replace hc_z := rn_vret (am_cur_of (i := (261, 1, .return_, (0, 0, 0), 0)) (by decide +kernel)) hc_z
    obtain ⟨e195_z, e196_z⟩ := hc_z
    have es_z : rt_sC c d = (6, 14, 0) := by
      unfold rt_sC
      rw [if_neg (by rw [v194_z]; decide)]
      rw [if_neg (by rw [v194_z]; decide)]
      rw [if_neg (by rw [v194_z]; decide)]
      rw [if_neg (by rw [v194_z]; decide)]
      rw [if_neg (by rw [v194_z]; decide)]
      rw [if_pos v194_z]
    subst e195_z e196_z
    rw [es_z]
    dsimp only
    refine ⟨rfl, ?_, ab_Fr_up (by decide) (ab_Fr_up (by decide) (ab_Fr_up (by decide) ab_Fr_refl)), rfl, rfl, rfl, ?_⟩
    · show rt_C T S (x + 1 + 0) _
      rw [Int32.add_zero]
      exact ⟨r1_z, r2_z, rfl, by omega, by omega, r6_z, fun k hk_z => r7_z k hk_z, fun k hk_z => r8_z k hk_z⟩
    · exact (Int32.add_zero _).symm
  by_cases v197_z : c = 43
  · replace hc_z := rn_swI (off := 166) (a := 47) (am_cur_of (i := (27, 97, .tableswitch 202 42 62 #[184, 166, 202, 175, 202, 193, 202, 202, 202, 202, 202, 202, 202, 202, 202, 202, 202, 202, 97, 157, 134], (0, 0, 0), 0)) (by decide +kernel)) (by rw [v197_z]; decide) (by rw [v197_z]; decide) (by decide +kernel) hc_z
    replace hc_z := rn_aload_n (am_cur_of (i := (193, 1, .aload_n 0, (0, 0, 0), 0)) (by decide +kernel)) g0_z hc_z
    replace hc_z := rn_bipush (w := 12) (am_cur_of (i := (194, 2, .bipush 12, (0, 0, 0), 0)) (by decide +kernel)) (by decide) hc_z
    replace hc_z := rn_put (am_cur_of (i := (196, 3, .putfield 91, (4, 11, 420), 0)) (by decide +kernel)) (by decide +kernel) hc_z
    replace hc_z := rn_goto (am_cur_of (i := (199, 3, .goto 62, (80, 0, 0), 0)) (by decide +kernel)) hc_z
    replace hc_z := rn_vret (am_cur_of (i := (261, 1, .return_, (0, 0, 0), 0)) (by decide +kernel)) hc_z
    obtain ⟨e198_z, e199_z⟩ := hc_z
    have es_z : rt_sC c d = (6, 12, 0) := by
      unfold rt_sC
      rw [if_neg (by rw [v197_z]; decide)]
      rw [if_neg (by rw [v197_z]; decide)]
      rw [if_neg (by rw [v197_z]; decide)]
      rw [if_pos v197_z]
    subst e198_z e199_z
    rw [es_z]
    dsimp only
    refine ⟨rfl, ?_, ab_Fr_up (by decide) (ab_Fr_up (by decide) (ab_Fr_up (by decide) ab_Fr_refl)), rfl, rfl, rfl, ?_⟩
    · show rt_C T S (x + 1 + 0) _
      rw [Int32.add_zero]
      exact ⟨r1_z, r2_z, rfl, by omega, by omega, r6_z, fun k hk_z => r7_z k hk_z, fun k hk_z => r8_z k hk_z⟩
    · exact (Int32.add_zero _).symm
  by_cases v200_z : c = 45
  · replace hc_z := rn_swI (off := 175) (a := 51) (am_cur_of (i := (27, 97, .tableswitch 202 42 62 #[184, 166, 202, 175, 202, 193, 202, 202, 202, 202, 202, 202, 202, 202, 202, 202, 202, 202, 97, 157, 134], (0, 0, 0), 0)) (by decide +kernel)) (by rw [v200_z]; decide) (by rw [v200_z]; decide) (by decide +kernel) hc_z
    replace hc_z := rn_aload_n (am_cur_of (i := (202, 1, .aload_n 0, (0, 0, 0), 0)) (by decide +kernel)) g0_z hc_z
    replace hc_z := rn_bipush (w := 13) (am_cur_of (i := (203, 2, .bipush 13, (0, 0, 0), 0)) (by decide +kernel)) (by decide) hc_z
    replace hc_z := rn_put (am_cur_of (i := (205, 3, .putfield 91, (4, 11, 420), 0)) (by decide +kernel)) (by decide +kernel) hc_z
    replace hc_z := rn_goto (am_cur_of (i := (208, 3, .goto 53, (80, 0, 0), 0)) (by decide +kernel)) hc_z
    replace hc_z := rn_vret (am_cur_of (i := (261, 1, .return_, (0, 0, 0), 0)) (by decide +kernel)) hc_z
    obtain ⟨e201_z, e202_z⟩ := hc_z
    have es_z : rt_sC c d = (6, 13, 0) := by
      unfold rt_sC
      rw [if_neg (by rw [v200_z]; decide)]
      rw [if_neg (by rw [v200_z]; decide)]
      rw [if_neg (by rw [v200_z]; decide)]
      rw [if_neg (by rw [v200_z]; decide)]
      rw [if_pos v200_z]
    subst e201_z e202_z
    rw [es_z]
    dsimp only
    refine ⟨rfl, ?_, ab_Fr_up (by decide) (ab_Fr_up (by decide) (ab_Fr_up (by decide) ab_Fr_refl)), rfl, rfl, rfl, ?_⟩
    · show rt_C T S (x + 1 + 0) _
      rw [Int32.add_zero]
      exact ⟨r1_z, r2_z, rfl, by omega, by omega, r6_z, fun k hk_z => r7_z k hk_z, fun k hk_z => r8_z k hk_z⟩
    · exact (Int32.add_zero _).symm
  by_cases v203_z : c = 47
  · replace hc_z := rn_swI (off := 193) (a := 59) (am_cur_of (i := (27, 97, .tableswitch 202 42 62 #[184, 166, 202, 175, 202, 193, 202, 202, 202, 202, 202, 202, 202, 202, 202, 202, 202, 202, 97, 157, 134], (0, 0, 0), 0)) (by decide +kernel)) (by rw [v203_z]; decide) (by rw [v203_z]; decide) (by decide +kernel) hc_z
    replace hc_z := rn_aload_n (am_cur_of (i := (220, 1, .aload_n 0, (0, 0, 0), 0)) (by decide +kernel)) g0_z hc_z
    replace hc_z := rn_bipush (w := 15) (am_cur_of (i := (221, 2, .bipush 15, (0, 0, 0), 0)) (by decide +kernel)) (by decide) hc_z
    replace hc_z := rn_put (am_cur_of (i := (223, 3, .putfield 91, (4, 11, 420), 0)) (by decide +kernel)) (by decide +kernel) hc_z
    replace hc_z := rn_goto (am_cur_of (i := (226, 3, .goto 35, (80, 0, 0), 0)) (by decide +kernel)) hc_z
    replace hc_z := rn_vret (am_cur_of (i := (261, 1, .return_, (0, 0, 0), 0)) (by decide +kernel)) hc_z
    obtain ⟨e204_z, e205_z⟩ := hc_z
    have es_z : rt_sC c d = (6, 15, 0) := by
      unfold rt_sC
      rw [if_neg (by rw [v203_z]; decide)]
      rw [if_neg (by rw [v203_z]; decide)]
      rw [if_neg (by rw [v203_z]; decide)]
      rw [if_neg (by rw [v203_z]; decide)]
      rw [if_neg (by rw [v203_z]; decide)]
      rw [if_neg (by rw [v203_z]; decide)]
      rw [if_pos v203_z]
    subst e204_z e205_z
    rw [es_z]
    dsimp only
    refine ⟨rfl, ?_, ab_Fr_up (by decide) (ab_Fr_up (by decide) (ab_Fr_up (by decide) ab_Fr_refl)), rfl, rfl, rfl, ?_⟩
    · show rt_C T S (x + 1 + 0) _
      rw [Int32.add_zero]
      exact ⟨r1_z, r2_z, rfl, by omega, by omega, r6_z, fun k hk_z => r7_z k hk_z, fun k hk_z => r8_z k hk_z⟩
    · exact (Int32.add_zero _).symm
  by_cases v206_z : c = 60
  · replace hc_z := rn_swI (off := 97) (a := 17) (am_cur_of (i := (27, 97, .tableswitch 202 42 62 #[184, 166, 202, 175, 202, 193, 202, 202, 202, 202, 202, 202, 202, 202, 202, 202, 202, 202, 97, 157, 134], (0, 0, 0), 0)) (by decide +kernel)) (by rw [v206_z]; decide) (by rw [v206_z]; decide) (by decide +kernel) hc_z
    replace hc_z := rn_aload_n (am_cur_of (i := (124, 1, .aload_n 0, (0, 0, 0), 0)) (by decide +kernel)) g0_z hc_z
    replace hc_z := rn_aload_n (am_cur_of (i := (125, 1, .aload_n 0, (0, 0, 0), 0)) (by decide +kernel)) g0_z hc_z
    replace hc_z := rn_bipush (w := 61) (am_cur_of (i := (126, 2, .bipush 61, (0, 0, 0), 0)) (by decide +kernel)) (by decide) hc_z
    replace hc_z := rn_callV (M' := am_m25) (o := 44) (ar := [.int 61]) (rest := [.ref 44]) (L := lv_args 0 [.ref 44, .int 61]) (am_cur_of (i := (128, 3, .invokevirtual 101, (25, 753, 3), 0)) (by decide +kernel)) rfl rfl rfl rfl hc_z
    obtain ⟨r207_z, h208_z, q209_z, hc_z⟩ := hc_z
    have hC1 : rt_C T S (x + 1) (am_up (am_up h 44 8 (.int (x + 1))) 44 10 (.int 6)) := ⟨r1_z, r2_z, rfl, by omega, by omega, r6_z, fun k hk_z => r7_z k hk_z, fun k hk_z => r8_z k hk_z⟩
    rcases rt_foll hC1 (by decide) q209_z with ⟨rfl, f211_z, f210_z, -⟩ | ⟨rfl, f211_z, f210_z⟩
    · replace f211_z := f211_z.symm
      subst f211_z
      replace f210_z : d = 61 := by rw [← ed_z, show x.toNatClampNeg + 1 = (x + 1).toNatClampNeg by omega]; exact f210_z
      replace hc_z : rn _ _ _ _ [.int 1, .ref 44] _ _ _ := hc_z
      replace hc_z := rn_ifF (am_cur_of (i := (131, 3, .ifCond .eq 8, (24, 0, 0), 0)) (by decide +kernel)) (by decide) hc_z
      replace hc_z := rn_bipush (w := 7) (am_cur_of (i := (134, 2, .bipush 7, (0, 0, 0), 0)) (by decide +kernel)) (by decide) hc_z
      replace hc_z := rn_goto (am_cur_of (i := (136, 3, .goto 19, (31, 0, 0), 0)) (by decide +kernel)) hc_z
      replace hc_z := rn_put (am_cur_of (i := (155, 3, .putfield 91, (4, 11, 420), 0)) (by decide +kernel)) (by decide +kernel) hc_z
      replace hc_z := rn_goto (am_cur_of (i := (158, 3, .goto 103, (80, 0, 0), 0)) (by decide +kernel)) hc_z
      replace hc_z := rn_vret (am_cur_of (i := (261, 1, .return_, (0, 0, 0), 0)) (by decide +kernel)) hc_z
      obtain ⟨e212_z, e213_z⟩ := hc_z
      have es_z : rt_sC c d = (6, 7, 1) := by
        unfold rt_sC
        rw [if_pos v206_z]
        rw [if_pos f210_z]
      subst e212_z e213_z
      rw [es_z]
      dsimp only
      have hlt : x.toNatClampNeg + 1 < S.toNatClampNeg := by
        refine Nat.lt_of_not_le (fun q => ?_)
        rw [rt_nx_out (by omega)] at ed_z
        have := ed_z.trans f210_z
        exact absurd this (by decide)
      have e3_z := rt_c1 (x := x + 1) (by omega) (by omega)
      refine ⟨rfl, ⟨r1_z, r2_z, rfl, by omega, by omega, r6_z, fun k hk_z => r7_z k hk_z, fun k hk_z => r8_z k hk_z⟩, ab_Fr_up (by decide) (ab_Fr_up (by decide) (ab_Fr_up (by decide) (ab_Fr_up (by decide) ab_Fr_refl))), rfl, rfl, rfl, rfl⟩
    · replace f211_z := f211_z.symm
      subst f211_z
      replace f210_z : ¬ d = 61 := by rw [← ed_z, show x.toNatClampNeg + 1 = (x + 1).toNatClampNeg by omega]; exact f210_z
      replace hc_z : rn _ _ _ _ [.int 0, .ref 44] _ _ _ := hc_z
      replace hc_z := rn_ifT (am_cur_of (i := (131, 3, .ifCond .eq 8, (24, 0, 0), 0)) (by decide +kernel)) (by decide) hc_z
      replace hc_z := rn_aload_n (am_cur_of (i := (139, 1, .aload_n 0, (0, 0, 0), 0)) (by decide +kernel)) g0_z hc_z
      replace hc_z := rn_bipush (w := 62) (am_cur_of (i := (140, 2, .bipush 62, (0, 0, 0), 0)) (by decide +kernel)) (by decide) hc_z
      replace hc_z := rn_callV (M' := am_m25) (o := 44) (ar := [.int 62]) (rest := [.ref 44]) (L := lv_args 0 [.ref 44, .int 62]) (am_cur_of (i := (142, 3, .invokevirtual 101, (25, 753, 3), 0)) (by decide +kernel)) rfl rfl rfl rfl hc_z
      obtain ⟨r214_z, h215_z, q216_z, hc_z⟩ := hc_z
      have hC1 : rt_C T S (x + 1) (am_up (am_up h 44 8 (.int (x + 1))) 44 10 (.int 6)) := ⟨r1_z, r2_z, rfl, by omega, by omega, r6_z, fun k hk_z => r7_z k hk_z, fun k hk_z => r8_z k hk_z⟩
      rcases rt_foll hC1 (by decide) q216_z with ⟨rfl, f218_z, f217_z, -⟩ | ⟨rfl, f218_z, f217_z⟩
      · replace f218_z := f218_z.symm
        subst f218_z
        replace f217_z : d = 62 := by rw [← ed_z, show x.toNatClampNeg + 1 = (x + 1).toNatClampNeg by omega]; exact f217_z
        replace hc_z : rn _ _ _ _ [.int 1, .ref 44] _ _ _ := hc_z
        replace hc_z := rn_ifF (am_cur_of (i := (145, 3, .ifCond .eq 8, (30, 0, 0), 0)) (by decide +kernel)) (by decide) hc_z
        replace hc_z := rn_bipush (w := 9) (am_cur_of (i := (148, 2, .bipush 9, (0, 0, 0), 0)) (by decide +kernel)) (by decide) hc_z
        replace hc_z := rn_goto (am_cur_of (i := (150, 3, .goto 5, (31, 0, 0), 0)) (by decide +kernel)) hc_z
        replace hc_z := rn_put (am_cur_of (i := (155, 3, .putfield 91, (4, 11, 420), 0)) (by decide +kernel)) (by decide +kernel) hc_z
        replace hc_z := rn_goto (am_cur_of (i := (158, 3, .goto 103, (80, 0, 0), 0)) (by decide +kernel)) hc_z
        replace hc_z := rn_vret (am_cur_of (i := (261, 1, .return_, (0, 0, 0), 0)) (by decide +kernel)) hc_z
        obtain ⟨e219_z, e220_z⟩ := hc_z
        have es_z : rt_sC c d = (6, 9, 1) := by
          unfold rt_sC
          rw [if_pos v206_z]
          rw [if_neg (by rw [f217_z]; decide)]
          rw [if_pos f217_z]
        subst e219_z e220_z
        rw [es_z]
        dsimp only
        have hlt : x.toNatClampNeg + 1 < S.toNatClampNeg := by
          refine Nat.lt_of_not_le (fun q => ?_)
          rw [rt_nx_out (by omega)] at ed_z
          have := ed_z.trans f217_z
          exact absurd this (by decide)
        have e3_z := rt_c1 (x := x + 1) (by omega) (by omega)
        refine ⟨rfl, ⟨r1_z, r2_z, rfl, by omega, by omega, r6_z, fun k hk_z => r7_z k hk_z, fun k hk_z => r8_z k hk_z⟩, ab_Fr_up (by decide) (ab_Fr_up (by decide) (ab_Fr_up (by decide) (ab_Fr_up (by decide) ab_Fr_refl))), rfl, rfl, rfl, rfl⟩
      · replace f218_z := f218_z.symm
        subst f218_z
        replace f217_z : ¬ d = 62 := by rw [← ed_z, show x.toNatClampNeg + 1 = (x + 1).toNatClampNeg by omega]; exact f217_z
        replace hc_z : rn _ _ _ _ [.int 0, .ref 44] _ _ _ := hc_z
        replace hc_z := rn_ifT (am_cur_of (i := (145, 3, .ifCond .eq 8, (30, 0, 0), 0)) (by decide +kernel)) (by decide) hc_z
        replace hc_z := rn_bipush (w := 6) (am_cur_of (i := (153, 2, .bipush 6, (0, 0, 0), 0)) (by decide +kernel)) (by decide) hc_z
        replace hc_z := rn_put (am_cur_of (i := (155, 3, .putfield 91, (4, 11, 420), 0)) (by decide +kernel)) (by decide +kernel) hc_z
        replace hc_z := rn_goto (am_cur_of (i := (158, 3, .goto 103, (80, 0, 0), 0)) (by decide +kernel)) hc_z
        replace hc_z := rn_vret (am_cur_of (i := (261, 1, .return_, (0, 0, 0), 0)) (by decide +kernel)) hc_z
        obtain ⟨e221_z, e222_z⟩ := hc_z
        have es_z : rt_sC c d = (6, 6, 0) := by
          unfold rt_sC
          rw [if_pos v206_z]
          rw [if_neg f210_z]
          rw [if_neg f217_z]
        subst e221_z e222_z
        rw [es_z]
        dsimp only
        refine ⟨rfl, ?_, ab_Fr_up (by decide) (ab_Fr_up (by decide) (ab_Fr_up (by decide) ab_Fr_refl)), rfl, rfl, rfl, ?_⟩
        · show rt_C T S (x + 1 + 0) _
          rw [Int32.add_zero]
          exact ⟨r1_z, r2_z, rfl, by omega, by omega, r6_z, fun k hk_z => r7_z k hk_z, fun k hk_z => r8_z k hk_z⟩
        · exact (Int32.add_zero _).symm
  by_cases v223_z : c = 61
  · replace hc_z := rn_swI (off := 157) (a := 43) (am_cur_of (i := (27, 97, .tableswitch 202 42 62 #[184, 166, 202, 175, 202, 193, 202, 202, 202, 202, 202, 202, 202, 202, 202, 202, 202, 202, 97, 157, 134], (0, 0, 0), 0)) (by decide +kernel)) (by rw [v223_z]; decide) (by rw [v223_z]; decide) (by decide +kernel) hc_z
    replace hc_z := rn_aload_n (am_cur_of (i := (184, 1, .aload_n 0, (0, 0, 0), 0)) (by decide +kernel)) g0_z hc_z
    replace hc_z := rn_bipush (w := 8) (am_cur_of (i := (185, 2, .bipush 8, (0, 0, 0), 0)) (by decide +kernel)) (by decide) hc_z
    replace hc_z := rn_put (am_cur_of (i := (187, 3, .putfield 91, (4, 11, 420), 0)) (by decide +kernel)) (by decide +kernel) hc_z
    replace hc_z := rn_goto (am_cur_of (i := (190, 3, .goto 71, (80, 0, 0), 0)) (by decide +kernel)) hc_z
    replace hc_z := rn_vret (am_cur_of (i := (261, 1, .return_, (0, 0, 0), 0)) (by decide +kernel)) hc_z
    obtain ⟨e224_z, e225_z⟩ := hc_z
    have es_z : rt_sC c d = (6, 8, 0) := by
      unfold rt_sC
      rw [if_neg (by rw [v223_z]; decide)]
      rw [if_neg (by rw [v223_z]; decide)]
      rw [if_pos v223_z]
    subst e224_z e225_z
    rw [es_z]
    dsimp only
    refine ⟨rfl, ?_, ab_Fr_up (by decide) (ab_Fr_up (by decide) (ab_Fr_up (by decide) ab_Fr_refl)), rfl, rfl, rfl, ?_⟩
    · show rt_C T S (x + 1 + 0) _
      rw [Int32.add_zero]
      exact ⟨r1_z, r2_z, rfl, by omega, by omega, r6_z, fun k hk_z => r7_z k hk_z, fun k hk_z => r8_z k hk_z⟩
    · exact (Int32.add_zero _).symm
  by_cases v226_z : c = 62
  · replace hc_z := rn_swI (off := 134) (a := 33) (am_cur_of (i := (27, 97, .tableswitch 202 42 62 #[184, 166, 202, 175, 202, 193, 202, 202, 202, 202, 202, 202, 202, 202, 202, 202, 202, 202, 97, 157, 134], (0, 0, 0), 0)) (by decide +kernel)) (by rw [v226_z]; decide) (by rw [v226_z]; decide) (by decide +kernel) hc_z
    replace hc_z := rn_aload_n (am_cur_of (i := (161, 1, .aload_n 0, (0, 0, 0), 0)) (by decide +kernel)) g0_z hc_z
    replace hc_z := rn_aload_n (am_cur_of (i := (162, 1, .aload_n 0, (0, 0, 0), 0)) (by decide +kernel)) g0_z hc_z
    replace hc_z := rn_bipush (w := 61) (am_cur_of (i := (163, 2, .bipush 61, (0, 0, 0), 0)) (by decide +kernel)) (by decide) hc_z
    replace hc_z := rn_callV (M' := am_m25) (o := 44) (ar := [.int 61]) (rest := [.ref 44]) (L := lv_args 0 [.ref 44, .int 61]) (am_cur_of (i := (165, 3, .invokevirtual 101, (25, 753, 3), 0)) (by decide +kernel)) rfl rfl rfl rfl hc_z
    obtain ⟨r227_z, h228_z, q229_z, hc_z⟩ := hc_z
    have hC1 : rt_C T S (x + 1) (am_up (am_up h 44 8 (.int (x + 1))) 44 10 (.int 6)) := ⟨r1_z, r2_z, rfl, by omega, by omega, r6_z, fun k hk_z => r7_z k hk_z, fun k hk_z => r8_z k hk_z⟩
    rcases rt_foll hC1 (by decide) q229_z with ⟨rfl, f231_z, f230_z, -⟩ | ⟨rfl, f231_z, f230_z⟩
    · replace f231_z := f231_z.symm
      subst f231_z
      replace f230_z : d = 61 := by rw [← ed_z, show x.toNatClampNeg + 1 = (x + 1).toNatClampNeg by omega]; exact f230_z
      replace hc_z : rn _ _ _ _ [.int 1, .ref 44] _ _ _ := hc_z
      replace hc_z := rn_ifF (am_cur_of (i := (168, 3, .ifCond .eq 8, (40, 0, 0), 0)) (by decide +kernel)) (by decide) hc_z
      replace hc_z := rn_bipush (w := 10) (am_cur_of (i := (171, 2, .bipush 10, (0, 0, 0), 0)) (by decide +kernel)) (by decide) hc_z
      replace hc_z := rn_goto (am_cur_of (i := (173, 3, .goto 5, (41, 0, 0), 0)) (by decide +kernel)) hc_z
      replace hc_z := rn_put (am_cur_of (i := (178, 3, .putfield 91, (4, 11, 420), 0)) (by decide +kernel)) (by decide +kernel) hc_z
      replace hc_z := rn_goto (am_cur_of (i := (181, 3, .goto 80, (80, 0, 0), 0)) (by decide +kernel)) hc_z
      replace hc_z := rn_vret (am_cur_of (i := (261, 1, .return_, (0, 0, 0), 0)) (by decide +kernel)) hc_z
      obtain ⟨e232_z, e233_z⟩ := hc_z
      have es_z : rt_sC c d = (6, 10, 1) := by
        unfold rt_sC
        rw [if_neg (by rw [v226_z]; decide)]
        rw [if_pos v226_z]
        rw [if_pos f230_z]
      subst e232_z e233_z
      rw [es_z]
      dsimp only
      have hlt : x.toNatClampNeg + 1 < S.toNatClampNeg := by
        refine Nat.lt_of_not_le (fun q => ?_)
        rw [rt_nx_out (by omega)] at ed_z
        have := ed_z.trans f230_z
        exact absurd this (by decide)
      have e3_z := rt_c1 (x := x + 1) (by omega) (by omega)
      refine ⟨rfl, ⟨r1_z, r2_z, rfl, by omega, by omega, r6_z, fun k hk_z => r7_z k hk_z, fun k hk_z => r8_z k hk_z⟩, ab_Fr_up (by decide) (ab_Fr_up (by decide) (ab_Fr_up (by decide) (ab_Fr_up (by decide) ab_Fr_refl))), rfl, rfl, rfl, rfl⟩
    · replace f231_z := f231_z.symm
      subst f231_z
      replace f230_z : ¬ d = 61 := by rw [← ed_z, show x.toNatClampNeg + 1 = (x + 1).toNatClampNeg by omega]; exact f230_z
      replace hc_z : rn _ _ _ _ [.int 0, .ref 44] _ _ _ := hc_z
      replace hc_z := rn_ifT (am_cur_of (i := (168, 3, .ifCond .eq 8, (40, 0, 0), 0)) (by decide +kernel)) (by decide) hc_z
      replace hc_z := rn_bipush (w := 11) (am_cur_of (i := (176, 2, .bipush 11, (0, 0, 0), 0)) (by decide +kernel)) (by decide) hc_z
      replace hc_z := rn_put (am_cur_of (i := (178, 3, .putfield 91, (4, 11, 420), 0)) (by decide +kernel)) (by decide +kernel) hc_z
      replace hc_z := rn_goto (am_cur_of (i := (181, 3, .goto 80, (80, 0, 0), 0)) (by decide +kernel)) hc_z
      replace hc_z := rn_vret (am_cur_of (i := (261, 1, .return_, (0, 0, 0), 0)) (by decide +kernel)) hc_z
      obtain ⟨e234_z, e235_z⟩ := hc_z
      have es_z : rt_sC c d = (6, 11, 0) := by
        unfold rt_sC
        rw [if_neg (by rw [v226_z]; decide)]
        rw [if_pos v226_z]
        rw [if_neg f230_z]
      subst e234_z e235_z
      rw [es_z]
      dsimp only
      refine ⟨rfl, ?_, ab_Fr_up (by decide) (ab_Fr_up (by decide) (ab_Fr_up (by decide) ab_Fr_refl)), rfl, rfl, rfl, ?_⟩
      · show rt_C T S (x + 1 + 0) _
        rw [Int32.add_zero]
        exact ⟨r1_z, r2_z, rfl, by omega, by omega, r6_z, fun k hk_z => r7_z k hk_z, fun k hk_z => r8_z k hk_z⟩
      · exact (Int32.add_zero _).symm
  have hsw : ∀ m, m < 21 → (m = 0 ∨ m = 1 ∨ m = 3 ∨ m = 5 ∨ m = 18 ∨ m = 19 ∨ m = 20 ∨ (#[184, 166, 202, 175, 202, 193, 202, 202, 202, 202, 202, 202, 202, 202, 202, 202, 202, 202, 97, 157, 134] : Array Int)[m]? = some 202) := by decide
  have wv194_z : ¬ c.toInt = 42 := fun q => v194_z (Int32.toInt_inj.mp (q.trans (by decide)))
  have wv197_z : ¬ c.toInt = 43 := fun q => v197_z (Int32.toInt_inj.mp (q.trans (by decide)))
  have wv200_z : ¬ c.toInt = 45 := fun q => v200_z (Int32.toInt_inj.mp (q.trans (by decide)))
  have wv203_z : ¬ c.toInt = 47 := fun q => v203_z (Int32.toInt_inj.mp (q.trans (by decide)))
  have wv206_z : ¬ c.toInt = 60 := fun q => v206_z (Int32.toInt_inj.mp (q.trans (by decide)))
  have wv223_z : ¬ c.toInt = 61 := fun q => v223_z (Int32.toInt_inj.mp (q.trans (by decide)))
  have wv226_z : ¬ c.toInt = 62 := fun q => v226_z (Int32.toInt_inj.mp (q.trans (by decide)))
  have hx_z : c.toInt < 42 ∨ 62 < c.toInt ∨ (#[184, 166, 202, 175, 202, 193, 202, 202, 202, 202, 202, 202, 202, 202, 202, 202, 202, 202, 97, 157, 134] : Array Int)[(c.toInt - 42).toNat]? = some 202 := by
    by_cases q1_z : c.toInt < 42
    · exact Or.inl q1_z
    · by_cases q2_z : 62 < c.toInt
      · exact Or.inr (Or.inl q2_z)
      · refine Or.inr (Or.inr ?_)
        rcases hsw (c.toInt - 42).toNat (by omega) with qq | qq | qq | qq | qq | qq | qq | qq <;> first | exact qq | (exfalso; omega)
  replace hc_z := rn_swX (a := 63) (am_cur_of (i := (27, 97, .tableswitch 202 42 62 #[184, 166, 202, 175, 202, 193, 202, 202, 202, 202, 202, 202, 202, 202, 202, 202, 202, 202, 97, 157, 134], (0, 0, 0), 0)) (by decide +kernel)) hx_z (by decide +kernel) hc_z
  replace hc_z := rn_aload_n (am_cur_of (i := (229, 1, .aload_n 0, (0, 0, 0), 0)) (by decide +kernel)) g0_z hc_z
  replace hc_z := rn_iload_n (am_cur_of (i := (230, 1, .iload_n 1, (0, 0, 0), 0)) (by decide +kernel)) g1_z hc_z
  replace hc_z := rn_bipush (w := 59) (am_cur_of (i := (231, 2, .bipush 59, (0, 0, 0), 0)) (by decide +kernel)) (by decide) hc_z
  replace hc_z := rn_cmp (am_cur_of (i := (233, 3, .if_icmp .eq 15, (73, 0, 0), 0)) (by decide +kernel)) hc_z
  rcases hc_z with ⟨b236_z, hc_z⟩ | ⟨b236_z, hc_z⟩
  · replace b236_z : c = (59 : Int32) ∧ c.toInt = (59 : Int32).toInt := b236_z
    replace hc_z := rn_iconst (w := 5) (am_cur_of (i := (248, 1, .iconst 5, (0, 0, 0), 0)) (by decide +kernel)) (by decide) hc_z
    replace hc_z := rn_goto (am_cur_of (i := (249, 3, .goto 4, (76, 0, 0), 0)) (by decide +kernel)) hc_z
    replace hc_z := rn_put (am_cur_of (i := (253, 3, .putfield 60, (4, 10, 419), 0)) (by decide +kernel)) (by decide +kernel) hc_z
    replace hc_z := rn_aload_n (am_cur_of (i := (256, 1, .aload_n 0, (0, 0, 0), 0)) (by decide +kernel)) g0_z hc_z
    replace hc_z := rn_iload_n (am_cur_of (i := (257, 1, .iload_n 1, (0, 0, 0), 0)) (by decide +kernel)) g1_z hc_z
    replace hc_z := rn_put (am_cur_of (i := (258, 3, .putfield 91, (4, 11, 420), 0)) (by decide +kernel)) (by decide +kernel) hc_z
    replace hc_z := rn_vret (am_cur_of (i := (261, 1, .return_, (0, 0, 0), 0)) (by decide +kernel)) hc_z
    obtain ⟨e237_z, e238_z⟩ := hc_z
    have es_z : rt_sC c d = (5, c, 0) := by
      unfold rt_sC
      rw [if_neg (by rw [b236_z.1]; decide)]
      rw [if_neg (by rw [b236_z.1]; decide)]
      rw [if_neg (by rw [b236_z.1]; decide)]
      rw [if_neg (by rw [b236_z.1]; decide)]
      rw [if_neg (by rw [b236_z.1]; decide)]
      rw [if_neg (by rw [b236_z.1]; decide)]
      rw [if_neg (by rw [b236_z.1]; decide)]
      rw [if_pos (Or.inl b236_z.1)]
    subst e237_z e238_z
    rw [es_z]
    dsimp only
    refine ⟨rfl, ?_, ab_Fr_up (by decide) (ab_Fr_up (by decide) (ab_Fr_up (by decide) (ab_Fr_up (by decide) ab_Fr_refl))), rfl, rfl, rfl, ?_⟩
    · show rt_C T S (x + 1 + 0) _
      rw [Int32.add_zero]
      exact ⟨r1_z, r2_z, rfl, by omega, by omega, r6_z, fun k hk_z => r7_z k hk_z, fun k hk_z => r8_z k hk_z⟩
    · exact (Int32.add_zero _).symm
  · replace b236_z : ¬ c = (59 : Int32) ∧ ¬ c.toInt = (59 : Int32).toInt := b236_z
    replace hc_z := rn_iload_n (am_cur_of (i := (236, 1, .iload_n 1, (0, 0, 0), 0)) (by decide +kernel)) g1_z hc_z
    replace hc_z := rn_bipush (w := 40) (am_cur_of (i := (237, 2, .bipush 40, (0, 0, 0), 0)) (by decide +kernel)) (by decide) hc_z
    replace hc_z := rn_cmp (am_cur_of (i := (239, 3, .if_icmp .eq 9, (73, 0, 0), 0)) (by decide +kernel)) hc_z
    rcases hc_z with ⟨b239_z, hc_z⟩ | ⟨b239_z, hc_z⟩
    · replace b239_z : c = (40 : Int32) ∧ c.toInt = (40 : Int32).toInt := b239_z
      replace hc_z := rn_iconst (w := 5) (am_cur_of (i := (248, 1, .iconst 5, (0, 0, 0), 0)) (by decide +kernel)) (by decide) hc_z
      replace hc_z := rn_goto (am_cur_of (i := (249, 3, .goto 4, (76, 0, 0), 0)) (by decide +kernel)) hc_z
      replace hc_z := rn_put (am_cur_of (i := (253, 3, .putfield 60, (4, 10, 419), 0)) (by decide +kernel)) (by decide +kernel) hc_z
      replace hc_z := rn_aload_n (am_cur_of (i := (256, 1, .aload_n 0, (0, 0, 0), 0)) (by decide +kernel)) g0_z hc_z
      replace hc_z := rn_iload_n (am_cur_of (i := (257, 1, .iload_n 1, (0, 0, 0), 0)) (by decide +kernel)) g1_z hc_z
      replace hc_z := rn_put (am_cur_of (i := (258, 3, .putfield 91, (4, 11, 420), 0)) (by decide +kernel)) (by decide +kernel) hc_z
      replace hc_z := rn_vret (am_cur_of (i := (261, 1, .return_, (0, 0, 0), 0)) (by decide +kernel)) hc_z
      obtain ⟨e240_z, e241_z⟩ := hc_z
      have es_z : rt_sC c d = (5, c, 0) := by
        unfold rt_sC
        rw [if_neg (by rw [b239_z.1]; decide)]
        rw [if_neg (by rw [b239_z.1]; decide)]
        rw [if_neg (by rw [b239_z.1]; decide)]
        rw [if_neg (by rw [b239_z.1]; decide)]
        rw [if_neg (by rw [b239_z.1]; decide)]
        rw [if_neg (by rw [b239_z.1]; decide)]
        rw [if_neg (by rw [b239_z.1]; decide)]
        rw [if_pos (Or.inr (Or.inl b239_z.1))]
      subst e240_z e241_z
      rw [es_z]
      dsimp only
      refine ⟨rfl, ?_, ab_Fr_up (by decide) (ab_Fr_up (by decide) (ab_Fr_up (by decide) (ab_Fr_up (by decide) ab_Fr_refl))), rfl, rfl, rfl, ?_⟩
      · show rt_C T S (x + 1 + 0) _
        rw [Int32.add_zero]
        exact ⟨r1_z, r2_z, rfl, by omega, by omega, r6_z, fun k hk_z => r7_z k hk_z, fun k hk_z => r8_z k hk_z⟩
      · exact (Int32.add_zero _).symm
    · replace b239_z : ¬ c = (40 : Int32) ∧ ¬ c.toInt = (40 : Int32).toInt := b239_z
      replace hc_z := rn_iload_n (am_cur_of (i := (242, 1, .iload_n 1, (0, 0, 0), 0)) (by decide +kernel)) g1_z hc_z
      replace hc_z := rn_bipush (w := 41) (am_cur_of (i := (243, 2, .bipush 41, (0, 0, 0), 0)) (by decide +kernel)) (by decide) hc_z
      replace hc_z := rn_cmp (am_cur_of (i := (245, 3, .if_icmp .ne 7, (75, 0, 0), 0)) (by decide +kernel)) hc_z
      rcases hc_z with ⟨b242_z, hc_z⟩ | ⟨b242_z, hc_z⟩
      · replace b242_z : ¬ c = (41 : Int32) ∧ ¬ c.toInt = (41 : Int32).toInt := b242_z
        replace hc_z := rn_iconst (w := 1) (am_cur_of (i := (252, 1, .iconst 1, (0, 0, 0), 0)) (by decide +kernel)) (by decide) hc_z
        replace hc_z := rn_put (am_cur_of (i := (253, 3, .putfield 60, (4, 10, 419), 0)) (by decide +kernel)) (by decide +kernel) hc_z
        replace hc_z := rn_aload_n (am_cur_of (i := (256, 1, .aload_n 0, (0, 0, 0), 0)) (by decide +kernel)) g0_z hc_z
        replace hc_z := rn_iload_n (am_cur_of (i := (257, 1, .iload_n 1, (0, 0, 0), 0)) (by decide +kernel)) g1_z hc_z
        replace hc_z := rn_put (am_cur_of (i := (258, 3, .putfield 91, (4, 11, 420), 0)) (by decide +kernel)) (by decide +kernel) hc_z
        replace hc_z := rn_vret (am_cur_of (i := (261, 1, .return_, (0, 0, 0), 0)) (by decide +kernel)) hc_z
        obtain ⟨e243_z, e244_z⟩ := hc_z
        have es_z : rt_sC c d = (1, c, 0) := by
          unfold rt_sC
          rw [if_neg v206_z]
          rw [if_neg v226_z]
          rw [if_neg v223_z]
          rw [if_neg v197_z]
          rw [if_neg v200_z]
          rw [if_neg v194_z]
          rw [if_neg v203_z]
          rw [if_neg (fun q => q.elim b236_z.1 (fun q => q.elim b239_z.1 b242_z.1))]
        subst e243_z e244_z
        rw [es_z]
        dsimp only
        refine ⟨rfl, ?_, ab_Fr_up (by decide) (ab_Fr_up (by decide) (ab_Fr_up (by decide) (ab_Fr_up (by decide) ab_Fr_refl))), rfl, rfl, rfl, ?_⟩
        · show rt_C T S (x + 1 + 0) _
          rw [Int32.add_zero]
          exact ⟨r1_z, r2_z, rfl, by omega, by omega, r6_z, fun k hk_z => r7_z k hk_z, fun k hk_z => r8_z k hk_z⟩
        · exact (Int32.add_zero _).symm
      · replace b242_z : c = (41 : Int32) ∧ c.toInt = (41 : Int32).toInt := b242_z
        replace hc_z := rn_iconst (w := 5) (am_cur_of (i := (248, 1, .iconst 5, (0, 0, 0), 0)) (by decide +kernel)) (by decide) hc_z
        replace hc_z := rn_goto (am_cur_of (i := (249, 3, .goto 4, (76, 0, 0), 0)) (by decide +kernel)) hc_z
        replace hc_z := rn_put (am_cur_of (i := (253, 3, .putfield 60, (4, 10, 419), 0)) (by decide +kernel)) (by decide +kernel) hc_z
        replace hc_z := rn_aload_n (am_cur_of (i := (256, 1, .aload_n 0, (0, 0, 0), 0)) (by decide +kernel)) g0_z hc_z
        replace hc_z := rn_iload_n (am_cur_of (i := (257, 1, .iload_n 1, (0, 0, 0), 0)) (by decide +kernel)) g1_z hc_z
        replace hc_z := rn_put (am_cur_of (i := (258, 3, .putfield 91, (4, 11, 420), 0)) (by decide +kernel)) (by decide +kernel) hc_z
        replace hc_z := rn_vret (am_cur_of (i := (261, 1, .return_, (0, 0, 0), 0)) (by decide +kernel)) hc_z
        obtain ⟨e245_z, e246_z⟩ := hc_z
        have es_z : rt_sC c d = (5, c, 0) := by
          unfold rt_sC
          rw [if_neg (by rw [b242_z.1]; decide)]
          rw [if_neg (by rw [b242_z.1]; decide)]
          rw [if_neg (by rw [b242_z.1]; decide)]
          rw [if_neg (by rw [b242_z.1]; decide)]
          rw [if_neg (by rw [b242_z.1]; decide)]
          rw [if_neg (by rw [b242_z.1]; decide)]
          rw [if_neg (by rw [b242_z.1]; decide)]
          rw [if_pos (Or.inr (Or.inr b242_z.1))]
        subst e245_z e246_z
        rw [es_z]
        dsimp only
        refine ⟨rfl, ?_, ab_Fr_up (by decide) (ab_Fr_up (by decide) (ab_Fr_up (by decide) (ab_Fr_up (by decide) ab_Fr_refl))), rfl, rfl, rfl, ?_⟩
        · show rt_C T S (x + 1 + 0) _
          rw [Int32.add_zero]
          exact ⟨r1_z, r2_z, rfl, by omega, by omega, r6_z, fun k hk_z => r7_z k hk_z, fun k hk_z => r8_z k hk_z⟩
        · exact (Int32.add_zero _).symm
theorem rt_asM {T : Nat → Int32} {S x : Int32} {n : Nat} {h h' : am_H} {r : Option Value} (hC : rt_M T S x h) (hx_z : x.toInt < S.toInt) (hc_z : rn n am_m156 0 (lv_args 0 [.ref 164]) [] h r h') : r = none ∧ rt_M T S (x + 1 + (rt_sM (T x.toNatClampNeg) (rt_nx T S.toNatClampNeg (x.toNatClampNeg + 1))).2.2) h' ∧ ab_Fr rt_mM h h' ∧ rg_v h' 164 10 = rg_v h 164 10 ∧ rg_v h' 164 8 = (rt_sM (T x.toNatClampNeg) (rt_nx T S.toNatClampNeg (x.toNatClampNeg + 1))).1 ∧ rg_v h' 164 9 = (rt_sM (T x.toNatClampNeg) (rt_nx T S.toNatClampNeg (x.toNatClampNeg + 1))).2.1 ∧ rg_v h' 164 7 = x + 1 + (rt_sM (T x.toNatClampNeg) (rt_nx T S.toNatClampNeg (x.toNatClampNeg + 1))).2.2 := by
  have z37_z : (37 : Int32).toInt = 37 := by decide
  have z40_z : (40 : Int32).toInt = 40 := by decide
  have z41_z : (41 : Int32).toInt = 41 := by decide
  have z42_z : (42 : Int32).toInt = 42 := by decide
  have z43_z : (43 : Int32).toInt = 43 := by decide
  have z45_z : (45 : Int32).toInt = 45 := by decide
  have z47_z : (47 : Int32).toInt = 47 := by decide
  have z59_z : (59 : Int32).toInt = 59 := by decide
  have z60_z : (60 : Int32).toInt = 60 := by decide
  have z61_z : (61 : Int32).toInt = 61 := by decide
  have z62_z : (62 : Int32).toInt = 62 := by decide
  have g0_z : am_get (lv_args 0 [.ref 164]) 0 = some (.ref 164) := rfl
  obtain ⟨r2_z, r3_z, r4_z, r5_z, r6_z, r7_z, r8_z⟩ := hC
  have cx_z := rt_cl r4_z
  have cS_z := rt_cl (x := S) (by omega)
  have c1_z := rt_c1 r4_z (by omega)
  have cx1_z := rt_cl (x := x + 1) (by omega)
  obtain ⟨c, ec_z⟩ : ∃ c, T x.toNatClampNeg = c := ⟨_, rfl⟩
  rw [ec_z]
  obtain ⟨d, ed_z⟩ : ∃ d, rt_nx T S.toNatClampNeg (x.toNatClampNeg + 1) = d := ⟨_, rfl⟩
  rw [ed_z]
  replace hc_z := rn_aload_n (am_cur_of (i := (0, 1, .aload_n 0, (0, 0, 0), 0)) (by decide +kernel)) g0_z hc_z
  replace hc_z := rn_aload_n (am_cur_of (i := (1, 1, .aload_n 0, (0, 0, 0), 0)) (by decide +kernel)) g0_z hc_z
  replace hc_z := rn_getR (x := 165) (am_cur_of (i := (2, 3, .getfield 7, (12, 0, 1384), 0)) (by decide +kernel)) (by decide +kernel) hc_z
  replace hc_z := rn_aload_n (am_cur_of (i := (5, 1, .aload_n 0, (0, 0, 0), 0)) (by decide +kernel)) g0_z hc_z
  replace hc_z := rn_getI (v := x) (am_cur_of (i := (6, 3, .getfield 154, (12, 7, 1391), 0)) (by decide +kernel)) (by decide +kernel) r3_z hc_z
  replace hc_z := rn_iaload (N := 700) (q := x.toNatClampNeg) (v := c) (am_cur_of (i := (9, 1, .iaload, (0, 0, 0), 0)) (by decide +kernel)) (by decide +kernel) rfl ((r7_z _ (by omega)).trans ec_z) hc_z
  obtain ⟨p247_z, hc_z⟩ := hc_z
  replace hc_z := rn_put (am_cur_of (i := (10, 3, .putfield 168, (12, 9, 1393), 0)) (by decide +kernel)) (by decide +kernel) hc_z
  replace hc_z := rn_aload_n (am_cur_of (i := (13, 1, .aload_n 0, (0, 0, 0), 0)) (by decide +kernel)) g0_z hc_z
  replace hc_z := rn_dup (am_cur_of (i := (14, 1, .dup, (0, 0, 0), 0)) (by decide +kernel)) hc_z
  replace hc_z := rn_getI (v := x) (am_cur_of (i := (15, 3, .getfield 154, (12, 7, 1391), 0)) (by decide +kernel)) (by decide +kernel) (show rg_v (am_up h 164 9 (.int c)) 164 7 = x from r3_z) hc_z
  replace hc_z := rn_iconst (w := 1) (am_cur_of (i := (18, 1, .iconst 1, (0, 0, 0), 0)) (by decide +kernel)) (by decide) hc_z
  replace hc_z := rn_iadd (w := x + 1) (am_cur_of (i := (19, 1, .iadd, (0, 0, 0), 0)) (by decide +kernel)) rfl hc_z
  replace hc_z := rn_put (am_cur_of (i := (20, 3, .putfield 154, (12, 7, 1391), 0)) (by decide +kernel)) (by decide +kernel) hc_z
  replace hc_z := rn_aload_n (am_cur_of (i := (23, 1, .aload_n 0, (0, 0, 0), 0)) (by decide +kernel)) g0_z hc_z
  replace hc_z := rn_getI (v := c) (am_cur_of (i := (24, 3, .getfield 168, (12, 9, 1393), 0)) (by decide +kernel)) (by decide +kernel) rfl hc_z
  replace hc_z := rn_bipush (w := 60) (am_cur_of (i := (27, 2, .bipush 60, (0, 0, 0), 0)) (by decide +kernel)) (by decide) hc_z
  replace hc_z := rn_cmp (am_cur_of (i := (29, 3, .if_icmp .eq 21, (25, 0, 0), 0)) (by decide +kernel)) hc_z
  rcases hc_z with ⟨b248_z, hc_z⟩ | ⟨b248_z, hc_z⟩
  · replace b248_z : c = (60 : Int32) ∧ c.toInt = (60 : Int32).toInt := b248_z
    replace hc_z := rn_aload_n (am_cur_of (i := (50, 1, .aload_n 0, (0, 0, 0), 0)) (by decide +kernel)) g0_z hc_z
    replace hc_z := rn_getI (v := x + 1) (am_cur_of (i := (51, 3, .getfield 154, (12, 7, 1391), 0)) (by decide +kernel)) (by decide +kernel) rfl hc_z
    replace hc_z := rn_aload_n (am_cur_of (i := (54, 1, .aload_n 0, (0, 0, 0), 0)) (by decide +kernel)) g0_z hc_z
    replace hc_z := rn_getI (v := S) (am_cur_of (i := (55, 3, .getfield 151, (12, 6, 1390), 0)) (by decide +kernel)) (by decide +kernel) (show rg_v (am_up (am_up h 164 9 (.int c)) 164 7 (.int (x + 1))) 164 6 = S from r2_z) hc_z
    replace hc_z := rn_cmp (am_cur_of (i := (58, 3, .if_icmp .ge 15, (36, 0, 0), 0)) (by decide +kernel)) hc_z
    rcases hc_z with ⟨b249_z, hc_z⟩ | ⟨b249_z, hc_z⟩
    · replace b249_z : S.toInt ≤ (x + 1).toInt := b249_z
      replace hc_z := rn_iconst (w := 0) (am_cur_of (i := (73, 1, .iconst 0, (0, 0, 0), 0)) (by decide +kernel)) (by decide) hc_z
      replace hc_z := rn_istore_n (am_cur_of (i := (74, 1, .istore_n 1, (0, 0, 0), 0)) (by decide +kernel)) hc_z
      obtain ⟨_, s250_z, s251_z, g1_z, hc_z⟩ := hc_z
      replace g0_z := s250_z 0 _ (by decide) rfl g0_z
      clear s250_z s251_z
      replace hc_z := rn_aload_n (am_cur_of (i := (75, 1, .aload_n 0, (0, 0, 0), 0)) (by decide +kernel)) g0_z hc_z
      replace hc_z := rn_getI (v := c) (am_cur_of (i := (76, 3, .getfield 168, (12, 9, 1393), 0)) (by decide +kernel)) (by decide +kernel) rfl hc_z
      replace hc_z := rn_bipush (w := 61) (am_cur_of (i := (79, 2, .bipush 61, (0, 0, 0), 0)) (by decide +kernel)) (by decide) hc_z
      replace hc_z := rn_cmp (am_cur_of (i := (81, 3, .if_icmp .eq 13, (47, 0, 0), 0)) (by decide +kernel)) hc_z
      rcases hc_z with ⟨b252_z, hc_z⟩ | ⟨b252_z, hc_z⟩
      · replace b252_z : c = (61 : Int32) ∧ c.toInt = (61 : Int32).toInt := b252_z
        exact absurd (b248_z.1.symm.trans b252_z.1) (by decide)
      · replace b252_z : ¬ c = (61 : Int32) ∧ ¬ c.toInt = (61 : Int32).toInt := b252_z
        replace hc_z := rn_iload_n (am_cur_of (i := (84, 1, .iload_n 1, (0, 0, 0), 0)) (by decide +kernel)) g1_z hc_z
        replace hc_z := rn_bipush (w := 61) (am_cur_of (i := (85, 2, .bipush 61, (0, 0, 0), 0)) (by decide +kernel)) (by decide) hc_z
        replace hc_z := rn_cmpT (am_cur_of (i := (87, 3, .if_icmp .ne 7, (47, 0, 0), 0)) (by decide +kernel)) (by decide) hc_z
        replace hc_z := rn_iconst (w := 0) (am_cur_of (i := (94, 1, .iconst 0, (0, 0, 0), 0)) (by decide +kernel)) (by decide) hc_z
        replace hc_z := rn_istore_n (am_cur_of (i := (95, 1, .istore_n 2, (0, 0, 0), 0)) (by decide +kernel)) hc_z
        obtain ⟨_, s253_z, s254_z, g2_z, hc_z⟩ := hc_z
        replace g0_z := s253_z 0 _ (by decide) rfl g0_z
        replace g1_z := s253_z 1 _ (by decide) rfl g1_z
        clear s253_z s254_z
        replace hc_z := rn_aload_n (am_cur_of (i := (96, 1, .aload_n 0, (0, 0, 0), 0)) (by decide +kernel)) g0_z hc_z
        replace hc_z := rn_getI (v := c) (am_cur_of (i := (97, 3, .getfield 168, (12, 9, 1393), 0)) (by decide +kernel)) (by decide +kernel) rfl hc_z
        replace hc_z := rn_bipush (w := 60) (am_cur_of (i := (100, 2, .bipush 60, (0, 0, 0), 0)) (by decide +kernel)) (by decide) hc_z
        replace hc_z := rn_cmp (am_cur_of (i := (102, 3, .if_icmp .ne 13, (58, 0, 0), 0)) (by decide +kernel)) hc_z
        rcases hc_z with ⟨b255_z, hc_z⟩ | ⟨b255_z, hc_z⟩
        · replace b255_z : ¬ c = (60 : Int32) ∧ ¬ c.toInt = (60 : Int32).toInt := b255_z
          exact absurd b248_z.1 b255_z.1
        · replace b255_z : c = (60 : Int32) ∧ c.toInt = (60 : Int32).toInt := b255_z
          replace hc_z := rn_iload_n (am_cur_of (i := (105, 1, .iload_n 1, (0, 0, 0), 0)) (by decide +kernel)) g1_z hc_z
          replace hc_z := rn_bipush (w := 62) (am_cur_of (i := (106, 2, .bipush 62, (0, 0, 0), 0)) (by decide +kernel)) (by decide) hc_z
          replace hc_z := rn_cmpT (am_cur_of (i := (108, 3, .if_icmp .ne 7, (58, 0, 0), 0)) (by decide +kernel)) (by decide) hc_z
          replace hc_z := rn_iconst (w := 0) (am_cur_of (i := (115, 1, .iconst 0, (0, 0, 0), 0)) (by decide +kernel)) (by decide) hc_z
          replace hc_z := rn_istore_n (am_cur_of (i := (116, 1, .istore_n 3, (0, 0, 0), 0)) (by decide +kernel)) hc_z
          obtain ⟨_, s256_z, s257_z, g3_z, hc_z⟩ := hc_z
          replace g0_z := s256_z 0 _ (by decide) rfl g0_z
          replace g1_z := s256_z 1 _ (by decide) rfl g1_z
          replace g2_z := s256_z 2 _ (by decide) rfl g2_z
          clear s256_z s257_z
          replace hc_z := rn_iload_n (am_cur_of (i := (117, 1, .iload_n 2, (0, 0, 0), 0)) (by decide +kernel)) g2_z hc_z
          replace hc_z := rn_ifF (am_cur_of (i := (118, 3, .ifCond .ne 7, (64, 0, 0), 0)) (by decide +kernel)) (by decide) hc_z
          replace hc_z := rn_iload_n (am_cur_of (i := (121, 1, .iload_n 3, (0, 0, 0), 0)) (by decide +kernel)) g3_z hc_z
          replace hc_z := rn_ifT (am_cur_of (i := (122, 3, .ifCond .eq 13, (70, 0, 0), 0)) (by decide +kernel)) (by decide) hc_z
          replace hc_z := rn_aload_n (am_cur_of (i := (135, 1, .aload_n 0, (0, 0, 0), 0)) (by decide +kernel)) g0_z hc_z
          replace hc_z := rn_iconst (w := 5) (am_cur_of (i := (136, 1, .iconst 5, (0, 0, 0), 0)) (by decide +kernel)) (by decide) hc_z
          replace hc_z := rn_put (am_cur_of (i := (137, 3, .putfield 157, (12, 8, 1392), 0)) (by decide +kernel)) (by decide +kernel) hc_z
          replace hc_z := rn_aload_n (am_cur_of (i := (140, 1, .aload_n 0, (0, 0, 0), 0)) (by decide +kernel)) g0_z hc_z
          replace hc_z := rn_aload_n (am_cur_of (i := (141, 1, .aload_n 0, (0, 0, 0), 0)) (by decide +kernel)) g0_z hc_z
          replace hc_z := rn_getI (v := c) (am_cur_of (i := (142, 3, .getfield 168, (12, 9, 1393), 0)) (by decide +kernel)) (by decide +kernel) rfl hc_z
          replace hc_z := rn_bipush (w := 61) (am_cur_of (i := (145, 2, .bipush 61, (0, 0, 0), 0)) (by decide +kernel)) (by decide) hc_z
          replace hc_z := rn_cmp (am_cur_of (i := (147, 3, .if_icmp .ne 7, (80, 0, 0), 0)) (by decide +kernel)) hc_z
          rcases hc_z with ⟨b258_z, hc_z⟩ | ⟨b258_z, hc_z⟩
          · replace b258_z : ¬ c = (61 : Int32) ∧ ¬ c.toInt = (61 : Int32).toInt := b258_z
            replace hc_z := rn_aload_n (am_cur_of (i := (154, 1, .aload_n 0, (0, 0, 0), 0)) (by decide +kernel)) g0_z hc_z
            replace hc_z := rn_getI (v := c) (am_cur_of (i := (155, 3, .getfield 168, (12, 9, 1393), 0)) (by decide +kernel)) (by decide +kernel) rfl hc_z
            replace hc_z := rn_bipush (w := 60) (am_cur_of (i := (158, 2, .bipush 60, (0, 0, 0), 0)) (by decide +kernel)) (by decide) hc_z
            replace hc_z := rn_cmp (am_cur_of (i := (160, 3, .if_icmp .ne 23, (94, 0, 0), 0)) (by decide +kernel)) hc_z
            rcases hc_z with ⟨b259_z, hc_z⟩ | ⟨b259_z, hc_z⟩
            · replace b259_z : ¬ c = (60 : Int32) ∧ ¬ c.toInt = (60 : Int32).toInt := b259_z
              exact absurd b248_z.1 b259_z.1
            · replace b259_z : c = (60 : Int32) ∧ c.toInt = (60 : Int32).toInt := b259_z
              replace hc_z := rn_iload_n (am_cur_of (i := (163, 1, .iload_n 2, (0, 0, 0), 0)) (by decide +kernel)) g2_z hc_z
              replace hc_z := rn_ifT (am_cur_of (i := (164, 3, .ifCond .eq 7, (88, 0, 0), 0)) (by decide +kernel)) (by decide) hc_z
              replace hc_z := rn_iload_n (am_cur_of (i := (171, 1, .iload_n 3, (0, 0, 0), 0)) (by decide +kernel)) g3_z hc_z
              replace hc_z := rn_ifT (am_cur_of (i := (172, 3, .ifCond .eq 7, (92, 0, 0), 0)) (by decide +kernel)) (by decide) hc_z
              replace hc_z := rn_iconst (w := 0) (am_cur_of (i := (179, 1, .iconst 0, (0, 0, 0), 0)) (by decide +kernel)) (by decide) hc_z
              replace hc_z := rn_goto (am_cur_of (i := (180, 3, .goto 12, (99, 0, 0), 0)) (by decide +kernel)) hc_z
              replace hc_z := rn_put (am_cur_of (i := (192, 3, .putfield 168, (12, 9, 1393), 0)) (by decide +kernel)) (by decide +kernel) hc_z
              replace hc_z := rn_goto (am_cur_of (i := (195, 3, .goto 95, (144, 0, 0), 0)) (by decide +kernel)) hc_z
              replace hc_z := rn_vret (am_cur_of (i := (290, 1, .return_, (0, 0, 0), 0)) (by decide +kernel)) hc_z
              obtain ⟨e260_z, e261_z⟩ := hc_z
              have d0_z : d = 0 := by rw [← ed_z]; exact rt_nx_out (by omega)
              have es_z : rt_sM c d = (5, 0, 0) := by
                unfold rt_sM
                rw [if_pos b259_z.1]
                rw [if_neg (by rw [d0_z]; decide)]
                rw [if_neg (by rw [d0_z]; decide)]
              subst e260_z e261_z
              rw [es_z]
              dsimp only
              refine ⟨rfl, ?_, ab_Fr_up (by decide) (ab_Fr_up (by decide) (ab_Fr_up (by decide) (ab_Fr_up (by decide) ab_Fr_refl))), rfl, rfl, rfl, ?_⟩
              · show rt_M T S (x + 1 + 0) _
                rw [Int32.add_zero]
                exact ⟨r2_z, rfl, by omega, by omega, r6_z, fun k hk_z => r7_z k hk_z, fun k hk_z => r8_z k hk_z⟩
              · exact (Int32.add_zero _).symm
          · replace b258_z : c = (61 : Int32) ∧ c.toInt = (61 : Int32).toInt := b258_z
            exact absurd (b248_z.1.symm.trans b258_z.1) (by decide)
    · replace b249_z : (x + 1).toInt < S.toInt := b249_z
      replace hc_z := rn_aload_n (am_cur_of (i := (61, 1, .aload_n 0, (0, 0, 0), 0)) (by decide +kernel)) g0_z hc_z
      replace hc_z := rn_getR (x := 165) (am_cur_of (i := (62, 3, .getfield 7, (12, 0, 1384), 0)) (by decide +kernel)) (by decide +kernel) hc_z
      replace hc_z := rn_aload_n (am_cur_of (i := (65, 1, .aload_n 0, (0, 0, 0), 0)) (by decide +kernel)) g0_z hc_z
      replace hc_z := rn_getI (v := x + 1) (am_cur_of (i := (66, 3, .getfield 154, (12, 7, 1391), 0)) (by decide +kernel)) (by decide +kernel) rfl hc_z
      replace hc_z := rn_iaload (N := 700) (q := (x + 1).toNatClampNeg) (v := d) (am_cur_of (i := (69, 1, .iaload, (0, 0, 0), 0)) (by decide +kernel)) (by decide +kernel) rfl (show rg_v (am_up (am_up h 164 9 (.int c)) 164 7 (.int (x + 1))) 165 ((x + 1).toNatClampNeg) = d from (by rw [← ed_z, rt_nx_in (by omega), show x.toNatClampNeg + 1 = (x + 1).toNatClampNeg by omega]; exact r7_z _ (by omega))) hc_z
      obtain ⟨p262_z, hc_z⟩ := hc_z
      replace hc_z := rn_goto (am_cur_of (i := (70, 3, .goto 4, (37, 0, 0), 0)) (by decide +kernel)) hc_z
      replace hc_z := rn_istore_n (am_cur_of (i := (74, 1, .istore_n 1, (0, 0, 0), 0)) (by decide +kernel)) hc_z
      obtain ⟨_, s263_z, s264_z, g1_z, hc_z⟩ := hc_z
      replace g0_z := s263_z 0 _ (by decide) rfl g0_z
      clear s263_z s264_z
      replace hc_z := rn_aload_n (am_cur_of (i := (75, 1, .aload_n 0, (0, 0, 0), 0)) (by decide +kernel)) g0_z hc_z
      replace hc_z := rn_getI (v := c) (am_cur_of (i := (76, 3, .getfield 168, (12, 9, 1393), 0)) (by decide +kernel)) (by decide +kernel) rfl hc_z
      replace hc_z := rn_bipush (w := 61) (am_cur_of (i := (79, 2, .bipush 61, (0, 0, 0), 0)) (by decide +kernel)) (by decide) hc_z
      replace hc_z := rn_cmp (am_cur_of (i := (81, 3, .if_icmp .eq 13, (47, 0, 0), 0)) (by decide +kernel)) hc_z
      rcases hc_z with ⟨b265_z, hc_z⟩ | ⟨b265_z, hc_z⟩
      · replace b265_z : c = (61 : Int32) ∧ c.toInt = (61 : Int32).toInt := b265_z
        exact absurd (b248_z.1.symm.trans b265_z.1) (by decide)
      · replace b265_z : ¬ c = (61 : Int32) ∧ ¬ c.toInt = (61 : Int32).toInt := b265_z
        replace hc_z := rn_iload_n (am_cur_of (i := (84, 1, .iload_n 1, (0, 0, 0), 0)) (by decide +kernel)) g1_z hc_z
        replace hc_z := rn_bipush (w := 61) (am_cur_of (i := (85, 2, .bipush 61, (0, 0, 0), 0)) (by decide +kernel)) (by decide) hc_z
        replace hc_z := rn_cmp (am_cur_of (i := (87, 3, .if_icmp .ne 7, (47, 0, 0), 0)) (by decide +kernel)) hc_z
        rcases hc_z with ⟨b266_z, hc_z⟩ | ⟨b266_z, hc_z⟩
        · replace b266_z : ¬ d = (61 : Int32) ∧ ¬ d.toInt = (61 : Int32).toInt := b266_z
          replace hc_z := rn_iconst (w := 0) (am_cur_of (i := (94, 1, .iconst 0, (0, 0, 0), 0)) (by decide +kernel)) (by decide) hc_z
          replace hc_z := rn_istore_n (am_cur_of (i := (95, 1, .istore_n 2, (0, 0, 0), 0)) (by decide +kernel)) hc_z
          obtain ⟨_, s267_z, s268_z, g2_z, hc_z⟩ := hc_z
          replace g0_z := s267_z 0 _ (by decide) rfl g0_z
          replace g1_z := s267_z 1 _ (by decide) rfl g1_z
          clear s267_z s268_z
          replace hc_z := rn_aload_n (am_cur_of (i := (96, 1, .aload_n 0, (0, 0, 0), 0)) (by decide +kernel)) g0_z hc_z
          replace hc_z := rn_getI (v := c) (am_cur_of (i := (97, 3, .getfield 168, (12, 9, 1393), 0)) (by decide +kernel)) (by decide +kernel) rfl hc_z
          replace hc_z := rn_bipush (w := 60) (am_cur_of (i := (100, 2, .bipush 60, (0, 0, 0), 0)) (by decide +kernel)) (by decide) hc_z
          replace hc_z := rn_cmp (am_cur_of (i := (102, 3, .if_icmp .ne 13, (58, 0, 0), 0)) (by decide +kernel)) hc_z
          rcases hc_z with ⟨b269_z, hc_z⟩ | ⟨b269_z, hc_z⟩
          · replace b269_z : ¬ c = (60 : Int32) ∧ ¬ c.toInt = (60 : Int32).toInt := b269_z
            exact absurd b248_z.1 b269_z.1
          · replace b269_z : c = (60 : Int32) ∧ c.toInt = (60 : Int32).toInt := b269_z
            replace hc_z := rn_iload_n (am_cur_of (i := (105, 1, .iload_n 1, (0, 0, 0), 0)) (by decide +kernel)) g1_z hc_z
            replace hc_z := rn_bipush (w := 62) (am_cur_of (i := (106, 2, .bipush 62, (0, 0, 0), 0)) (by decide +kernel)) (by decide) hc_z
            replace hc_z := rn_cmp (am_cur_of (i := (108, 3, .if_icmp .ne 7, (58, 0, 0), 0)) (by decide +kernel)) hc_z
            rcases hc_z with ⟨b270_z, hc_z⟩ | ⟨b270_z, hc_z⟩
            · replace b270_z : ¬ d = (62 : Int32) ∧ ¬ d.toInt = (62 : Int32).toInt := b270_z
              replace hc_z := rn_iconst (w := 0) (am_cur_of (i := (115, 1, .iconst 0, (0, 0, 0), 0)) (by decide +kernel)) (by decide) hc_z
              replace hc_z := rn_istore_n (am_cur_of (i := (116, 1, .istore_n 3, (0, 0, 0), 0)) (by decide +kernel)) hc_z
              obtain ⟨_, s271_z, s272_z, g3_z, hc_z⟩ := hc_z
              replace g0_z := s271_z 0 _ (by decide) rfl g0_z
              replace g1_z := s271_z 1 _ (by decide) rfl g1_z
              replace g2_z := s271_z 2 _ (by decide) rfl g2_z
              clear s271_z s272_z
              replace hc_z := rn_iload_n (am_cur_of (i := (117, 1, .iload_n 2, (0, 0, 0), 0)) (by decide +kernel)) g2_z hc_z
              replace hc_z := rn_ifF (am_cur_of (i := (118, 3, .ifCond .ne 7, (64, 0, 0), 0)) (by decide +kernel)) (by decide) hc_z
              replace hc_z := rn_iload_n (am_cur_of (i := (121, 1, .iload_n 3, (0, 0, 0), 0)) (by decide +kernel)) g3_z hc_z
              replace hc_z := rn_ifT (am_cur_of (i := (122, 3, .ifCond .eq 13, (70, 0, 0), 0)) (by decide +kernel)) (by decide) hc_z
              replace hc_z := rn_aload_n (am_cur_of (i := (135, 1, .aload_n 0, (0, 0, 0), 0)) (by decide +kernel)) g0_z hc_z
              replace hc_z := rn_iconst (w := 5) (am_cur_of (i := (136, 1, .iconst 5, (0, 0, 0), 0)) (by decide +kernel)) (by decide) hc_z
              replace hc_z := rn_put (am_cur_of (i := (137, 3, .putfield 157, (12, 8, 1392), 0)) (by decide +kernel)) (by decide +kernel) hc_z
              replace hc_z := rn_aload_n (am_cur_of (i := (140, 1, .aload_n 0, (0, 0, 0), 0)) (by decide +kernel)) g0_z hc_z
              replace hc_z := rn_aload_n (am_cur_of (i := (141, 1, .aload_n 0, (0, 0, 0), 0)) (by decide +kernel)) g0_z hc_z
              replace hc_z := rn_getI (v := c) (am_cur_of (i := (142, 3, .getfield 168, (12, 9, 1393), 0)) (by decide +kernel)) (by decide +kernel) rfl hc_z
              replace hc_z := rn_bipush (w := 61) (am_cur_of (i := (145, 2, .bipush 61, (0, 0, 0), 0)) (by decide +kernel)) (by decide) hc_z
              replace hc_z := rn_cmp (am_cur_of (i := (147, 3, .if_icmp .ne 7, (80, 0, 0), 0)) (by decide +kernel)) hc_z
              rcases hc_z with ⟨b273_z, hc_z⟩ | ⟨b273_z, hc_z⟩
              · replace b273_z : ¬ c = (61 : Int32) ∧ ¬ c.toInt = (61 : Int32).toInt := b273_z
                replace hc_z := rn_aload_n (am_cur_of (i := (154, 1, .aload_n 0, (0, 0, 0), 0)) (by decide +kernel)) g0_z hc_z
                replace hc_z := rn_getI (v := c) (am_cur_of (i := (155, 3, .getfield 168, (12, 9, 1393), 0)) (by decide +kernel)) (by decide +kernel) rfl hc_z
                replace hc_z := rn_bipush (w := 60) (am_cur_of (i := (158, 2, .bipush 60, (0, 0, 0), 0)) (by decide +kernel)) (by decide) hc_z
                replace hc_z := rn_cmp (am_cur_of (i := (160, 3, .if_icmp .ne 23, (94, 0, 0), 0)) (by decide +kernel)) hc_z
                rcases hc_z with ⟨b274_z, hc_z⟩ | ⟨b274_z, hc_z⟩
                · replace b274_z : ¬ c = (60 : Int32) ∧ ¬ c.toInt = (60 : Int32).toInt := b274_z
                  exact absurd b248_z.1 b274_z.1
                · replace b274_z : c = (60 : Int32) ∧ c.toInt = (60 : Int32).toInt := b274_z
                  replace hc_z := rn_iload_n (am_cur_of (i := (163, 1, .iload_n 2, (0, 0, 0), 0)) (by decide +kernel)) g2_z hc_z
                  replace hc_z := rn_ifT (am_cur_of (i := (164, 3, .ifCond .eq 7, (88, 0, 0), 0)) (by decide +kernel)) (by decide) hc_z
                  replace hc_z := rn_iload_n (am_cur_of (i := (171, 1, .iload_n 3, (0, 0, 0), 0)) (by decide +kernel)) g3_z hc_z
                  replace hc_z := rn_ifT (am_cur_of (i := (172, 3, .ifCond .eq 7, (92, 0, 0), 0)) (by decide +kernel)) (by decide) hc_z
                  replace hc_z := rn_iconst (w := 0) (am_cur_of (i := (179, 1, .iconst 0, (0, 0, 0), 0)) (by decide +kernel)) (by decide) hc_z
                  replace hc_z := rn_goto (am_cur_of (i := (180, 3, .goto 12, (99, 0, 0), 0)) (by decide +kernel)) hc_z
                  replace hc_z := rn_put (am_cur_of (i := (192, 3, .putfield 168, (12, 9, 1393), 0)) (by decide +kernel)) (by decide +kernel) hc_z
                  replace hc_z := rn_goto (am_cur_of (i := (195, 3, .goto 95, (144, 0, 0), 0)) (by decide +kernel)) hc_z
                  replace hc_z := rn_vret (am_cur_of (i := (290, 1, .return_, (0, 0, 0), 0)) (by decide +kernel)) hc_z
                  obtain ⟨e275_z, e276_z⟩ := hc_z
                  have es_z : rt_sM c d = (5, 0, 0) := by
                    unfold rt_sM
                    rw [if_pos b274_z.1]
                    rw [if_neg b266_z.1]
                    rw [if_neg b270_z.1]
                  subst e275_z e276_z
                  rw [es_z]
                  dsimp only
                  refine ⟨rfl, ?_, ab_Fr_up (by decide) (ab_Fr_up (by decide) (ab_Fr_up (by decide) (ab_Fr_up (by decide) ab_Fr_refl))), rfl, rfl, rfl, ?_⟩
                  · show rt_M T S (x + 1 + 0) _
                    rw [Int32.add_zero]
                    exact ⟨r2_z, rfl, by omega, by omega, r6_z, fun k hk_z => r7_z k hk_z, fun k hk_z => r8_z k hk_z⟩
                  · exact (Int32.add_zero _).symm
              · replace b273_z : c = (61 : Int32) ∧ c.toInt = (61 : Int32).toInt := b273_z
                exact absurd (b248_z.1.symm.trans b273_z.1) (by decide)
            · replace b270_z : d = (62 : Int32) ∧ d.toInt = (62 : Int32).toInt := b270_z
              replace hc_z := rn_iconst (w := 1) (am_cur_of (i := (111, 1, .iconst 1, (0, 0, 0), 0)) (by decide +kernel)) (by decide) hc_z
              replace hc_z := rn_goto (am_cur_of (i := (112, 3, .goto 4, (59, 0, 0), 0)) (by decide +kernel)) hc_z
              replace hc_z := rn_istore_n (am_cur_of (i := (116, 1, .istore_n 3, (0, 0, 0), 0)) (by decide +kernel)) hc_z
              obtain ⟨_, s277_z, s278_z, g3_z, hc_z⟩ := hc_z
              replace g0_z := s277_z 0 _ (by decide) rfl g0_z
              replace g1_z := s277_z 1 _ (by decide) rfl g1_z
              replace g2_z := s277_z 2 _ (by decide) rfl g2_z
              clear s277_z s278_z
              replace hc_z := rn_iload_n (am_cur_of (i := (117, 1, .iload_n 2, (0, 0, 0), 0)) (by decide +kernel)) g2_z hc_z
              replace hc_z := rn_ifF (am_cur_of (i := (118, 3, .ifCond .ne 7, (64, 0, 0), 0)) (by decide +kernel)) (by decide) hc_z
              replace hc_z := rn_iload_n (am_cur_of (i := (121, 1, .iload_n 3, (0, 0, 0), 0)) (by decide +kernel)) g3_z hc_z
              replace hc_z := rn_ifF (am_cur_of (i := (122, 3, .ifCond .eq 13, (70, 0, 0), 0)) (by decide +kernel)) (by decide) hc_z
              replace hc_z := rn_aload_n (am_cur_of (i := (125, 1, .aload_n 0, (0, 0, 0), 0)) (by decide +kernel)) g0_z hc_z
              replace hc_z := rn_dup (am_cur_of (i := (126, 1, .dup, (0, 0, 0), 0)) (by decide +kernel)) hc_z
              replace hc_z := rn_getI (v := x + 1) (am_cur_of (i := (127, 3, .getfield 154, (12, 7, 1391), 0)) (by decide +kernel)) (by decide +kernel) rfl hc_z
              replace hc_z := rn_iconst (w := 1) (am_cur_of (i := (130, 1, .iconst 1, (0, 0, 0), 0)) (by decide +kernel)) (by decide) hc_z
              replace hc_z := rn_iadd (w := (x + 1) + 1) (am_cur_of (i := (131, 1, .iadd, (0, 0, 0), 0)) (by decide +kernel)) rfl hc_z
              replace hc_z := rn_put (am_cur_of (i := (132, 3, .putfield 154, (12, 7, 1391), 0)) (by decide +kernel)) (by decide +kernel) hc_z
              replace hc_z := rn_aload_n (am_cur_of (i := (135, 1, .aload_n 0, (0, 0, 0), 0)) (by decide +kernel)) g0_z hc_z
              replace hc_z := rn_iconst (w := 5) (am_cur_of (i := (136, 1, .iconst 5, (0, 0, 0), 0)) (by decide +kernel)) (by decide) hc_z
              replace hc_z := rn_put (am_cur_of (i := (137, 3, .putfield 157, (12, 8, 1392), 0)) (by decide +kernel)) (by decide +kernel) hc_z
              replace hc_z := rn_aload_n (am_cur_of (i := (140, 1, .aload_n 0, (0, 0, 0), 0)) (by decide +kernel)) g0_z hc_z
              replace hc_z := rn_aload_n (am_cur_of (i := (141, 1, .aload_n 0, (0, 0, 0), 0)) (by decide +kernel)) g0_z hc_z
              replace hc_z := rn_getI (v := c) (am_cur_of (i := (142, 3, .getfield 168, (12, 9, 1393), 0)) (by decide +kernel)) (by decide +kernel) rfl hc_z
              replace hc_z := rn_bipush (w := 61) (am_cur_of (i := (145, 2, .bipush 61, (0, 0, 0), 0)) (by decide +kernel)) (by decide) hc_z
              replace hc_z := rn_cmp (am_cur_of (i := (147, 3, .if_icmp .ne 7, (80, 0, 0), 0)) (by decide +kernel)) hc_z
              rcases hc_z with ⟨b279_z, hc_z⟩ | ⟨b279_z, hc_z⟩
              · replace b279_z : ¬ c = (61 : Int32) ∧ ¬ c.toInt = (61 : Int32).toInt := b279_z
                replace hc_z := rn_aload_n (am_cur_of (i := (154, 1, .aload_n 0, (0, 0, 0), 0)) (by decide +kernel)) g0_z hc_z
                replace hc_z := rn_getI (v := c) (am_cur_of (i := (155, 3, .getfield 168, (12, 9, 1393), 0)) (by decide +kernel)) (by decide +kernel) rfl hc_z
                replace hc_z := rn_bipush (w := 60) (am_cur_of (i := (158, 2, .bipush 60, (0, 0, 0), 0)) (by decide +kernel)) (by decide) hc_z
                replace hc_z := rn_cmp (am_cur_of (i := (160, 3, .if_icmp .ne 23, (94, 0, 0), 0)) (by decide +kernel)) hc_z
                rcases hc_z with ⟨b280_z, hc_z⟩ | ⟨b280_z, hc_z⟩
                · replace b280_z : ¬ c = (60 : Int32) ∧ ¬ c.toInt = (60 : Int32).toInt := b280_z
                  exact absurd b248_z.1 b280_z.1
                · replace b280_z : c = (60 : Int32) ∧ c.toInt = (60 : Int32).toInt := b280_z
                  replace hc_z := rn_iload_n (am_cur_of (i := (163, 1, .iload_n 2, (0, 0, 0), 0)) (by decide +kernel)) g2_z hc_z
                  replace hc_z := rn_ifT (am_cur_of (i := (164, 3, .ifCond .eq 7, (88, 0, 0), 0)) (by decide +kernel)) (by decide) hc_z
                  replace hc_z := rn_iload_n (am_cur_of (i := (171, 1, .iload_n 3, (0, 0, 0), 0)) (by decide +kernel)) g3_z hc_z
                  replace hc_z := rn_ifF (am_cur_of (i := (172, 3, .ifCond .eq 7, (92, 0, 0), 0)) (by decide +kernel)) (by decide) hc_z
                  replace hc_z := rn_iconst (w := 3) (am_cur_of (i := (175, 1, .iconst 3, (0, 0, 0), 0)) (by decide +kernel)) (by decide) hc_z
                  replace hc_z := rn_goto (am_cur_of (i := (176, 3, .goto 16, (99, 0, 0), 0)) (by decide +kernel)) hc_z
                  replace hc_z := rn_put (am_cur_of (i := (192, 3, .putfield 168, (12, 9, 1393), 0)) (by decide +kernel)) (by decide +kernel) hc_z
                  replace hc_z := rn_goto (am_cur_of (i := (195, 3, .goto 95, (144, 0, 0), 0)) (by decide +kernel)) hc_z
                  replace hc_z := rn_vret (am_cur_of (i := (290, 1, .return_, (0, 0, 0), 0)) (by decide +kernel)) hc_z
                  obtain ⟨e281_z, e282_z⟩ := hc_z
                  have es_z : rt_sM c d = (5, 3, 1) := by
                    unfold rt_sM
                    rw [if_pos b280_z.1]
                    rw [if_neg (by rw [b270_z.1]; decide)]
                    rw [if_pos b270_z.1]
                  subst e281_z e282_z
                  rw [es_z]
                  dsimp only
                  have e3_z := rt_c1 (x := x + 1) (by omega) (by omega)
                  refine ⟨rfl, ⟨r2_z, rfl, by omega, by omega, r6_z, fun k hk_z => r7_z k hk_z, fun k hk_z => r8_z k hk_z⟩, ab_Fr_up (by decide) (ab_Fr_up (by decide) (ab_Fr_up (by decide) (ab_Fr_up (by decide) (ab_Fr_up (by decide) ab_Fr_refl)))), rfl, rfl, rfl, rfl⟩
              · replace b279_z : c = (61 : Int32) ∧ c.toInt = (61 : Int32).toInt := b279_z
                exact absurd (b248_z.1.symm.trans b279_z.1) (by decide)
        · replace b266_z : d = (61 : Int32) ∧ d.toInt = (61 : Int32).toInt := b266_z
          replace hc_z := rn_iconst (w := 1) (am_cur_of (i := (90, 1, .iconst 1, (0, 0, 0), 0)) (by decide +kernel)) (by decide) hc_z
          replace hc_z := rn_goto (am_cur_of (i := (91, 3, .goto 4, (48, 0, 0), 0)) (by decide +kernel)) hc_z
          replace hc_z := rn_istore_n (am_cur_of (i := (95, 1, .istore_n 2, (0, 0, 0), 0)) (by decide +kernel)) hc_z
          obtain ⟨_, s283_z, s284_z, g2_z, hc_z⟩ := hc_z
          replace g0_z := s283_z 0 _ (by decide) rfl g0_z
          replace g1_z := s283_z 1 _ (by decide) rfl g1_z
          clear s283_z s284_z
          replace hc_z := rn_aload_n (am_cur_of (i := (96, 1, .aload_n 0, (0, 0, 0), 0)) (by decide +kernel)) g0_z hc_z
          replace hc_z := rn_getI (v := c) (am_cur_of (i := (97, 3, .getfield 168, (12, 9, 1393), 0)) (by decide +kernel)) (by decide +kernel) rfl hc_z
          replace hc_z := rn_bipush (w := 60) (am_cur_of (i := (100, 2, .bipush 60, (0, 0, 0), 0)) (by decide +kernel)) (by decide) hc_z
          replace hc_z := rn_cmp (am_cur_of (i := (102, 3, .if_icmp .ne 13, (58, 0, 0), 0)) (by decide +kernel)) hc_z
          rcases hc_z with ⟨b285_z, hc_z⟩ | ⟨b285_z, hc_z⟩
          · replace b285_z : ¬ c = (60 : Int32) ∧ ¬ c.toInt = (60 : Int32).toInt := b285_z
            exact absurd b248_z.1 b285_z.1
          · replace b285_z : c = (60 : Int32) ∧ c.toInt = (60 : Int32).toInt := b285_z
            replace hc_z := rn_iload_n (am_cur_of (i := (105, 1, .iload_n 1, (0, 0, 0), 0)) (by decide +kernel)) g1_z hc_z
            replace hc_z := rn_bipush (w := 62) (am_cur_of (i := (106, 2, .bipush 62, (0, 0, 0), 0)) (by decide +kernel)) (by decide) hc_z
            replace hc_z := rn_cmp (am_cur_of (i := (108, 3, .if_icmp .ne 7, (58, 0, 0), 0)) (by decide +kernel)) hc_z
            rcases hc_z with ⟨b286_z, hc_z⟩ | ⟨b286_z, hc_z⟩
            · replace b286_z : ¬ d = (62 : Int32) ∧ ¬ d.toInt = (62 : Int32).toInt := b286_z
              replace hc_z := rn_iconst (w := 0) (am_cur_of (i := (115, 1, .iconst 0, (0, 0, 0), 0)) (by decide +kernel)) (by decide) hc_z
              replace hc_z := rn_istore_n (am_cur_of (i := (116, 1, .istore_n 3, (0, 0, 0), 0)) (by decide +kernel)) hc_z
              obtain ⟨_, s287_z, s288_z, g3_z, hc_z⟩ := hc_z
              replace g0_z := s287_z 0 _ (by decide) rfl g0_z
              replace g1_z := s287_z 1 _ (by decide) rfl g1_z
              replace g2_z := s287_z 2 _ (by decide) rfl g2_z
              clear s287_z s288_z
              replace hc_z := rn_iload_n (am_cur_of (i := (117, 1, .iload_n 2, (0, 0, 0), 0)) (by decide +kernel)) g2_z hc_z
              replace hc_z := rn_ifT (am_cur_of (i := (118, 3, .ifCond .ne 7, (64, 0, 0), 0)) (by decide +kernel)) (by decide) hc_z
              replace hc_z := rn_aload_n (am_cur_of (i := (125, 1, .aload_n 0, (0, 0, 0), 0)) (by decide +kernel)) g0_z hc_z
              replace hc_z := rn_dup (am_cur_of (i := (126, 1, .dup, (0, 0, 0), 0)) (by decide +kernel)) hc_z
              replace hc_z := rn_getI (v := x + 1) (am_cur_of (i := (127, 3, .getfield 154, (12, 7, 1391), 0)) (by decide +kernel)) (by decide +kernel) rfl hc_z
              replace hc_z := rn_iconst (w := 1) (am_cur_of (i := (130, 1, .iconst 1, (0, 0, 0), 0)) (by decide +kernel)) (by decide) hc_z
              replace hc_z := rn_iadd (w := (x + 1) + 1) (am_cur_of (i := (131, 1, .iadd, (0, 0, 0), 0)) (by decide +kernel)) rfl hc_z
              replace hc_z := rn_put (am_cur_of (i := (132, 3, .putfield 154, (12, 7, 1391), 0)) (by decide +kernel)) (by decide +kernel) hc_z
              replace hc_z := rn_aload_n (am_cur_of (i := (135, 1, .aload_n 0, (0, 0, 0), 0)) (by decide +kernel)) g0_z hc_z
              replace hc_z := rn_iconst (w := 5) (am_cur_of (i := (136, 1, .iconst 5, (0, 0, 0), 0)) (by decide +kernel)) (by decide) hc_z
              replace hc_z := rn_put (am_cur_of (i := (137, 3, .putfield 157, (12, 8, 1392), 0)) (by decide +kernel)) (by decide +kernel) hc_z
              replace hc_z := rn_aload_n (am_cur_of (i := (140, 1, .aload_n 0, (0, 0, 0), 0)) (by decide +kernel)) g0_z hc_z
              replace hc_z := rn_aload_n (am_cur_of (i := (141, 1, .aload_n 0, (0, 0, 0), 0)) (by decide +kernel)) g0_z hc_z
              replace hc_z := rn_getI (v := c) (am_cur_of (i := (142, 3, .getfield 168, (12, 9, 1393), 0)) (by decide +kernel)) (by decide +kernel) rfl hc_z
              replace hc_z := rn_bipush (w := 61) (am_cur_of (i := (145, 2, .bipush 61, (0, 0, 0), 0)) (by decide +kernel)) (by decide) hc_z
              replace hc_z := rn_cmp (am_cur_of (i := (147, 3, .if_icmp .ne 7, (80, 0, 0), 0)) (by decide +kernel)) hc_z
              rcases hc_z with ⟨b289_z, hc_z⟩ | ⟨b289_z, hc_z⟩
              · replace b289_z : ¬ c = (61 : Int32) ∧ ¬ c.toInt = (61 : Int32).toInt := b289_z
                replace hc_z := rn_aload_n (am_cur_of (i := (154, 1, .aload_n 0, (0, 0, 0), 0)) (by decide +kernel)) g0_z hc_z
                replace hc_z := rn_getI (v := c) (am_cur_of (i := (155, 3, .getfield 168, (12, 9, 1393), 0)) (by decide +kernel)) (by decide +kernel) rfl hc_z
                replace hc_z := rn_bipush (w := 60) (am_cur_of (i := (158, 2, .bipush 60, (0, 0, 0), 0)) (by decide +kernel)) (by decide) hc_z
                replace hc_z := rn_cmp (am_cur_of (i := (160, 3, .if_icmp .ne 23, (94, 0, 0), 0)) (by decide +kernel)) hc_z
                rcases hc_z with ⟨b290_z, hc_z⟩ | ⟨b290_z, hc_z⟩
                · replace b290_z : ¬ c = (60 : Int32) ∧ ¬ c.toInt = (60 : Int32).toInt := b290_z
                  exact absurd b248_z.1 b290_z.1
                · replace b290_z : c = (60 : Int32) ∧ c.toInt = (60 : Int32).toInt := b290_z
                  replace hc_z := rn_iload_n (am_cur_of (i := (163, 1, .iload_n 2, (0, 0, 0), 0)) (by decide +kernel)) g2_z hc_z
                  replace hc_z := rn_ifF (am_cur_of (i := (164, 3, .ifCond .eq 7, (88, 0, 0), 0)) (by decide +kernel)) (by decide) hc_z
                  replace hc_z := rn_iconst (w := 1) (am_cur_of (i := (167, 1, .iconst 1, (0, 0, 0), 0)) (by decide +kernel)) (by decide) hc_z
                  replace hc_z := rn_goto (am_cur_of (i := (168, 3, .goto 24, (99, 0, 0), 0)) (by decide +kernel)) hc_z
                  replace hc_z := rn_put (am_cur_of (i := (192, 3, .putfield 168, (12, 9, 1393), 0)) (by decide +kernel)) (by decide +kernel) hc_z
                  replace hc_z := rn_goto (am_cur_of (i := (195, 3, .goto 95, (144, 0, 0), 0)) (by decide +kernel)) hc_z
                  replace hc_z := rn_vret (am_cur_of (i := (290, 1, .return_, (0, 0, 0), 0)) (by decide +kernel)) hc_z
                  obtain ⟨e291_z, e292_z⟩ := hc_z
                  have es_z : rt_sM c d = (5, 1, 1) := by
                    unfold rt_sM
                    rw [if_pos b290_z.1]
                    rw [if_pos b266_z.1]
                  subst e291_z e292_z
                  rw [es_z]
                  dsimp only
                  have e3_z := rt_c1 (x := x + 1) (by omega) (by omega)
                  refine ⟨rfl, ⟨r2_z, rfl, by omega, by omega, r6_z, fun k hk_z => r7_z k hk_z, fun k hk_z => r8_z k hk_z⟩, ab_Fr_up (by decide) (ab_Fr_up (by decide) (ab_Fr_up (by decide) (ab_Fr_up (by decide) (ab_Fr_up (by decide) ab_Fr_refl)))), rfl, rfl, rfl, rfl⟩
              · replace b289_z : c = (61 : Int32) ∧ c.toInt = (61 : Int32).toInt := b289_z
                exact absurd (b248_z.1.symm.trans b289_z.1) (by decide)
            · replace b286_z : d = (62 : Int32) ∧ d.toInt = (62 : Int32).toInt := b286_z
              exact absurd (b266_z.1.symm.trans b286_z.1) (by decide)
  · replace b248_z : ¬ c = (60 : Int32) ∧ ¬ c.toInt = (60 : Int32).toInt := b248_z
    replace hc_z := rn_aload_n (am_cur_of (i := (32, 1, .aload_n 0, (0, 0, 0), 0)) (by decide +kernel)) g0_z hc_z
    replace hc_z := rn_getI (v := c) (am_cur_of (i := (33, 3, .getfield 168, (12, 9, 1393), 0)) (by decide +kernel)) (by decide +kernel) rfl hc_z
    replace hc_z := rn_bipush (w := 62) (am_cur_of (i := (36, 2, .bipush 62, (0, 0, 0), 0)) (by decide +kernel)) (by decide) hc_z
    replace hc_z := rn_cmp (am_cur_of (i := (38, 3, .if_icmp .eq 12, (25, 0, 0), 0)) (by decide +kernel)) hc_z
    rcases hc_z with ⟨b293_z, hc_z⟩ | ⟨b293_z, hc_z⟩
    · replace b293_z : c = (62 : Int32) ∧ c.toInt = (62 : Int32).toInt := b293_z
      replace hc_z := rn_aload_n (am_cur_of (i := (50, 1, .aload_n 0, (0, 0, 0), 0)) (by decide +kernel)) g0_z hc_z
      replace hc_z := rn_getI (v := x + 1) (am_cur_of (i := (51, 3, .getfield 154, (12, 7, 1391), 0)) (by decide +kernel)) (by decide +kernel) rfl hc_z
      replace hc_z := rn_aload_n (am_cur_of (i := (54, 1, .aload_n 0, (0, 0, 0), 0)) (by decide +kernel)) g0_z hc_z
      replace hc_z := rn_getI (v := S) (am_cur_of (i := (55, 3, .getfield 151, (12, 6, 1390), 0)) (by decide +kernel)) (by decide +kernel) (show rg_v (am_up (am_up h 164 9 (.int c)) 164 7 (.int (x + 1))) 164 6 = S from r2_z) hc_z
      replace hc_z := rn_cmp (am_cur_of (i := (58, 3, .if_icmp .ge 15, (36, 0, 0), 0)) (by decide +kernel)) hc_z
      rcases hc_z with ⟨b294_z, hc_z⟩ | ⟨b294_z, hc_z⟩
      · replace b294_z : S.toInt ≤ (x + 1).toInt := b294_z
        replace hc_z := rn_iconst (w := 0) (am_cur_of (i := (73, 1, .iconst 0, (0, 0, 0), 0)) (by decide +kernel)) (by decide) hc_z
        replace hc_z := rn_istore_n (am_cur_of (i := (74, 1, .istore_n 1, (0, 0, 0), 0)) (by decide +kernel)) hc_z
        obtain ⟨_, s295_z, s296_z, g1_z, hc_z⟩ := hc_z
        replace g0_z := s295_z 0 _ (by decide) rfl g0_z
        clear s295_z s296_z
        replace hc_z := rn_aload_n (am_cur_of (i := (75, 1, .aload_n 0, (0, 0, 0), 0)) (by decide +kernel)) g0_z hc_z
        replace hc_z := rn_getI (v := c) (am_cur_of (i := (76, 3, .getfield 168, (12, 9, 1393), 0)) (by decide +kernel)) (by decide +kernel) rfl hc_z
        replace hc_z := rn_bipush (w := 61) (am_cur_of (i := (79, 2, .bipush 61, (0, 0, 0), 0)) (by decide +kernel)) (by decide) hc_z
        replace hc_z := rn_cmp (am_cur_of (i := (81, 3, .if_icmp .eq 13, (47, 0, 0), 0)) (by decide +kernel)) hc_z
        rcases hc_z with ⟨b297_z, hc_z⟩ | ⟨b297_z, hc_z⟩
        · replace b297_z : c = (61 : Int32) ∧ c.toInt = (61 : Int32).toInt := b297_z
          exact absurd (b293_z.1.symm.trans b297_z.1) (by decide)
        · replace b297_z : ¬ c = (61 : Int32) ∧ ¬ c.toInt = (61 : Int32).toInt := b297_z
          replace hc_z := rn_iload_n (am_cur_of (i := (84, 1, .iload_n 1, (0, 0, 0), 0)) (by decide +kernel)) g1_z hc_z
          replace hc_z := rn_bipush (w := 61) (am_cur_of (i := (85, 2, .bipush 61, (0, 0, 0), 0)) (by decide +kernel)) (by decide) hc_z
          replace hc_z := rn_cmpT (am_cur_of (i := (87, 3, .if_icmp .ne 7, (47, 0, 0), 0)) (by decide +kernel)) (by decide) hc_z
          replace hc_z := rn_iconst (w := 0) (am_cur_of (i := (94, 1, .iconst 0, (0, 0, 0), 0)) (by decide +kernel)) (by decide) hc_z
          replace hc_z := rn_istore_n (am_cur_of (i := (95, 1, .istore_n 2, (0, 0, 0), 0)) (by decide +kernel)) hc_z
          obtain ⟨_, s298_z, s299_z, g2_z, hc_z⟩ := hc_z
          replace g0_z := s298_z 0 _ (by decide) rfl g0_z
          replace g1_z := s298_z 1 _ (by decide) rfl g1_z
          clear s298_z s299_z
          replace hc_z := rn_aload_n (am_cur_of (i := (96, 1, .aload_n 0, (0, 0, 0), 0)) (by decide +kernel)) g0_z hc_z
          replace hc_z := rn_getI (v := c) (am_cur_of (i := (97, 3, .getfield 168, (12, 9, 1393), 0)) (by decide +kernel)) (by decide +kernel) rfl hc_z
          replace hc_z := rn_bipush (w := 60) (am_cur_of (i := (100, 2, .bipush 60, (0, 0, 0), 0)) (by decide +kernel)) (by decide) hc_z
          replace hc_z := rn_cmp (am_cur_of (i := (102, 3, .if_icmp .ne 13, (58, 0, 0), 0)) (by decide +kernel)) hc_z
          rcases hc_z with ⟨b300_z, hc_z⟩ | ⟨b300_z, hc_z⟩
          · replace b300_z : ¬ c = (60 : Int32) ∧ ¬ c.toInt = (60 : Int32).toInt := b300_z
            replace hc_z := rn_iconst (w := 0) (am_cur_of (i := (115, 1, .iconst 0, (0, 0, 0), 0)) (by decide +kernel)) (by decide) hc_z
            replace hc_z := rn_istore_n (am_cur_of (i := (116, 1, .istore_n 3, (0, 0, 0), 0)) (by decide +kernel)) hc_z
            obtain ⟨_, s301_z, s302_z, g3_z, hc_z⟩ := hc_z
            replace g0_z := s301_z 0 _ (by decide) rfl g0_z
            replace g1_z := s301_z 1 _ (by decide) rfl g1_z
            replace g2_z := s301_z 2 _ (by decide) rfl g2_z
            clear s301_z s302_z
            replace hc_z := rn_iload_n (am_cur_of (i := (117, 1, .iload_n 2, (0, 0, 0), 0)) (by decide +kernel)) g2_z hc_z
            replace hc_z := rn_ifF (am_cur_of (i := (118, 3, .ifCond .ne 7, (64, 0, 0), 0)) (by decide +kernel)) (by decide) hc_z
            replace hc_z := rn_iload_n (am_cur_of (i := (121, 1, .iload_n 3, (0, 0, 0), 0)) (by decide +kernel)) g3_z hc_z
            replace hc_z := rn_ifT (am_cur_of (i := (122, 3, .ifCond .eq 13, (70, 0, 0), 0)) (by decide +kernel)) (by decide) hc_z
            replace hc_z := rn_aload_n (am_cur_of (i := (135, 1, .aload_n 0, (0, 0, 0), 0)) (by decide +kernel)) g0_z hc_z
            replace hc_z := rn_iconst (w := 5) (am_cur_of (i := (136, 1, .iconst 5, (0, 0, 0), 0)) (by decide +kernel)) (by decide) hc_z
            replace hc_z := rn_put (am_cur_of (i := (137, 3, .putfield 157, (12, 8, 1392), 0)) (by decide +kernel)) (by decide +kernel) hc_z
            replace hc_z := rn_aload_n (am_cur_of (i := (140, 1, .aload_n 0, (0, 0, 0), 0)) (by decide +kernel)) g0_z hc_z
            replace hc_z := rn_aload_n (am_cur_of (i := (141, 1, .aload_n 0, (0, 0, 0), 0)) (by decide +kernel)) g0_z hc_z
            replace hc_z := rn_getI (v := c) (am_cur_of (i := (142, 3, .getfield 168, (12, 9, 1393), 0)) (by decide +kernel)) (by decide +kernel) rfl hc_z
            replace hc_z := rn_bipush (w := 61) (am_cur_of (i := (145, 2, .bipush 61, (0, 0, 0), 0)) (by decide +kernel)) (by decide) hc_z
            replace hc_z := rn_cmp (am_cur_of (i := (147, 3, .if_icmp .ne 7, (80, 0, 0), 0)) (by decide +kernel)) hc_z
            rcases hc_z with ⟨b303_z, hc_z⟩ | ⟨b303_z, hc_z⟩
            · replace b303_z : ¬ c = (61 : Int32) ∧ ¬ c.toInt = (61 : Int32).toInt := b303_z
              replace hc_z := rn_aload_n (am_cur_of (i := (154, 1, .aload_n 0, (0, 0, 0), 0)) (by decide +kernel)) g0_z hc_z
              replace hc_z := rn_getI (v := c) (am_cur_of (i := (155, 3, .getfield 168, (12, 9, 1393), 0)) (by decide +kernel)) (by decide +kernel) rfl hc_z
              replace hc_z := rn_bipush (w := 60) (am_cur_of (i := (158, 2, .bipush 60, (0, 0, 0), 0)) (by decide +kernel)) (by decide) hc_z
              replace hc_z := rn_cmp (am_cur_of (i := (160, 3, .if_icmp .ne 23, (94, 0, 0), 0)) (by decide +kernel)) hc_z
              rcases hc_z with ⟨b304_z, hc_z⟩ | ⟨b304_z, hc_z⟩
              · replace b304_z : ¬ c = (60 : Int32) ∧ ¬ c.toInt = (60 : Int32).toInt := b304_z
                replace hc_z := rn_iload_n (am_cur_of (i := (183, 1, .iload_n 2, (0, 0, 0), 0)) (by decide +kernel)) g2_z hc_z
                replace hc_z := rn_ifT (am_cur_of (i := (184, 3, .ifCond .eq 7, (98, 0, 0), 0)) (by decide +kernel)) (by decide) hc_z
                replace hc_z := rn_iconst (w := 5) (am_cur_of (i := (191, 1, .iconst 5, (0, 0, 0), 0)) (by decide +kernel)) (by decide) hc_z
                replace hc_z := rn_put (am_cur_of (i := (192, 3, .putfield 168, (12, 9, 1393), 0)) (by decide +kernel)) (by decide +kernel) hc_z
                replace hc_z := rn_goto (am_cur_of (i := (195, 3, .goto 95, (144, 0, 0), 0)) (by decide +kernel)) hc_z
                replace hc_z := rn_vret (am_cur_of (i := (290, 1, .return_, (0, 0, 0), 0)) (by decide +kernel)) hc_z
                obtain ⟨e305_z, e306_z⟩ := hc_z
                have d0_z : d = 0 := by rw [← ed_z]; exact rt_nx_out (by omega)
                have es_z : rt_sM c d = (5, 5, 0) := by
                  unfold rt_sM
                  rw [if_neg (by rw [b293_z.1]; decide)]
                  rw [if_pos b293_z.1]
                  rw [if_neg (by rw [d0_z]; decide)]
                subst e305_z e306_z
                rw [es_z]
                dsimp only
                refine ⟨rfl, ?_, ab_Fr_up (by decide) (ab_Fr_up (by decide) (ab_Fr_up (by decide) (ab_Fr_up (by decide) ab_Fr_refl))), rfl, rfl, rfl, ?_⟩
                · show rt_M T S (x + 1 + 0) _
                  rw [Int32.add_zero]
                  exact ⟨r2_z, rfl, by omega, by omega, r6_z, fun k hk_z => r7_z k hk_z, fun k hk_z => r8_z k hk_z⟩
                · exact (Int32.add_zero _).symm
              · replace b304_z : c = (60 : Int32) ∧ c.toInt = (60 : Int32).toInt := b304_z
                exact absurd (b293_z.1.symm.trans b304_z.1) (by decide)
            · replace b303_z : c = (61 : Int32) ∧ c.toInt = (61 : Int32).toInt := b303_z
              exact absurd (b293_z.1.symm.trans b303_z.1) (by decide)
          · replace b300_z : c = (60 : Int32) ∧ c.toInt = (60 : Int32).toInt := b300_z
            exact absurd (b293_z.1.symm.trans b300_z.1) (by decide)
      · replace b294_z : (x + 1).toInt < S.toInt := b294_z
        replace hc_z := rn_aload_n (am_cur_of (i := (61, 1, .aload_n 0, (0, 0, 0), 0)) (by decide +kernel)) g0_z hc_z
        replace hc_z := rn_getR (x := 165) (am_cur_of (i := (62, 3, .getfield 7, (12, 0, 1384), 0)) (by decide +kernel)) (by decide +kernel) hc_z
        replace hc_z := rn_aload_n (am_cur_of (i := (65, 1, .aload_n 0, (0, 0, 0), 0)) (by decide +kernel)) g0_z hc_z
        replace hc_z := rn_getI (v := x + 1) (am_cur_of (i := (66, 3, .getfield 154, (12, 7, 1391), 0)) (by decide +kernel)) (by decide +kernel) rfl hc_z
        replace hc_z := rn_iaload (N := 700) (q := (x + 1).toNatClampNeg) (v := d) (am_cur_of (i := (69, 1, .iaload, (0, 0, 0), 0)) (by decide +kernel)) (by decide +kernel) rfl (show rg_v (am_up (am_up h 164 9 (.int c)) 164 7 (.int (x + 1))) 165 ((x + 1).toNatClampNeg) = d from (by rw [← ed_z, rt_nx_in (by omega), show x.toNatClampNeg + 1 = (x + 1).toNatClampNeg by omega]; exact r7_z _ (by omega))) hc_z
        obtain ⟨p307_z, hc_z⟩ := hc_z
        replace hc_z := rn_goto (am_cur_of (i := (70, 3, .goto 4, (37, 0, 0), 0)) (by decide +kernel)) hc_z
        replace hc_z := rn_istore_n (am_cur_of (i := (74, 1, .istore_n 1, (0, 0, 0), 0)) (by decide +kernel)) hc_z
        obtain ⟨_, s308_z, s309_z, g1_z, hc_z⟩ := hc_z
        replace g0_z := s308_z 0 _ (by decide) rfl g0_z
        clear s308_z s309_z
        replace hc_z := rn_aload_n (am_cur_of (i := (75, 1, .aload_n 0, (0, 0, 0), 0)) (by decide +kernel)) g0_z hc_z
        replace hc_z := rn_getI (v := c) (am_cur_of (i := (76, 3, .getfield 168, (12, 9, 1393), 0)) (by decide +kernel)) (by decide +kernel) rfl hc_z
        replace hc_z := rn_bipush (w := 61) (am_cur_of (i := (79, 2, .bipush 61, (0, 0, 0), 0)) (by decide +kernel)) (by decide) hc_z
        replace hc_z := rn_cmp (am_cur_of (i := (81, 3, .if_icmp .eq 13, (47, 0, 0), 0)) (by decide +kernel)) hc_z
        rcases hc_z with ⟨b310_z, hc_z⟩ | ⟨b310_z, hc_z⟩
        · replace b310_z : c = (61 : Int32) ∧ c.toInt = (61 : Int32).toInt := b310_z
          exact absurd (b293_z.1.symm.trans b310_z.1) (by decide)
        · replace b310_z : ¬ c = (61 : Int32) ∧ ¬ c.toInt = (61 : Int32).toInt := b310_z
          replace hc_z := rn_iload_n (am_cur_of (i := (84, 1, .iload_n 1, (0, 0, 0), 0)) (by decide +kernel)) g1_z hc_z
          replace hc_z := rn_bipush (w := 61) (am_cur_of (i := (85, 2, .bipush 61, (0, 0, 0), 0)) (by decide +kernel)) (by decide) hc_z
          replace hc_z := rn_cmp (am_cur_of (i := (87, 3, .if_icmp .ne 7, (47, 0, 0), 0)) (by decide +kernel)) hc_z
          rcases hc_z with ⟨b311_z, hc_z⟩ | ⟨b311_z, hc_z⟩
          · replace b311_z : ¬ d = (61 : Int32) ∧ ¬ d.toInt = (61 : Int32).toInt := b311_z
            replace hc_z := rn_iconst (w := 0) (am_cur_of (i := (94, 1, .iconst 0, (0, 0, 0), 0)) (by decide +kernel)) (by decide) hc_z
            replace hc_z := rn_istore_n (am_cur_of (i := (95, 1, .istore_n 2, (0, 0, 0), 0)) (by decide +kernel)) hc_z
            obtain ⟨_, s312_z, s313_z, g2_z, hc_z⟩ := hc_z
            replace g0_z := s312_z 0 _ (by decide) rfl g0_z
            replace g1_z := s312_z 1 _ (by decide) rfl g1_z
            clear s312_z s313_z
            replace hc_z := rn_aload_n (am_cur_of (i := (96, 1, .aload_n 0, (0, 0, 0), 0)) (by decide +kernel)) g0_z hc_z
            replace hc_z := rn_getI (v := c) (am_cur_of (i := (97, 3, .getfield 168, (12, 9, 1393), 0)) (by decide +kernel)) (by decide +kernel) rfl hc_z
            replace hc_z := rn_bipush (w := 60) (am_cur_of (i := (100, 2, .bipush 60, (0, 0, 0), 0)) (by decide +kernel)) (by decide) hc_z
            replace hc_z := rn_cmp (am_cur_of (i := (102, 3, .if_icmp .ne 13, (58, 0, 0), 0)) (by decide +kernel)) hc_z
            rcases hc_z with ⟨b314_z, hc_z⟩ | ⟨b314_z, hc_z⟩
            · replace b314_z : ¬ c = (60 : Int32) ∧ ¬ c.toInt = (60 : Int32).toInt := b314_z
              replace hc_z := rn_iconst (w := 0) (am_cur_of (i := (115, 1, .iconst 0, (0, 0, 0), 0)) (by decide +kernel)) (by decide) hc_z
              replace hc_z := rn_istore_n (am_cur_of (i := (116, 1, .istore_n 3, (0, 0, 0), 0)) (by decide +kernel)) hc_z
              obtain ⟨_, s315_z, s316_z, g3_z, hc_z⟩ := hc_z
              replace g0_z := s315_z 0 _ (by decide) rfl g0_z
              replace g1_z := s315_z 1 _ (by decide) rfl g1_z
              replace g2_z := s315_z 2 _ (by decide) rfl g2_z
              clear s315_z s316_z
              replace hc_z := rn_iload_n (am_cur_of (i := (117, 1, .iload_n 2, (0, 0, 0), 0)) (by decide +kernel)) g2_z hc_z
              replace hc_z := rn_ifF (am_cur_of (i := (118, 3, .ifCond .ne 7, (64, 0, 0), 0)) (by decide +kernel)) (by decide) hc_z
              replace hc_z := rn_iload_n (am_cur_of (i := (121, 1, .iload_n 3, (0, 0, 0), 0)) (by decide +kernel)) g3_z hc_z
              replace hc_z := rn_ifT (am_cur_of (i := (122, 3, .ifCond .eq 13, (70, 0, 0), 0)) (by decide +kernel)) (by decide) hc_z
              replace hc_z := rn_aload_n (am_cur_of (i := (135, 1, .aload_n 0, (0, 0, 0), 0)) (by decide +kernel)) g0_z hc_z
              replace hc_z := rn_iconst (w := 5) (am_cur_of (i := (136, 1, .iconst 5, (0, 0, 0), 0)) (by decide +kernel)) (by decide) hc_z
              replace hc_z := rn_put (am_cur_of (i := (137, 3, .putfield 157, (12, 8, 1392), 0)) (by decide +kernel)) (by decide +kernel) hc_z
              replace hc_z := rn_aload_n (am_cur_of (i := (140, 1, .aload_n 0, (0, 0, 0), 0)) (by decide +kernel)) g0_z hc_z
              replace hc_z := rn_aload_n (am_cur_of (i := (141, 1, .aload_n 0, (0, 0, 0), 0)) (by decide +kernel)) g0_z hc_z
              replace hc_z := rn_getI (v := c) (am_cur_of (i := (142, 3, .getfield 168, (12, 9, 1393), 0)) (by decide +kernel)) (by decide +kernel) rfl hc_z
              replace hc_z := rn_bipush (w := 61) (am_cur_of (i := (145, 2, .bipush 61, (0, 0, 0), 0)) (by decide +kernel)) (by decide) hc_z
              replace hc_z := rn_cmp (am_cur_of (i := (147, 3, .if_icmp .ne 7, (80, 0, 0), 0)) (by decide +kernel)) hc_z
              rcases hc_z with ⟨b317_z, hc_z⟩ | ⟨b317_z, hc_z⟩
              · replace b317_z : ¬ c = (61 : Int32) ∧ ¬ c.toInt = (61 : Int32).toInt := b317_z
                replace hc_z := rn_aload_n (am_cur_of (i := (154, 1, .aload_n 0, (0, 0, 0), 0)) (by decide +kernel)) g0_z hc_z
                replace hc_z := rn_getI (v := c) (am_cur_of (i := (155, 3, .getfield 168, (12, 9, 1393), 0)) (by decide +kernel)) (by decide +kernel) rfl hc_z
                replace hc_z := rn_bipush (w := 60) (am_cur_of (i := (158, 2, .bipush 60, (0, 0, 0), 0)) (by decide +kernel)) (by decide) hc_z
                replace hc_z := rn_cmp (am_cur_of (i := (160, 3, .if_icmp .ne 23, (94, 0, 0), 0)) (by decide +kernel)) hc_z
                rcases hc_z with ⟨b318_z, hc_z⟩ | ⟨b318_z, hc_z⟩
                · replace b318_z : ¬ c = (60 : Int32) ∧ ¬ c.toInt = (60 : Int32).toInt := b318_z
                  replace hc_z := rn_iload_n (am_cur_of (i := (183, 1, .iload_n 2, (0, 0, 0), 0)) (by decide +kernel)) g2_z hc_z
                  replace hc_z := rn_ifT (am_cur_of (i := (184, 3, .ifCond .eq 7, (98, 0, 0), 0)) (by decide +kernel)) (by decide) hc_z
                  replace hc_z := rn_iconst (w := 5) (am_cur_of (i := (191, 1, .iconst 5, (0, 0, 0), 0)) (by decide +kernel)) (by decide) hc_z
                  replace hc_z := rn_put (am_cur_of (i := (192, 3, .putfield 168, (12, 9, 1393), 0)) (by decide +kernel)) (by decide +kernel) hc_z
                  replace hc_z := rn_goto (am_cur_of (i := (195, 3, .goto 95, (144, 0, 0), 0)) (by decide +kernel)) hc_z
                  replace hc_z := rn_vret (am_cur_of (i := (290, 1, .return_, (0, 0, 0), 0)) (by decide +kernel)) hc_z
                  obtain ⟨e319_z, e320_z⟩ := hc_z
                  have es_z : rt_sM c d = (5, 5, 0) := by
                    unfold rt_sM
                    rw [if_neg (by rw [b293_z.1]; decide)]
                    rw [if_pos b293_z.1]
                    rw [if_neg b311_z.1]
                  subst e319_z e320_z
                  rw [es_z]
                  dsimp only
                  refine ⟨rfl, ?_, ab_Fr_up (by decide) (ab_Fr_up (by decide) (ab_Fr_up (by decide) (ab_Fr_up (by decide) ab_Fr_refl))), rfl, rfl, rfl, ?_⟩
                  · show rt_M T S (x + 1 + 0) _
                    rw [Int32.add_zero]
                    exact ⟨r2_z, rfl, by omega, by omega, r6_z, fun k hk_z => r7_z k hk_z, fun k hk_z => r8_z k hk_z⟩
                  · exact (Int32.add_zero _).symm
                · replace b318_z : c = (60 : Int32) ∧ c.toInt = (60 : Int32).toInt := b318_z
                  exact absurd (b293_z.1.symm.trans b318_z.1) (by decide)
              · replace b317_z : c = (61 : Int32) ∧ c.toInt = (61 : Int32).toInt := b317_z
                exact absurd (b293_z.1.symm.trans b317_z.1) (by decide)
            · replace b314_z : c = (60 : Int32) ∧ c.toInt = (60 : Int32).toInt := b314_z
              exact absurd (b293_z.1.symm.trans b314_z.1) (by decide)
          · replace b311_z : d = (61 : Int32) ∧ d.toInt = (61 : Int32).toInt := b311_z
            replace hc_z := rn_iconst (w := 1) (am_cur_of (i := (90, 1, .iconst 1, (0, 0, 0), 0)) (by decide +kernel)) (by decide) hc_z
            replace hc_z := rn_goto (am_cur_of (i := (91, 3, .goto 4, (48, 0, 0), 0)) (by decide +kernel)) hc_z
            replace hc_z := rn_istore_n (am_cur_of (i := (95, 1, .istore_n 2, (0, 0, 0), 0)) (by decide +kernel)) hc_z
            obtain ⟨_, s321_z, s322_z, g2_z, hc_z⟩ := hc_z
            replace g0_z := s321_z 0 _ (by decide) rfl g0_z
            replace g1_z := s321_z 1 _ (by decide) rfl g1_z
            clear s321_z s322_z
            replace hc_z := rn_aload_n (am_cur_of (i := (96, 1, .aload_n 0, (0, 0, 0), 0)) (by decide +kernel)) g0_z hc_z
            replace hc_z := rn_getI (v := c) (am_cur_of (i := (97, 3, .getfield 168, (12, 9, 1393), 0)) (by decide +kernel)) (by decide +kernel) rfl hc_z
            replace hc_z := rn_bipush (w := 60) (am_cur_of (i := (100, 2, .bipush 60, (0, 0, 0), 0)) (by decide +kernel)) (by decide) hc_z
            replace hc_z := rn_cmp (am_cur_of (i := (102, 3, .if_icmp .ne 13, (58, 0, 0), 0)) (by decide +kernel)) hc_z
            rcases hc_z with ⟨b323_z, hc_z⟩ | ⟨b323_z, hc_z⟩
            · replace b323_z : ¬ c = (60 : Int32) ∧ ¬ c.toInt = (60 : Int32).toInt := b323_z
              replace hc_z := rn_iconst (w := 0) (am_cur_of (i := (115, 1, .iconst 0, (0, 0, 0), 0)) (by decide +kernel)) (by decide) hc_z
              replace hc_z := rn_istore_n (am_cur_of (i := (116, 1, .istore_n 3, (0, 0, 0), 0)) (by decide +kernel)) hc_z
              obtain ⟨_, s324_z, s325_z, g3_z, hc_z⟩ := hc_z
              replace g0_z := s324_z 0 _ (by decide) rfl g0_z
              replace g1_z := s324_z 1 _ (by decide) rfl g1_z
              replace g2_z := s324_z 2 _ (by decide) rfl g2_z
              clear s324_z s325_z
              replace hc_z := rn_iload_n (am_cur_of (i := (117, 1, .iload_n 2, (0, 0, 0), 0)) (by decide +kernel)) g2_z hc_z
              replace hc_z := rn_ifT (am_cur_of (i := (118, 3, .ifCond .ne 7, (64, 0, 0), 0)) (by decide +kernel)) (by decide) hc_z
              replace hc_z := rn_aload_n (am_cur_of (i := (125, 1, .aload_n 0, (0, 0, 0), 0)) (by decide +kernel)) g0_z hc_z
              replace hc_z := rn_dup (am_cur_of (i := (126, 1, .dup, (0, 0, 0), 0)) (by decide +kernel)) hc_z
              replace hc_z := rn_getI (v := x + 1) (am_cur_of (i := (127, 3, .getfield 154, (12, 7, 1391), 0)) (by decide +kernel)) (by decide +kernel) rfl hc_z
              replace hc_z := rn_iconst (w := 1) (am_cur_of (i := (130, 1, .iconst 1, (0, 0, 0), 0)) (by decide +kernel)) (by decide) hc_z
              replace hc_z := rn_iadd (w := (x + 1) + 1) (am_cur_of (i := (131, 1, .iadd, (0, 0, 0), 0)) (by decide +kernel)) rfl hc_z
              replace hc_z := rn_put (am_cur_of (i := (132, 3, .putfield 154, (12, 7, 1391), 0)) (by decide +kernel)) (by decide +kernel) hc_z
              replace hc_z := rn_aload_n (am_cur_of (i := (135, 1, .aload_n 0, (0, 0, 0), 0)) (by decide +kernel)) g0_z hc_z
              replace hc_z := rn_iconst (w := 5) (am_cur_of (i := (136, 1, .iconst 5, (0, 0, 0), 0)) (by decide +kernel)) (by decide) hc_z
              replace hc_z := rn_put (am_cur_of (i := (137, 3, .putfield 157, (12, 8, 1392), 0)) (by decide +kernel)) (by decide +kernel) hc_z
              replace hc_z := rn_aload_n (am_cur_of (i := (140, 1, .aload_n 0, (0, 0, 0), 0)) (by decide +kernel)) g0_z hc_z
              replace hc_z := rn_aload_n (am_cur_of (i := (141, 1, .aload_n 0, (0, 0, 0), 0)) (by decide +kernel)) g0_z hc_z
              replace hc_z := rn_getI (v := c) (am_cur_of (i := (142, 3, .getfield 168, (12, 9, 1393), 0)) (by decide +kernel)) (by decide +kernel) rfl hc_z
              replace hc_z := rn_bipush (w := 61) (am_cur_of (i := (145, 2, .bipush 61, (0, 0, 0), 0)) (by decide +kernel)) (by decide) hc_z
              replace hc_z := rn_cmp (am_cur_of (i := (147, 3, .if_icmp .ne 7, (80, 0, 0), 0)) (by decide +kernel)) hc_z
              rcases hc_z with ⟨b326_z, hc_z⟩ | ⟨b326_z, hc_z⟩
              · replace b326_z : ¬ c = (61 : Int32) ∧ ¬ c.toInt = (61 : Int32).toInt := b326_z
                replace hc_z := rn_aload_n (am_cur_of (i := (154, 1, .aload_n 0, (0, 0, 0), 0)) (by decide +kernel)) g0_z hc_z
                replace hc_z := rn_getI (v := c) (am_cur_of (i := (155, 3, .getfield 168, (12, 9, 1393), 0)) (by decide +kernel)) (by decide +kernel) rfl hc_z
                replace hc_z := rn_bipush (w := 60) (am_cur_of (i := (158, 2, .bipush 60, (0, 0, 0), 0)) (by decide +kernel)) (by decide) hc_z
                replace hc_z := rn_cmp (am_cur_of (i := (160, 3, .if_icmp .ne 23, (94, 0, 0), 0)) (by decide +kernel)) hc_z
                rcases hc_z with ⟨b327_z, hc_z⟩ | ⟨b327_z, hc_z⟩
                · replace b327_z : ¬ c = (60 : Int32) ∧ ¬ c.toInt = (60 : Int32).toInt := b327_z
                  replace hc_z := rn_iload_n (am_cur_of (i := (183, 1, .iload_n 2, (0, 0, 0), 0)) (by decide +kernel)) g2_z hc_z
                  replace hc_z := rn_ifF (am_cur_of (i := (184, 3, .ifCond .eq 7, (98, 0, 0), 0)) (by decide +kernel)) (by decide) hc_z
                  replace hc_z := rn_iconst (w := 4) (am_cur_of (i := (187, 1, .iconst 4, (0, 0, 0), 0)) (by decide +kernel)) (by decide) hc_z
                  replace hc_z := rn_goto (am_cur_of (i := (188, 3, .goto 4, (99, 0, 0), 0)) (by decide +kernel)) hc_z
                  replace hc_z := rn_put (am_cur_of (i := (192, 3, .putfield 168, (12, 9, 1393), 0)) (by decide +kernel)) (by decide +kernel) hc_z
                  replace hc_z := rn_goto (am_cur_of (i := (195, 3, .goto 95, (144, 0, 0), 0)) (by decide +kernel)) hc_z
                  replace hc_z := rn_vret (am_cur_of (i := (290, 1, .return_, (0, 0, 0), 0)) (by decide +kernel)) hc_z
                  obtain ⟨e328_z, e329_z⟩ := hc_z
                  have es_z : rt_sM c d = (5, 4, 1) := by
                    unfold rt_sM
                    rw [if_neg (by rw [b293_z.1]; decide)]
                    rw [if_pos b293_z.1]
                    rw [if_pos b311_z.1]
                  subst e328_z e329_z
                  rw [es_z]
                  dsimp only
                  have e3_z := rt_c1 (x := x + 1) (by omega) (by omega)
                  refine ⟨rfl, ⟨r2_z, rfl, by omega, by omega, r6_z, fun k hk_z => r7_z k hk_z, fun k hk_z => r8_z k hk_z⟩, ab_Fr_up (by decide) (ab_Fr_up (by decide) (ab_Fr_up (by decide) (ab_Fr_up (by decide) (ab_Fr_up (by decide) ab_Fr_refl)))), rfl, rfl, rfl, rfl⟩
                · replace b327_z : c = (60 : Int32) ∧ c.toInt = (60 : Int32).toInt := b327_z
                  exact absurd (b293_z.1.symm.trans b327_z.1) (by decide)
              · replace b326_z : c = (61 : Int32) ∧ c.toInt = (61 : Int32).toInt := b326_z
                exact absurd (b293_z.1.symm.trans b326_z.1) (by decide)
            · replace b323_z : c = (60 : Int32) ∧ c.toInt = (60 : Int32).toInt := b323_z
              exact absurd (b293_z.1.symm.trans b323_z.1) (by decide)
    · replace b293_z : ¬ c = (62 : Int32) ∧ ¬ c.toInt = (62 : Int32).toInt := b293_z
      replace hc_z := rn_aload_n (am_cur_of (i := (41, 1, .aload_n 0, (0, 0, 0), 0)) (by decide +kernel)) g0_z hc_z
      replace hc_z := rn_getI (v := c) (am_cur_of (i := (42, 3, .getfield 168, (12, 9, 1393), 0)) (by decide +kernel)) (by decide +kernel) rfl hc_z
      replace hc_z := rn_bipush (w := 61) (am_cur_of (i := (45, 2, .bipush 61, (0, 0, 0), 0)) (by decide +kernel)) (by decide) hc_z
      replace hc_z := rn_cmp (am_cur_of (i := (47, 3, .if_icmp .ne 151, (101, 0, 0), 0)) (by decide +kernel)) hc_z
      rcases hc_z with ⟨b330_z, hc_z⟩ | ⟨b330_z, hc_z⟩
      · replace b330_z : ¬ c = (61 : Int32) ∧ ¬ c.toInt = (61 : Int32).toInt := b330_z
        replace hc_z := rn_aload_n (am_cur_of (i := (198, 1, .aload_n 0, (0, 0, 0), 0)) (by decide +kernel)) g0_z hc_z
        replace hc_z := rn_getI (v := c) (am_cur_of (i := (199, 3, .getfield 168, (12, 9, 1393), 0)) (by decide +kernel)) (by decide +kernel) rfl hc_z
        replace hc_z := rn_bipush (w := 59) (am_cur_of (i := (202, 2, .bipush 59, (0, 0, 0), 0)) (by decide +kernel)) (by decide) hc_z
        replace hc_z := rn_cmp (am_cur_of (i := (204, 3, .if_icmp .eq 66, (133, 0, 0), 0)) (by decide +kernel)) hc_z
        rcases hc_z with ⟨b331_z, hc_z⟩ | ⟨b331_z, hc_z⟩
        · replace b331_z : c = (59 : Int32) ∧ c.toInt = (59 : Int32).toInt := b331_z
          replace hc_z := rn_iconst (w := 1) (am_cur_of (i := (270, 1, .iconst 1, (0, 0, 0), 0)) (by decide +kernel)) (by decide) hc_z
          replace hc_z := rn_goto (am_cur_of (i := (271, 3, .goto 4, (136, 0, 0), 0)) (by decide +kernel)) hc_z
          replace hc_z := rn_istore_n (am_cur_of (i := (275, 1, .istore_n 1, (0, 0, 0), 0)) (by decide +kernel)) hc_z
          obtain ⟨_, s332_z, s333_z, g1_z, hc_z⟩ := hc_z
          replace g0_z := s332_z 0 _ (by decide) rfl g0_z
          clear s332_z s333_z
          replace hc_z := rn_aload_n (am_cur_of (i := (276, 1, .aload_n 0, (0, 0, 0), 0)) (by decide +kernel)) g0_z hc_z
          replace hc_z := rn_iload_n (am_cur_of (i := (277, 1, .iload_n 1, (0, 0, 0), 0)) (by decide +kernel)) g1_z hc_z
          replace hc_z := rn_ifF (am_cur_of (i := (278, 3, .ifCond .eq 7, (142, 0, 0), 0)) (by decide +kernel)) (by decide) hc_z
          replace hc_z := rn_iconst (w := 4) (am_cur_of (i := (281, 1, .iconst 4, (0, 0, 0), 0)) (by decide +kernel)) (by decide) hc_z
          replace hc_z := rn_goto (am_cur_of (i := (282, 3, .goto 5, (143, 0, 0), 0)) (by decide +kernel)) hc_z
          replace hc_z := rn_put (am_cur_of (i := (287, 3, .putfield 157, (12, 8, 1392), 0)) (by decide +kernel)) (by decide +kernel) hc_z
          replace hc_z := rn_vret (am_cur_of (i := (290, 1, .return_, (0, 0, 0), 0)) (by decide +kernel)) hc_z
          obtain ⟨e334_z, e335_z⟩ := hc_z
          have es_z : rt_sM c d = (4, c, 0) := by
            unfold rt_sM
            rw [if_neg (by rw [b331_z.1]; decide)]
            rw [if_neg (by rw [b331_z.1]; decide)]
            rw [if_neg (by rw [b331_z.1]; decide)]
            rw [if_neg (by rw [b331_z.1]; decide)]
            rw [if_neg (by rw [b331_z.1]; decide)]
            rw [if_neg (by rw [b331_z.1]; decide)]
            rw [if_neg (by rw [b331_z.1]; decide)]
            rw [if_pos (Or.inl b331_z.1)]
          subst e334_z e335_z
          rw [es_z]
          dsimp only
          refine ⟨rfl, ?_, ab_Fr_up (by decide) (ab_Fr_up (by decide) (ab_Fr_up (by decide) ab_Fr_refl)), rfl, rfl, rfl, ?_⟩
          · show rt_M T S (x + 1 + 0) _
            rw [Int32.add_zero]
            exact ⟨r2_z, rfl, by omega, by omega, r6_z, fun k hk_z => r7_z k hk_z, fun k hk_z => r8_z k hk_z⟩
          · exact (Int32.add_zero _).symm
        · replace b331_z : ¬ c = (59 : Int32) ∧ ¬ c.toInt = (59 : Int32).toInt := b331_z
          replace hc_z := rn_aload_n (am_cur_of (i := (207, 1, .aload_n 0, (0, 0, 0), 0)) (by decide +kernel)) g0_z hc_z
          replace hc_z := rn_getI (v := c) (am_cur_of (i := (208, 3, .getfield 168, (12, 9, 1393), 0)) (by decide +kernel)) (by decide +kernel) rfl hc_z
          replace hc_z := rn_bipush (w := 40) (am_cur_of (i := (211, 2, .bipush 40, (0, 0, 0), 0)) (by decide +kernel)) (by decide) hc_z
          replace hc_z := rn_cmp (am_cur_of (i := (213, 3, .if_icmp .eq 57, (133, 0, 0), 0)) (by decide +kernel)) hc_z
          rcases hc_z with ⟨b336_z, hc_z⟩ | ⟨b336_z, hc_z⟩
          · replace b336_z : c = (40 : Int32) ∧ c.toInt = (40 : Int32).toInt := b336_z
            replace hc_z := rn_iconst (w := 1) (am_cur_of (i := (270, 1, .iconst 1, (0, 0, 0), 0)) (by decide +kernel)) (by decide) hc_z
            replace hc_z := rn_goto (am_cur_of (i := (271, 3, .goto 4, (136, 0, 0), 0)) (by decide +kernel)) hc_z
            replace hc_z := rn_istore_n (am_cur_of (i := (275, 1, .istore_n 1, (0, 0, 0), 0)) (by decide +kernel)) hc_z
            obtain ⟨_, s337_z, s338_z, g1_z, hc_z⟩ := hc_z
            replace g0_z := s337_z 0 _ (by decide) rfl g0_z
            clear s337_z s338_z
            replace hc_z := rn_aload_n (am_cur_of (i := (276, 1, .aload_n 0, (0, 0, 0), 0)) (by decide +kernel)) g0_z hc_z
            replace hc_z := rn_iload_n (am_cur_of (i := (277, 1, .iload_n 1, (0, 0, 0), 0)) (by decide +kernel)) g1_z hc_z
            replace hc_z := rn_ifF (am_cur_of (i := (278, 3, .ifCond .eq 7, (142, 0, 0), 0)) (by decide +kernel)) (by decide) hc_z
            replace hc_z := rn_iconst (w := 4) (am_cur_of (i := (281, 1, .iconst 4, (0, 0, 0), 0)) (by decide +kernel)) (by decide) hc_z
            replace hc_z := rn_goto (am_cur_of (i := (282, 3, .goto 5, (143, 0, 0), 0)) (by decide +kernel)) hc_z
            replace hc_z := rn_put (am_cur_of (i := (287, 3, .putfield 157, (12, 8, 1392), 0)) (by decide +kernel)) (by decide +kernel) hc_z
            replace hc_z := rn_vret (am_cur_of (i := (290, 1, .return_, (0, 0, 0), 0)) (by decide +kernel)) hc_z
            obtain ⟨e339_z, e340_z⟩ := hc_z
            have es_z : rt_sM c d = (4, c, 0) := by
              unfold rt_sM
              rw [if_neg (by rw [b336_z.1]; decide)]
              rw [if_neg (by rw [b336_z.1]; decide)]
              rw [if_neg (by rw [b336_z.1]; decide)]
              rw [if_neg (by rw [b336_z.1]; decide)]
              rw [if_neg (by rw [b336_z.1]; decide)]
              rw [if_neg (by rw [b336_z.1]; decide)]
              rw [if_neg (by rw [b336_z.1]; decide)]
              rw [if_pos (Or.inr (Or.inl b336_z.1))]
            subst e339_z e340_z
            rw [es_z]
            dsimp only
            refine ⟨rfl, ?_, ab_Fr_up (by decide) (ab_Fr_up (by decide) (ab_Fr_up (by decide) ab_Fr_refl)), rfl, rfl, rfl, ?_⟩
            · show rt_M T S (x + 1 + 0) _
              rw [Int32.add_zero]
              exact ⟨r2_z, rfl, by omega, by omega, r6_z, fun k hk_z => r7_z k hk_z, fun k hk_z => r8_z k hk_z⟩
            · exact (Int32.add_zero _).symm
          · replace b336_z : ¬ c = (40 : Int32) ∧ ¬ c.toInt = (40 : Int32).toInt := b336_z
            replace hc_z := rn_aload_n (am_cur_of (i := (216, 1, .aload_n 0, (0, 0, 0), 0)) (by decide +kernel)) g0_z hc_z
            replace hc_z := rn_getI (v := c) (am_cur_of (i := (217, 3, .getfield 168, (12, 9, 1393), 0)) (by decide +kernel)) (by decide +kernel) rfl hc_z
            replace hc_z := rn_bipush (w := 41) (am_cur_of (i := (220, 2, .bipush 41, (0, 0, 0), 0)) (by decide +kernel)) (by decide) hc_z
            replace hc_z := rn_cmp (am_cur_of (i := (222, 3, .if_icmp .eq 48, (133, 0, 0), 0)) (by decide +kernel)) hc_z
            rcases hc_z with ⟨b341_z, hc_z⟩ | ⟨b341_z, hc_z⟩
            · replace b341_z : c = (41 : Int32) ∧ c.toInt = (41 : Int32).toInt := b341_z
              replace hc_z := rn_iconst (w := 1) (am_cur_of (i := (270, 1, .iconst 1, (0, 0, 0), 0)) (by decide +kernel)) (by decide) hc_z
              replace hc_z := rn_goto (am_cur_of (i := (271, 3, .goto 4, (136, 0, 0), 0)) (by decide +kernel)) hc_z
              replace hc_z := rn_istore_n (am_cur_of (i := (275, 1, .istore_n 1, (0, 0, 0), 0)) (by decide +kernel)) hc_z
              obtain ⟨_, s342_z, s343_z, g1_z, hc_z⟩ := hc_z
              replace g0_z := s342_z 0 _ (by decide) rfl g0_z
              clear s342_z s343_z
              replace hc_z := rn_aload_n (am_cur_of (i := (276, 1, .aload_n 0, (0, 0, 0), 0)) (by decide +kernel)) g0_z hc_z
              replace hc_z := rn_iload_n (am_cur_of (i := (277, 1, .iload_n 1, (0, 0, 0), 0)) (by decide +kernel)) g1_z hc_z
              replace hc_z := rn_ifF (am_cur_of (i := (278, 3, .ifCond .eq 7, (142, 0, 0), 0)) (by decide +kernel)) (by decide) hc_z
              replace hc_z := rn_iconst (w := 4) (am_cur_of (i := (281, 1, .iconst 4, (0, 0, 0), 0)) (by decide +kernel)) (by decide) hc_z
              replace hc_z := rn_goto (am_cur_of (i := (282, 3, .goto 5, (143, 0, 0), 0)) (by decide +kernel)) hc_z
              replace hc_z := rn_put (am_cur_of (i := (287, 3, .putfield 157, (12, 8, 1392), 0)) (by decide +kernel)) (by decide +kernel) hc_z
              replace hc_z := rn_vret (am_cur_of (i := (290, 1, .return_, (0, 0, 0), 0)) (by decide +kernel)) hc_z
              obtain ⟨e344_z, e345_z⟩ := hc_z
              have es_z : rt_sM c d = (4, c, 0) := by
                unfold rt_sM
                rw [if_neg (by rw [b341_z.1]; decide)]
                rw [if_neg (by rw [b341_z.1]; decide)]
                rw [if_neg (by rw [b341_z.1]; decide)]
                rw [if_neg (by rw [b341_z.1]; decide)]
                rw [if_neg (by rw [b341_z.1]; decide)]
                rw [if_neg (by rw [b341_z.1]; decide)]
                rw [if_neg (by rw [b341_z.1]; decide)]
                rw [if_pos (Or.inr (Or.inr b341_z.1))]
              subst e344_z e345_z
              rw [es_z]
              dsimp only
              refine ⟨rfl, ?_, ab_Fr_up (by decide) (ab_Fr_up (by decide) (ab_Fr_up (by decide) ab_Fr_refl)), rfl, rfl, rfl, ?_⟩
              · show rt_M T S (x + 1 + 0) _
                rw [Int32.add_zero]
                exact ⟨r2_z, rfl, by omega, by omega, r6_z, fun k hk_z => r7_z k hk_z, fun k hk_z => r8_z k hk_z⟩
              · exact (Int32.add_zero _).symm
            · replace b341_z : ¬ c = (41 : Int32) ∧ ¬ c.toInt = (41 : Int32).toInt := b341_z
              replace hc_z := rn_aload_n (am_cur_of (i := (225, 1, .aload_n 0, (0, 0, 0), 0)) (by decide +kernel)) g0_z hc_z
              replace hc_z := rn_getI (v := c) (am_cur_of (i := (226, 3, .getfield 168, (12, 9, 1393), 0)) (by decide +kernel)) (by decide +kernel) rfl hc_z
              replace hc_z := rn_bipush (w := 43) (am_cur_of (i := (229, 2, .bipush 43, (0, 0, 0), 0)) (by decide +kernel)) (by decide) hc_z
              replace hc_z := rn_cmp (am_cur_of (i := (231, 3, .if_icmp .eq 39, (133, 0, 0), 0)) (by decide +kernel)) hc_z
              rcases hc_z with ⟨b346_z, hc_z⟩ | ⟨b346_z, hc_z⟩
              · replace b346_z : c = (43 : Int32) ∧ c.toInt = (43 : Int32).toInt := b346_z
                replace hc_z := rn_iconst (w := 1) (am_cur_of (i := (270, 1, .iconst 1, (0, 0, 0), 0)) (by decide +kernel)) (by decide) hc_z
                replace hc_z := rn_goto (am_cur_of (i := (271, 3, .goto 4, (136, 0, 0), 0)) (by decide +kernel)) hc_z
                replace hc_z := rn_istore_n (am_cur_of (i := (275, 1, .istore_n 1, (0, 0, 0), 0)) (by decide +kernel)) hc_z
                obtain ⟨_, s347_z, s348_z, g1_z, hc_z⟩ := hc_z
                replace g0_z := s347_z 0 _ (by decide) rfl g0_z
                clear s347_z s348_z
                replace hc_z := rn_aload_n (am_cur_of (i := (276, 1, .aload_n 0, (0, 0, 0), 0)) (by decide +kernel)) g0_z hc_z
                replace hc_z := rn_iload_n (am_cur_of (i := (277, 1, .iload_n 1, (0, 0, 0), 0)) (by decide +kernel)) g1_z hc_z
                replace hc_z := rn_ifF (am_cur_of (i := (278, 3, .ifCond .eq 7, (142, 0, 0), 0)) (by decide +kernel)) (by decide) hc_z
                replace hc_z := rn_iconst (w := 4) (am_cur_of (i := (281, 1, .iconst 4, (0, 0, 0), 0)) (by decide +kernel)) (by decide) hc_z
                replace hc_z := rn_goto (am_cur_of (i := (282, 3, .goto 5, (143, 0, 0), 0)) (by decide +kernel)) hc_z
                replace hc_z := rn_put (am_cur_of (i := (287, 3, .putfield 157, (12, 8, 1392), 0)) (by decide +kernel)) (by decide +kernel) hc_z
                replace hc_z := rn_vret (am_cur_of (i := (290, 1, .return_, (0, 0, 0), 0)) (by decide +kernel)) hc_z
                obtain ⟨e349_z, e350_z⟩ := hc_z
                have es_z : rt_sM c d = (4, c, 0) := by
                  unfold rt_sM
                  rw [if_neg (by rw [b346_z.1]; decide)]
                  rw [if_neg (by rw [b346_z.1]; decide)]
                  rw [if_neg (by rw [b346_z.1]; decide)]
                  rw [if_pos b346_z.1]
                subst e349_z e350_z
                rw [es_z]
                dsimp only
                refine ⟨rfl, ?_, ab_Fr_up (by decide) (ab_Fr_up (by decide) (ab_Fr_up (by decide) ab_Fr_refl)), rfl, rfl, rfl, ?_⟩
                · show rt_M T S (x + 1 + 0) _
                  rw [Int32.add_zero]
                  exact ⟨r2_z, rfl, by omega, by omega, r6_z, fun k hk_z => r7_z k hk_z, fun k hk_z => r8_z k hk_z⟩
                · exact (Int32.add_zero _).symm
              · replace b346_z : ¬ c = (43 : Int32) ∧ ¬ c.toInt = (43 : Int32).toInt := b346_z
                replace hc_z := rn_aload_n (am_cur_of (i := (234, 1, .aload_n 0, (0, 0, 0), 0)) (by decide +kernel)) g0_z hc_z
                replace hc_z := rn_getI (v := c) (am_cur_of (i := (235, 3, .getfield 168, (12, 9, 1393), 0)) (by decide +kernel)) (by decide +kernel) rfl hc_z
                replace hc_z := rn_bipush (w := 45) (am_cur_of (i := (238, 2, .bipush 45, (0, 0, 0), 0)) (by decide +kernel)) (by decide) hc_z
                replace hc_z := rn_cmp (am_cur_of (i := (240, 3, .if_icmp .eq 30, (133, 0, 0), 0)) (by decide +kernel)) hc_z
                rcases hc_z with ⟨b351_z, hc_z⟩ | ⟨b351_z, hc_z⟩
                · replace b351_z : c = (45 : Int32) ∧ c.toInt = (45 : Int32).toInt := b351_z
                  replace hc_z := rn_iconst (w := 1) (am_cur_of (i := (270, 1, .iconst 1, (0, 0, 0), 0)) (by decide +kernel)) (by decide) hc_z
                  replace hc_z := rn_goto (am_cur_of (i := (271, 3, .goto 4, (136, 0, 0), 0)) (by decide +kernel)) hc_z
                  replace hc_z := rn_istore_n (am_cur_of (i := (275, 1, .istore_n 1, (0, 0, 0), 0)) (by decide +kernel)) hc_z
                  obtain ⟨_, s352_z, s353_z, g1_z, hc_z⟩ := hc_z
                  replace g0_z := s352_z 0 _ (by decide) rfl g0_z
                  clear s352_z s353_z
                  replace hc_z := rn_aload_n (am_cur_of (i := (276, 1, .aload_n 0, (0, 0, 0), 0)) (by decide +kernel)) g0_z hc_z
                  replace hc_z := rn_iload_n (am_cur_of (i := (277, 1, .iload_n 1, (0, 0, 0), 0)) (by decide +kernel)) g1_z hc_z
                  replace hc_z := rn_ifF (am_cur_of (i := (278, 3, .ifCond .eq 7, (142, 0, 0), 0)) (by decide +kernel)) (by decide) hc_z
                  replace hc_z := rn_iconst (w := 4) (am_cur_of (i := (281, 1, .iconst 4, (0, 0, 0), 0)) (by decide +kernel)) (by decide) hc_z
                  replace hc_z := rn_goto (am_cur_of (i := (282, 3, .goto 5, (143, 0, 0), 0)) (by decide +kernel)) hc_z
                  replace hc_z := rn_put (am_cur_of (i := (287, 3, .putfield 157, (12, 8, 1392), 0)) (by decide +kernel)) (by decide +kernel) hc_z
                  replace hc_z := rn_vret (am_cur_of (i := (290, 1, .return_, (0, 0, 0), 0)) (by decide +kernel)) hc_z
                  obtain ⟨e354_z, e355_z⟩ := hc_z
                  have es_z : rt_sM c d = (4, c, 0) := by
                    unfold rt_sM
                    rw [if_neg (by rw [b351_z.1]; decide)]
                    rw [if_neg (by rw [b351_z.1]; decide)]
                    rw [if_neg (by rw [b351_z.1]; decide)]
                    rw [if_neg (by rw [b351_z.1]; decide)]
                    rw [if_pos b351_z.1]
                  subst e354_z e355_z
                  rw [es_z]
                  dsimp only
                  refine ⟨rfl, ?_, ab_Fr_up (by decide) (ab_Fr_up (by decide) (ab_Fr_up (by decide) ab_Fr_refl)), rfl, rfl, rfl, ?_⟩
                  · show rt_M T S (x + 1 + 0) _
                    rw [Int32.add_zero]
                    exact ⟨r2_z, rfl, by omega, by omega, r6_z, fun k hk_z => r7_z k hk_z, fun k hk_z => r8_z k hk_z⟩
                  · exact (Int32.add_zero _).symm
                · replace b351_z : ¬ c = (45 : Int32) ∧ ¬ c.toInt = (45 : Int32).toInt := b351_z
                  replace hc_z := rn_aload_n (am_cur_of (i := (243, 1, .aload_n 0, (0, 0, 0), 0)) (by decide +kernel)) g0_z hc_z
                  replace hc_z := rn_getI (v := c) (am_cur_of (i := (244, 3, .getfield 168, (12, 9, 1393), 0)) (by decide +kernel)) (by decide +kernel) rfl hc_z
                  replace hc_z := rn_bipush (w := 42) (am_cur_of (i := (247, 2, .bipush 42, (0, 0, 0), 0)) (by decide +kernel)) (by decide) hc_z
                  replace hc_z := rn_cmp (am_cur_of (i := (249, 3, .if_icmp .eq 21, (133, 0, 0), 0)) (by decide +kernel)) hc_z
                  rcases hc_z with ⟨b356_z, hc_z⟩ | ⟨b356_z, hc_z⟩
                  · replace b356_z : c = (42 : Int32) ∧ c.toInt = (42 : Int32).toInt := b356_z
                    replace hc_z := rn_iconst (w := 1) (am_cur_of (i := (270, 1, .iconst 1, (0, 0, 0), 0)) (by decide +kernel)) (by decide) hc_z
                    replace hc_z := rn_goto (am_cur_of (i := (271, 3, .goto 4, (136, 0, 0), 0)) (by decide +kernel)) hc_z
                    replace hc_z := rn_istore_n (am_cur_of (i := (275, 1, .istore_n 1, (0, 0, 0), 0)) (by decide +kernel)) hc_z
                    obtain ⟨_, s357_z, s358_z, g1_z, hc_z⟩ := hc_z
                    replace g0_z := s357_z 0 _ (by decide) rfl g0_z
                    clear s357_z s358_z
                    replace hc_z := rn_aload_n (am_cur_of (i := (276, 1, .aload_n 0, (0, 0, 0), 0)) (by decide +kernel)) g0_z hc_z
                    replace hc_z := rn_iload_n (am_cur_of (i := (277, 1, .iload_n 1, (0, 0, 0), 0)) (by decide +kernel)) g1_z hc_z
                    replace hc_z := rn_ifF (am_cur_of (i := (278, 3, .ifCond .eq 7, (142, 0, 0), 0)) (by decide +kernel)) (by decide) hc_z
                    replace hc_z := rn_iconst (w := 4) (am_cur_of (i := (281, 1, .iconst 4, (0, 0, 0), 0)) (by decide +kernel)) (by decide) hc_z
                    replace hc_z := rn_goto (am_cur_of (i := (282, 3, .goto 5, (143, 0, 0), 0)) (by decide +kernel)) hc_z
                    replace hc_z := rn_put (am_cur_of (i := (287, 3, .putfield 157, (12, 8, 1392), 0)) (by decide +kernel)) (by decide +kernel) hc_z
                    replace hc_z := rn_vret (am_cur_of (i := (290, 1, .return_, (0, 0, 0), 0)) (by decide +kernel)) hc_z
                    obtain ⟨e359_z, e360_z⟩ := hc_z
                    have es_z : rt_sM c d = (4, c, 0) := by
                      unfold rt_sM
                      rw [if_neg (by rw [b356_z.1]; decide)]
                      rw [if_neg (by rw [b356_z.1]; decide)]
                      rw [if_neg (by rw [b356_z.1]; decide)]
                      rw [if_neg (by rw [b356_z.1]; decide)]
                      rw [if_neg (by rw [b356_z.1]; decide)]
                      rw [if_pos b356_z.1]
                    subst e359_z e360_z
                    rw [es_z]
                    dsimp only
                    refine ⟨rfl, ?_, ab_Fr_up (by decide) (ab_Fr_up (by decide) (ab_Fr_up (by decide) ab_Fr_refl)), rfl, rfl, rfl, ?_⟩
                    · show rt_M T S (x + 1 + 0) _
                      rw [Int32.add_zero]
                      exact ⟨r2_z, rfl, by omega, by omega, r6_z, fun k hk_z => r7_z k hk_z, fun k hk_z => r8_z k hk_z⟩
                    · exact (Int32.add_zero _).symm
                  · replace b356_z : ¬ c = (42 : Int32) ∧ ¬ c.toInt = (42 : Int32).toInt := b356_z
                    replace hc_z := rn_aload_n (am_cur_of (i := (252, 1, .aload_n 0, (0, 0, 0), 0)) (by decide +kernel)) g0_z hc_z
                    replace hc_z := rn_getI (v := c) (am_cur_of (i := (253, 3, .getfield 168, (12, 9, 1393), 0)) (by decide +kernel)) (by decide +kernel) rfl hc_z
                    replace hc_z := rn_bipush (w := 47) (am_cur_of (i := (256, 2, .bipush 47, (0, 0, 0), 0)) (by decide +kernel)) (by decide) hc_z
                    replace hc_z := rn_cmp (am_cur_of (i := (258, 3, .if_icmp .eq 12, (133, 0, 0), 0)) (by decide +kernel)) hc_z
                    rcases hc_z with ⟨b361_z, hc_z⟩ | ⟨b361_z, hc_z⟩
                    · replace b361_z : c = (47 : Int32) ∧ c.toInt = (47 : Int32).toInt := b361_z
                      replace hc_z := rn_iconst (w := 1) (am_cur_of (i := (270, 1, .iconst 1, (0, 0, 0), 0)) (by decide +kernel)) (by decide) hc_z
                      replace hc_z := rn_goto (am_cur_of (i := (271, 3, .goto 4, (136, 0, 0), 0)) (by decide +kernel)) hc_z
                      replace hc_z := rn_istore_n (am_cur_of (i := (275, 1, .istore_n 1, (0, 0, 0), 0)) (by decide +kernel)) hc_z
                      obtain ⟨_, s362_z, s363_z, g1_z, hc_z⟩ := hc_z
                      replace g0_z := s362_z 0 _ (by decide) rfl g0_z
                      clear s362_z s363_z
                      replace hc_z := rn_aload_n (am_cur_of (i := (276, 1, .aload_n 0, (0, 0, 0), 0)) (by decide +kernel)) g0_z hc_z
                      replace hc_z := rn_iload_n (am_cur_of (i := (277, 1, .iload_n 1, (0, 0, 0), 0)) (by decide +kernel)) g1_z hc_z
                      replace hc_z := rn_ifF (am_cur_of (i := (278, 3, .ifCond .eq 7, (142, 0, 0), 0)) (by decide +kernel)) (by decide) hc_z
                      replace hc_z := rn_iconst (w := 4) (am_cur_of (i := (281, 1, .iconst 4, (0, 0, 0), 0)) (by decide +kernel)) (by decide) hc_z
                      replace hc_z := rn_goto (am_cur_of (i := (282, 3, .goto 5, (143, 0, 0), 0)) (by decide +kernel)) hc_z
                      replace hc_z := rn_put (am_cur_of (i := (287, 3, .putfield 157, (12, 8, 1392), 0)) (by decide +kernel)) (by decide +kernel) hc_z
                      replace hc_z := rn_vret (am_cur_of (i := (290, 1, .return_, (0, 0, 0), 0)) (by decide +kernel)) hc_z
                      obtain ⟨e364_z, e365_z⟩ := hc_z
                      have es_z : rt_sM c d = (4, c, 0) := by
                        unfold rt_sM
                        rw [if_neg (by rw [b361_z.1]; decide)]
                        rw [if_neg (by rw [b361_z.1]; decide)]
                        rw [if_neg (by rw [b361_z.1]; decide)]
                        rw [if_neg (by rw [b361_z.1]; decide)]
                        rw [if_neg (by rw [b361_z.1]; decide)]
                        rw [if_neg (by rw [b361_z.1]; decide)]
                        rw [if_pos b361_z.1]
                      subst e364_z e365_z
                      rw [es_z]
                      dsimp only
                      refine ⟨rfl, ?_, ab_Fr_up (by decide) (ab_Fr_up (by decide) (ab_Fr_up (by decide) ab_Fr_refl)), rfl, rfl, rfl, ?_⟩
                      · show rt_M T S (x + 1 + 0) _
                        rw [Int32.add_zero]
                        exact ⟨r2_z, rfl, by omega, by omega, r6_z, fun k hk_z => r7_z k hk_z, fun k hk_z => r8_z k hk_z⟩
                      · exact (Int32.add_zero _).symm
                    · replace b361_z : ¬ c = (47 : Int32) ∧ ¬ c.toInt = (47 : Int32).toInt := b361_z
                      replace hc_z := rn_aload_n (am_cur_of (i := (261, 1, .aload_n 0, (0, 0, 0), 0)) (by decide +kernel)) g0_z hc_z
                      replace hc_z := rn_getI (v := c) (am_cur_of (i := (262, 3, .getfield 168, (12, 9, 1393), 0)) (by decide +kernel)) (by decide +kernel) rfl hc_z
                      replace hc_z := rn_bipush (w := 37) (am_cur_of (i := (265, 2, .bipush 37, (0, 0, 0), 0)) (by decide +kernel)) (by decide) hc_z
                      replace hc_z := rn_cmp (am_cur_of (i := (267, 3, .if_icmp .ne 7, (135, 0, 0), 0)) (by decide +kernel)) hc_z
                      rcases hc_z with ⟨b366_z, hc_z⟩ | ⟨b366_z, hc_z⟩
                      · replace b366_z : ¬ c = (37 : Int32) ∧ ¬ c.toInt = (37 : Int32).toInt := b366_z
                        replace hc_z := rn_iconst (w := 0) (am_cur_of (i := (274, 1, .iconst 0, (0, 0, 0), 0)) (by decide +kernel)) (by decide) hc_z
                        replace hc_z := rn_istore_n (am_cur_of (i := (275, 1, .istore_n 1, (0, 0, 0), 0)) (by decide +kernel)) hc_z
                        obtain ⟨_, s367_z, s368_z, g1_z, hc_z⟩ := hc_z
                        replace g0_z := s367_z 0 _ (by decide) rfl g0_z
                        clear s367_z s368_z
                        replace hc_z := rn_aload_n (am_cur_of (i := (276, 1, .aload_n 0, (0, 0, 0), 0)) (by decide +kernel)) g0_z hc_z
                        replace hc_z := rn_iload_n (am_cur_of (i := (277, 1, .iload_n 1, (0, 0, 0), 0)) (by decide +kernel)) g1_z hc_z
                        replace hc_z := rn_ifT (am_cur_of (i := (278, 3, .ifCond .eq 7, (142, 0, 0), 0)) (by decide +kernel)) (by decide) hc_z
                        replace hc_z := rn_bipush (w := 6) (am_cur_of (i := (285, 2, .bipush 6, (0, 0, 0), 0)) (by decide +kernel)) (by decide) hc_z
                        replace hc_z := rn_put (am_cur_of (i := (287, 3, .putfield 157, (12, 8, 1392), 0)) (by decide +kernel)) (by decide +kernel) hc_z
                        replace hc_z := rn_vret (am_cur_of (i := (290, 1, .return_, (0, 0, 0), 0)) (by decide +kernel)) hc_z
                        obtain ⟨e369_z, e370_z⟩ := hc_z
                        have es_z : rt_sM c d = (6, c, 0) := by
                          unfold rt_sM
                          rw [if_neg b248_z.1]
                          rw [if_neg b293_z.1]
                          rw [if_neg b330_z.1]
                          rw [if_neg b346_z.1]
                          rw [if_neg b351_z.1]
                          rw [if_neg b356_z.1]
                          rw [if_neg b361_z.1]
                          rw [if_neg (fun q => q.elim b331_z.1 (fun q => q.elim b336_z.1 b341_z.1))]
                          rw [if_neg b366_z.1]
                        subst e369_z e370_z
                        rw [es_z]
                        dsimp only
                        refine ⟨rfl, ?_, ab_Fr_up (by decide) (ab_Fr_up (by decide) (ab_Fr_up (by decide) ab_Fr_refl)), rfl, rfl, rfl, ?_⟩
                        · show rt_M T S (x + 1 + 0) _
                          rw [Int32.add_zero]
                          exact ⟨r2_z, rfl, by omega, by omega, r6_z, fun k hk_z => r7_z k hk_z, fun k hk_z => r8_z k hk_z⟩
                        · exact (Int32.add_zero _).symm
                      · replace b366_z : c = (37 : Int32) ∧ c.toInt = (37 : Int32).toInt := b366_z
                        replace hc_z := rn_iconst (w := 1) (am_cur_of (i := (270, 1, .iconst 1, (0, 0, 0), 0)) (by decide +kernel)) (by decide) hc_z
                        replace hc_z := rn_goto (am_cur_of (i := (271, 3, .goto 4, (136, 0, 0), 0)) (by decide +kernel)) hc_z
                        replace hc_z := rn_istore_n (am_cur_of (i := (275, 1, .istore_n 1, (0, 0, 0), 0)) (by decide +kernel)) hc_z
                        obtain ⟨_, s371_z, s372_z, g1_z, hc_z⟩ := hc_z
                        replace g0_z := s371_z 0 _ (by decide) rfl g0_z
                        clear s371_z s372_z
                        replace hc_z := rn_aload_n (am_cur_of (i := (276, 1, .aload_n 0, (0, 0, 0), 0)) (by decide +kernel)) g0_z hc_z
                        replace hc_z := rn_iload_n (am_cur_of (i := (277, 1, .iload_n 1, (0, 0, 0), 0)) (by decide +kernel)) g1_z hc_z
                        replace hc_z := rn_ifF (am_cur_of (i := (278, 3, .ifCond .eq 7, (142, 0, 0), 0)) (by decide +kernel)) (by decide) hc_z
                        replace hc_z := rn_iconst (w := 4) (am_cur_of (i := (281, 1, .iconst 4, (0, 0, 0), 0)) (by decide +kernel)) (by decide) hc_z
                        replace hc_z := rn_goto (am_cur_of (i := (282, 3, .goto 5, (143, 0, 0), 0)) (by decide +kernel)) hc_z
                        replace hc_z := rn_put (am_cur_of (i := (287, 3, .putfield 157, (12, 8, 1392), 0)) (by decide +kernel)) (by decide +kernel) hc_z
                        replace hc_z := rn_vret (am_cur_of (i := (290, 1, .return_, (0, 0, 0), 0)) (by decide +kernel)) hc_z
                        obtain ⟨e373_z, e374_z⟩ := hc_z
                        have es_z : rt_sM c d = (4, c, 0) := by
                          unfold rt_sM
                          rw [if_neg (by rw [b366_z.1]; decide)]
                          rw [if_neg (by rw [b366_z.1]; decide)]
                          rw [if_neg (by rw [b366_z.1]; decide)]
                          rw [if_neg (by rw [b366_z.1]; decide)]
                          rw [if_neg (by rw [b366_z.1]; decide)]
                          rw [if_neg (by rw [b366_z.1]; decide)]
                          rw [if_neg (by rw [b366_z.1]; decide)]
                          rw [if_neg (fun q => q.elim (by rw [b366_z.1]; decide) (fun q => q.elim (by rw [b366_z.1]; decide) (by rw [b366_z.1]; decide)))]
                          rw [if_pos b366_z.1]
                        subst e373_z e374_z
                        rw [es_z]
                        dsimp only
                        refine ⟨rfl, ?_, ab_Fr_up (by decide) (ab_Fr_up (by decide) (ab_Fr_up (by decide) ab_Fr_refl)), rfl, rfl, rfl, ?_⟩
                        · show rt_M T S (x + 1 + 0) _
                          rw [Int32.add_zero]
                          exact ⟨r2_z, rfl, by omega, by omega, r6_z, fun k hk_z => r7_z k hk_z, fun k hk_z => r8_z k hk_z⟩
                        · exact (Int32.add_zero _).symm
      · replace b330_z : c = (61 : Int32) ∧ c.toInt = (61 : Int32).toInt := b330_z
        replace hc_z := rn_aload_n (am_cur_of (i := (50, 1, .aload_n 0, (0, 0, 0), 0)) (by decide +kernel)) g0_z hc_z
        replace hc_z := rn_getI (v := x + 1) (am_cur_of (i := (51, 3, .getfield 154, (12, 7, 1391), 0)) (by decide +kernel)) (by decide +kernel) rfl hc_z
        replace hc_z := rn_aload_n (am_cur_of (i := (54, 1, .aload_n 0, (0, 0, 0), 0)) (by decide +kernel)) g0_z hc_z
        replace hc_z := rn_getI (v := S) (am_cur_of (i := (55, 3, .getfield 151, (12, 6, 1390), 0)) (by decide +kernel)) (by decide +kernel) (show rg_v (am_up (am_up h 164 9 (.int c)) 164 7 (.int (x + 1))) 164 6 = S from r2_z) hc_z
        replace hc_z := rn_cmp (am_cur_of (i := (58, 3, .if_icmp .ge 15, (36, 0, 0), 0)) (by decide +kernel)) hc_z
        rcases hc_z with ⟨b375_z, hc_z⟩ | ⟨b375_z, hc_z⟩
        · replace b375_z : S.toInt ≤ (x + 1).toInt := b375_z
          replace hc_z := rn_iconst (w := 0) (am_cur_of (i := (73, 1, .iconst 0, (0, 0, 0), 0)) (by decide +kernel)) (by decide) hc_z
          replace hc_z := rn_istore_n (am_cur_of (i := (74, 1, .istore_n 1, (0, 0, 0), 0)) (by decide +kernel)) hc_z
          obtain ⟨_, s376_z, s377_z, g1_z, hc_z⟩ := hc_z
          replace g0_z := s376_z 0 _ (by decide) rfl g0_z
          clear s376_z s377_z
          replace hc_z := rn_aload_n (am_cur_of (i := (75, 1, .aload_n 0, (0, 0, 0), 0)) (by decide +kernel)) g0_z hc_z
          replace hc_z := rn_getI (v := c) (am_cur_of (i := (76, 3, .getfield 168, (12, 9, 1393), 0)) (by decide +kernel)) (by decide +kernel) rfl hc_z
          replace hc_z := rn_bipush (w := 61) (am_cur_of (i := (79, 2, .bipush 61, (0, 0, 0), 0)) (by decide +kernel)) (by decide) hc_z
          replace hc_z := rn_cmp (am_cur_of (i := (81, 3, .if_icmp .eq 13, (47, 0, 0), 0)) (by decide +kernel)) hc_z
          rcases hc_z with ⟨b378_z, hc_z⟩ | ⟨b378_z, hc_z⟩
          · replace b378_z : c = (61 : Int32) ∧ c.toInt = (61 : Int32).toInt := b378_z
            replace hc_z := rn_iconst (w := 0) (am_cur_of (i := (94, 1, .iconst 0, (0, 0, 0), 0)) (by decide +kernel)) (by decide) hc_z
            replace hc_z := rn_istore_n (am_cur_of (i := (95, 1, .istore_n 2, (0, 0, 0), 0)) (by decide +kernel)) hc_z
            obtain ⟨_, s379_z, s380_z, g2_z, hc_z⟩ := hc_z
            replace g0_z := s379_z 0 _ (by decide) rfl g0_z
            replace g1_z := s379_z 1 _ (by decide) rfl g1_z
            clear s379_z s380_z
            replace hc_z := rn_aload_n (am_cur_of (i := (96, 1, .aload_n 0, (0, 0, 0), 0)) (by decide +kernel)) g0_z hc_z
            replace hc_z := rn_getI (v := c) (am_cur_of (i := (97, 3, .getfield 168, (12, 9, 1393), 0)) (by decide +kernel)) (by decide +kernel) rfl hc_z
            replace hc_z := rn_bipush (w := 60) (am_cur_of (i := (100, 2, .bipush 60, (0, 0, 0), 0)) (by decide +kernel)) (by decide) hc_z
            replace hc_z := rn_cmp (am_cur_of (i := (102, 3, .if_icmp .ne 13, (58, 0, 0), 0)) (by decide +kernel)) hc_z
            rcases hc_z with ⟨b381_z, hc_z⟩ | ⟨b381_z, hc_z⟩
            · replace b381_z : ¬ c = (60 : Int32) ∧ ¬ c.toInt = (60 : Int32).toInt := b381_z
              replace hc_z := rn_iconst (w := 0) (am_cur_of (i := (115, 1, .iconst 0, (0, 0, 0), 0)) (by decide +kernel)) (by decide) hc_z
              replace hc_z := rn_istore_n (am_cur_of (i := (116, 1, .istore_n 3, (0, 0, 0), 0)) (by decide +kernel)) hc_z
              obtain ⟨_, s382_z, s383_z, g3_z, hc_z⟩ := hc_z
              replace g0_z := s382_z 0 _ (by decide) rfl g0_z
              replace g1_z := s382_z 1 _ (by decide) rfl g1_z
              replace g2_z := s382_z 2 _ (by decide) rfl g2_z
              clear s382_z s383_z
              replace hc_z := rn_iload_n (am_cur_of (i := (117, 1, .iload_n 2, (0, 0, 0), 0)) (by decide +kernel)) g2_z hc_z
              replace hc_z := rn_ifF (am_cur_of (i := (118, 3, .ifCond .ne 7, (64, 0, 0), 0)) (by decide +kernel)) (by decide) hc_z
              replace hc_z := rn_iload_n (am_cur_of (i := (121, 1, .iload_n 3, (0, 0, 0), 0)) (by decide +kernel)) g3_z hc_z
              replace hc_z := rn_ifT (am_cur_of (i := (122, 3, .ifCond .eq 13, (70, 0, 0), 0)) (by decide +kernel)) (by decide) hc_z
              replace hc_z := rn_aload_n (am_cur_of (i := (135, 1, .aload_n 0, (0, 0, 0), 0)) (by decide +kernel)) g0_z hc_z
              replace hc_z := rn_iconst (w := 5) (am_cur_of (i := (136, 1, .iconst 5, (0, 0, 0), 0)) (by decide +kernel)) (by decide) hc_z
              replace hc_z := rn_put (am_cur_of (i := (137, 3, .putfield 157, (12, 8, 1392), 0)) (by decide +kernel)) (by decide +kernel) hc_z
              replace hc_z := rn_aload_n (am_cur_of (i := (140, 1, .aload_n 0, (0, 0, 0), 0)) (by decide +kernel)) g0_z hc_z
              replace hc_z := rn_aload_n (am_cur_of (i := (141, 1, .aload_n 0, (0, 0, 0), 0)) (by decide +kernel)) g0_z hc_z
              replace hc_z := rn_getI (v := c) (am_cur_of (i := (142, 3, .getfield 168, (12, 9, 1393), 0)) (by decide +kernel)) (by decide +kernel) rfl hc_z
              replace hc_z := rn_bipush (w := 61) (am_cur_of (i := (145, 2, .bipush 61, (0, 0, 0), 0)) (by decide +kernel)) (by decide) hc_z
              replace hc_z := rn_cmp (am_cur_of (i := (147, 3, .if_icmp .ne 7, (80, 0, 0), 0)) (by decide +kernel)) hc_z
              rcases hc_z with ⟨b384_z, hc_z⟩ | ⟨b384_z, hc_z⟩
              · replace b384_z : ¬ c = (61 : Int32) ∧ ¬ c.toInt = (61 : Int32).toInt := b384_z
                exact absurd b330_z.1 b384_z.1
              · replace b384_z : c = (61 : Int32) ∧ c.toInt = (61 : Int32).toInt := b384_z
                replace hc_z := rn_iconst (w := 2) (am_cur_of (i := (150, 1, .iconst 2, (0, 0, 0), 0)) (by decide +kernel)) (by decide) hc_z
                replace hc_z := rn_goto (am_cur_of (i := (151, 3, .goto 41, (99, 0, 0), 0)) (by decide +kernel)) hc_z
                replace hc_z := rn_put (am_cur_of (i := (192, 3, .putfield 168, (12, 9, 1393), 0)) (by decide +kernel)) (by decide +kernel) hc_z
                replace hc_z := rn_goto (am_cur_of (i := (195, 3, .goto 95, (144, 0, 0), 0)) (by decide +kernel)) hc_z
                replace hc_z := rn_vret (am_cur_of (i := (290, 1, .return_, (0, 0, 0), 0)) (by decide +kernel)) hc_z
                obtain ⟨e385_z, e386_z⟩ := hc_z
                have d0_z : d = 0 := by rw [← ed_z]; exact rt_nx_out (by omega)
                have es_z : rt_sM c d = (5, 2, 0) := by
                  unfold rt_sM
                  rw [if_neg (by rw [b384_z.1]; decide)]
                  rw [if_neg (by rw [b384_z.1]; decide)]
                  rw [if_pos b384_z.1]
                subst e385_z e386_z
                rw [es_z]
                dsimp only
                refine ⟨rfl, ?_, ab_Fr_up (by decide) (ab_Fr_up (by decide) (ab_Fr_up (by decide) (ab_Fr_up (by decide) ab_Fr_refl))), rfl, rfl, rfl, ?_⟩
                · show rt_M T S (x + 1 + 0) _
                  rw [Int32.add_zero]
                  exact ⟨r2_z, rfl, by omega, by omega, r6_z, fun k hk_z => r7_z k hk_z, fun k hk_z => r8_z k hk_z⟩
                · exact (Int32.add_zero _).symm
            · replace b381_z : c = (60 : Int32) ∧ c.toInt = (60 : Int32).toInt := b381_z
              exact absurd (b330_z.1.symm.trans b381_z.1) (by decide)
          · replace b378_z : ¬ c = (61 : Int32) ∧ ¬ c.toInt = (61 : Int32).toInt := b378_z
            exact absurd b330_z.1 b378_z.1
        · replace b375_z : (x + 1).toInt < S.toInt := b375_z
          replace hc_z := rn_aload_n (am_cur_of (i := (61, 1, .aload_n 0, (0, 0, 0), 0)) (by decide +kernel)) g0_z hc_z
          replace hc_z := rn_getR (x := 165) (am_cur_of (i := (62, 3, .getfield 7, (12, 0, 1384), 0)) (by decide +kernel)) (by decide +kernel) hc_z
          replace hc_z := rn_aload_n (am_cur_of (i := (65, 1, .aload_n 0, (0, 0, 0), 0)) (by decide +kernel)) g0_z hc_z
          replace hc_z := rn_getI (v := x + 1) (am_cur_of (i := (66, 3, .getfield 154, (12, 7, 1391), 0)) (by decide +kernel)) (by decide +kernel) rfl hc_z
          replace hc_z := rn_iaload (N := 700) (q := (x + 1).toNatClampNeg) (v := d) (am_cur_of (i := (69, 1, .iaload, (0, 0, 0), 0)) (by decide +kernel)) (by decide +kernel) rfl (show rg_v (am_up (am_up h 164 9 (.int c)) 164 7 (.int (x + 1))) 165 ((x + 1).toNatClampNeg) = d from (by rw [← ed_z, rt_nx_in (by omega), show x.toNatClampNeg + 1 = (x + 1).toNatClampNeg by omega]; exact r7_z _ (by omega))) hc_z
          obtain ⟨p387_z, hc_z⟩ := hc_z
          replace hc_z := rn_goto (am_cur_of (i := (70, 3, .goto 4, (37, 0, 0), 0)) (by decide +kernel)) hc_z
          replace hc_z := rn_istore_n (am_cur_of (i := (74, 1, .istore_n 1, (0, 0, 0), 0)) (by decide +kernel)) hc_z
          obtain ⟨_, s388_z, s389_z, g1_z, hc_z⟩ := hc_z
          replace g0_z := s388_z 0 _ (by decide) rfl g0_z
          clear s388_z s389_z
          replace hc_z := rn_aload_n (am_cur_of (i := (75, 1, .aload_n 0, (0, 0, 0), 0)) (by decide +kernel)) g0_z hc_z
          replace hc_z := rn_getI (v := c) (am_cur_of (i := (76, 3, .getfield 168, (12, 9, 1393), 0)) (by decide +kernel)) (by decide +kernel) rfl hc_z
          replace hc_z := rn_bipush (w := 61) (am_cur_of (i := (79, 2, .bipush 61, (0, 0, 0), 0)) (by decide +kernel)) (by decide) hc_z
          replace hc_z := rn_cmp (am_cur_of (i := (81, 3, .if_icmp .eq 13, (47, 0, 0), 0)) (by decide +kernel)) hc_z
          rcases hc_z with ⟨b390_z, hc_z⟩ | ⟨b390_z, hc_z⟩
          · replace b390_z : c = (61 : Int32) ∧ c.toInt = (61 : Int32).toInt := b390_z
            replace hc_z := rn_iconst (w := 0) (am_cur_of (i := (94, 1, .iconst 0, (0, 0, 0), 0)) (by decide +kernel)) (by decide) hc_z
            replace hc_z := rn_istore_n (am_cur_of (i := (95, 1, .istore_n 2, (0, 0, 0), 0)) (by decide +kernel)) hc_z
            obtain ⟨_, s391_z, s392_z, g2_z, hc_z⟩ := hc_z
            replace g0_z := s391_z 0 _ (by decide) rfl g0_z
            replace g1_z := s391_z 1 _ (by decide) rfl g1_z
            clear s391_z s392_z
            replace hc_z := rn_aload_n (am_cur_of (i := (96, 1, .aload_n 0, (0, 0, 0), 0)) (by decide +kernel)) g0_z hc_z
            replace hc_z := rn_getI (v := c) (am_cur_of (i := (97, 3, .getfield 168, (12, 9, 1393), 0)) (by decide +kernel)) (by decide +kernel) rfl hc_z
            replace hc_z := rn_bipush (w := 60) (am_cur_of (i := (100, 2, .bipush 60, (0, 0, 0), 0)) (by decide +kernel)) (by decide) hc_z
            replace hc_z := rn_cmp (am_cur_of (i := (102, 3, .if_icmp .ne 13, (58, 0, 0), 0)) (by decide +kernel)) hc_z
            rcases hc_z with ⟨b393_z, hc_z⟩ | ⟨b393_z, hc_z⟩
            · replace b393_z : ¬ c = (60 : Int32) ∧ ¬ c.toInt = (60 : Int32).toInt := b393_z
              replace hc_z := rn_iconst (w := 0) (am_cur_of (i := (115, 1, .iconst 0, (0, 0, 0), 0)) (by decide +kernel)) (by decide) hc_z
              replace hc_z := rn_istore_n (am_cur_of (i := (116, 1, .istore_n 3, (0, 0, 0), 0)) (by decide +kernel)) hc_z
              obtain ⟨_, s394_z, s395_z, g3_z, hc_z⟩ := hc_z
              replace g0_z := s394_z 0 _ (by decide) rfl g0_z
              replace g1_z := s394_z 1 _ (by decide) rfl g1_z
              replace g2_z := s394_z 2 _ (by decide) rfl g2_z
              clear s394_z s395_z
              replace hc_z := rn_iload_n (am_cur_of (i := (117, 1, .iload_n 2, (0, 0, 0), 0)) (by decide +kernel)) g2_z hc_z
              replace hc_z := rn_ifF (am_cur_of (i := (118, 3, .ifCond .ne 7, (64, 0, 0), 0)) (by decide +kernel)) (by decide) hc_z
              replace hc_z := rn_iload_n (am_cur_of (i := (121, 1, .iload_n 3, (0, 0, 0), 0)) (by decide +kernel)) g3_z hc_z
              replace hc_z := rn_ifT (am_cur_of (i := (122, 3, .ifCond .eq 13, (70, 0, 0), 0)) (by decide +kernel)) (by decide) hc_z
              replace hc_z := rn_aload_n (am_cur_of (i := (135, 1, .aload_n 0, (0, 0, 0), 0)) (by decide +kernel)) g0_z hc_z
              replace hc_z := rn_iconst (w := 5) (am_cur_of (i := (136, 1, .iconst 5, (0, 0, 0), 0)) (by decide +kernel)) (by decide) hc_z
              replace hc_z := rn_put (am_cur_of (i := (137, 3, .putfield 157, (12, 8, 1392), 0)) (by decide +kernel)) (by decide +kernel) hc_z
              replace hc_z := rn_aload_n (am_cur_of (i := (140, 1, .aload_n 0, (0, 0, 0), 0)) (by decide +kernel)) g0_z hc_z
              replace hc_z := rn_aload_n (am_cur_of (i := (141, 1, .aload_n 0, (0, 0, 0), 0)) (by decide +kernel)) g0_z hc_z
              replace hc_z := rn_getI (v := c) (am_cur_of (i := (142, 3, .getfield 168, (12, 9, 1393), 0)) (by decide +kernel)) (by decide +kernel) rfl hc_z
              replace hc_z := rn_bipush (w := 61) (am_cur_of (i := (145, 2, .bipush 61, (0, 0, 0), 0)) (by decide +kernel)) (by decide) hc_z
              replace hc_z := rn_cmp (am_cur_of (i := (147, 3, .if_icmp .ne 7, (80, 0, 0), 0)) (by decide +kernel)) hc_z
              rcases hc_z with ⟨b396_z, hc_z⟩ | ⟨b396_z, hc_z⟩
              · replace b396_z : ¬ c = (61 : Int32) ∧ ¬ c.toInt = (61 : Int32).toInt := b396_z
                exact absurd b330_z.1 b396_z.1
              · replace b396_z : c = (61 : Int32) ∧ c.toInt = (61 : Int32).toInt := b396_z
                replace hc_z := rn_iconst (w := 2) (am_cur_of (i := (150, 1, .iconst 2, (0, 0, 0), 0)) (by decide +kernel)) (by decide) hc_z
                replace hc_z := rn_goto (am_cur_of (i := (151, 3, .goto 41, (99, 0, 0), 0)) (by decide +kernel)) hc_z
                replace hc_z := rn_put (am_cur_of (i := (192, 3, .putfield 168, (12, 9, 1393), 0)) (by decide +kernel)) (by decide +kernel) hc_z
                replace hc_z := rn_goto (am_cur_of (i := (195, 3, .goto 95, (144, 0, 0), 0)) (by decide +kernel)) hc_z
                replace hc_z := rn_vret (am_cur_of (i := (290, 1, .return_, (0, 0, 0), 0)) (by decide +kernel)) hc_z
                obtain ⟨e397_z, e398_z⟩ := hc_z
                have es_z : rt_sM c d = (5, 2, 0) := by
                  unfold rt_sM
                  rw [if_neg (by rw [b396_z.1]; decide)]
                  rw [if_neg (by rw [b396_z.1]; decide)]
                  rw [if_pos b396_z.1]
                subst e397_z e398_z
                rw [es_z]
                dsimp only
                refine ⟨rfl, ?_, ab_Fr_up (by decide) (ab_Fr_up (by decide) (ab_Fr_up (by decide) (ab_Fr_up (by decide) ab_Fr_refl))), rfl, rfl, rfl, ?_⟩
                · show rt_M T S (x + 1 + 0) _
                  rw [Int32.add_zero]
                  exact ⟨r2_z, rfl, by omega, by omega, r6_z, fun k hk_z => r7_z k hk_z, fun k hk_z => r8_z k hk_z⟩
                · exact (Int32.add_zero _).symm
            · replace b393_z : c = (60 : Int32) ∧ c.toInt = (60 : Int32).toInt := b393_z
              exact absurd (b330_z.1.symm.trans b393_z.1) (by decide)
          · replace b390_z : ¬ c = (61 : Int32) ∧ ¬ c.toInt = (61 : Int32).toInt := b390_z
            exact absurd b330_z.1 b390_z.1
