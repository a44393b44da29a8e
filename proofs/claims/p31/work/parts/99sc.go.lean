/-! ===== WHAT A LAW'S WORTH LEAVES IN THE CLASS; SECONDS THAT GO BY (wip/r/gen99sc.py) ===== -/
def wB (o : Nat) : Bool := Nat.beq o 17 || Nat.beq o 18 || Nat.beq o 38 || Nat.beq o 39
def wk (g g' : am_H) : Prop := ∀ o k, wB o = false → g' o k = g o k
theorem wk_r {g : am_H} : wk g g := fun _ _ _ => rfl
theorem wk_t {g g' g'' : am_H} (a : wk g g') (b : wk g' g'') : wk g g'' := fun o k e => (b o k e).trans (a o k e)
theorem wk_u {g g' : am_H} {o k : Nat} {v : Value} (hb_z : wB o = true) (a : wk g g') : wk g (am_up g' o k v) := fun o' k' e => (up_ne (fun q => by rw [q.1, hb_z] at e; cases e)).trans (a o' k' e)
theorem wd_b {g g' : am_H} {p : Nat} (b : wk g g') (T : g 148 0 = .ref p) : g' 148 0 = .ref p := (b 148 0 rfl).trans T
theorem wq_67_L {r : Option Value} {g' : am_H} {c : Int32} {x : Int64} {y : Int64}  : ∀ f : Nat, (∀ (ls : am_L) (g : am_H), rn f am_m67 36 ls [] g r g' → wk g g') ∧ (∀ (ls : am_L) (g : am_H), rn f am_m67 60 ls [] g r g' → wk g g') ∧ (∀ (ls : am_L) (g : am_H), rn f am_m67 74 ls [] g r g' → wk g g') := by
  intro f
  induction f with
  | zero =>
    exact ⟨fun _ _ hm_z => absurd hm_z rn_0, fun _ _ hm_z => absurd hm_z rn_0, fun _ _ hm_z => absurd hm_z rn_0⟩
  | succ f ih_z =>
    obtain ⟨I36, I60, I74⟩ := ih_z
    have H74 : ∀ (ls : am_L) (g : am_H), rn (f + 1) am_m67 74 ls [] g r g' → wk g g' := by
      intro ls g hm_z
      replace hm_z := rn_lconst (w := 0) (am_cur_of (i := (181, 1, .lconst 0, (0, 0, 0), 0)) (by decide +kernel)) rfl hm_z
      replace hm_z := rn_lret (am_cur_of (i := (182, 1, .lreturn, (0, 0, 0), 0)) (by decide +kernel)) hm_z
      obtain ⟨e1_z, e2_z⟩ := hm_z
      rw [e2_z]
      exact wk_r
    have H60 : ∀ (ls : am_L) (g : am_H), rn (f + 1) am_m67 60 ls [] g r g' → wk g g' := by
      intro ls g hm_z
      replace hm_z := rn_lconst (w := 1) (am_cur_of (i := (159, 1, .lconst 1, (0, 0, 0), 0)) (by decide +kernel)) rfl hm_z
      replace hm_z := rn_goto (am_cur_of (i := (160, 3, .goto 4, (63, 0, 0), 0)) (by decide +kernel)) hm_z
      replace hm_z := rn_lret (am_cur_of (i := (164, 1, .lreturn, (0, 0, 0), 0)) (by decide +kernel)) hm_z
      obtain ⟨e3_z, e4_z⟩ := hm_z
      rw [e4_z]
      exact wk_r
    have H36 : ∀ (ls : am_L) (g : am_H), rn (f + 1) am_m67 36 ls [] g r g' → wk g g' := by
      intro ls g hm_z
      replace hm_z := rn_ldc2 (w := (-9223372036854775808)) (am_cur_of (i := (121, 3, .ldc2_w 42, (0, 0, 929), (-9223372036854775808))) (by decide +kernel)) (by decide) hm_z
      replace hm_z := rn_goto (am_cur_of (i := (124, 3, .goto 6, (41, 0, 0), 0)) (by decide +kernel)) hm_z
      replace hm_z := rn_lret (am_cur_of (i := (130, 1, .lreturn, (0, 0, 0), 0)) (by decide +kernel)) hm_z
      obtain ⟨e5_z, e6_z⟩ := hm_z
      rw [e6_z]
      exact wk_r
    exact ⟨H36, H60, H74⟩
theorem wq_67 {nst : Nat} {r : Option Value} {g g' : am_H} {c : Int32} {x : Int64} {y : Int64}  (hm_z : rn nst am_m67 0 (lv_args 0 [.int c, .long x, .long y]) [] g r g') : wk g g' := by
  have z0_z : (0 : Int32).toInt = 0 := by decide
  have g0_z : am_get (lv_args 0 [.int c, .long x, .long y]) 0 = some (.int c) := rfl
  have g1_z : am_get (lv_args 0 [.int c, .long x, .long y]) 1 = some (.long x) := rfl
  have g3_z : am_get (lv_args 0 [.int c, .long x, .long y]) 3 = some (.long y) := rfl
  replace hm_z := rn_iload_n (am_cur_of (i := (0, 1, .iload_n 0, (0, 0, 0), 0)) (by decide +kernel)) g0_z hm_z
  by_cases v7_z : c = 3
  · replace hm_z := rn_swI (off := 146) (a := 52) (am_cur_of (i := (1, 67, .tableswitch 242 3 15 #[146, 164, 242, 182, 194, 206, 218, 230, 242, 67, 71, 75, 130], (0, 0, 0), 0)) (by decide +kernel)) (by rw [v7_z]; decide) (by rw [v7_z]; decide) (by decide +kernel) hm_z
    replace hm_z := rn_lload_n (am_cur_of (i := (147, 1, .lload_n 1, (0, 0, 0), 0)) (by decide +kernel)) g1_z hm_z
    replace hm_z := rn_lconst (w := 0) (am_cur_of (i := (148, 1, .lconst 0, (0, 0, 0), 0)) (by decide +kernel)) rfl hm_z
    replace hm_z := rn_lcmp (w := lg_cmp x 0) (am_cur_of (i := (149, 1, .lcmp, (0, 0, 0), 0)) (by decide +kernel)) rfl hm_z
    replace hm_z := rn_if (am_cur_of (i := (150, 3, .ifCond .ne 9, (60, 0, 0), 0)) (by decide +kernel)) hm_z
    rcases hm_z with ⟨b8_z, hm_z⟩ | ⟨b8_z, hm_z⟩
    · replace b8_z : ¬ (lg_cmp x 0) = (0 : Int32) ∧ ¬ (lg_cmp x 0).toInt = (0 : Int32).toInt := b8_z
      have H60 := (wq_67_L (r := r) (g' := g') (c := c) (x := x) (y := y)  nst).2.1
      exact wk_t wk_r (H60 _ _ hm_z)
    · replace b8_z : (lg_cmp x 0) = (0 : Int32) ∧ (lg_cmp x 0).toInt = (0 : Int32).toInt := b8_z
      replace hm_z := rn_lload_n (am_cur_of (i := (153, 1, .lload_n 3, (0, 0, 0), 0)) (by decide +kernel)) g3_z hm_z
      replace hm_z := rn_lconst (w := 0) (am_cur_of (i := (154, 1, .lconst 0, (0, 0, 0), 0)) (by decide +kernel)) rfl hm_z
      replace hm_z := rn_lcmp (w := lg_cmp y 0) (am_cur_of (i := (155, 1, .lcmp, (0, 0, 0), 0)) (by decide +kernel)) rfl hm_z
      replace hm_z := rn_if (am_cur_of (i := (156, 3, .ifCond .eq 7, (62, 0, 0), 0)) (by decide +kernel)) hm_z
      rcases hm_z with ⟨b9_z, hm_z⟩ | ⟨b9_z, hm_z⟩
      · replace b9_z : (lg_cmp y 0) = (0 : Int32) ∧ (lg_cmp y 0).toInt = (0 : Int32).toInt := b9_z
        replace hm_z := rn_lconst (w := 0) (am_cur_of (i := (163, 1, .lconst 0, (0, 0, 0), 0)) (by decide +kernel)) rfl hm_z
        replace hm_z := rn_lret (am_cur_of (i := (164, 1, .lreturn, (0, 0, 0), 0)) (by decide +kernel)) hm_z
        obtain ⟨e10_z, e11_z⟩ := hm_z
        rw [e11_z]
        exact wk_r
      · replace b9_z : ¬ (lg_cmp y 0) = (0 : Int32) ∧ ¬ (lg_cmp y 0).toInt = (0 : Int32).toInt := b9_z
        have H60 := (wq_67_L (r := r) (g' := g') (c := c) (x := x) (y := y)  nst).2.1
        exact wk_t wk_r (H60 _ _ hm_z)
  by_cases v12_z : c = 4
  · replace hm_z := rn_swI (off := 164) (a := 64) (am_cur_of (i := (1, 67, .tableswitch 242 3 15 #[146, 164, 242, 182, 194, 206, 218, 230, 242, 67, 71, 75, 130], (0, 0, 0), 0)) (by decide +kernel)) (by rw [v12_z]; decide) (by rw [v12_z]; decide) (by decide +kernel) hm_z
    replace hm_z := rn_lload_n (am_cur_of (i := (165, 1, .lload_n 1, (0, 0, 0), 0)) (by decide +kernel)) g1_z hm_z
    replace hm_z := rn_lconst (w := 0) (am_cur_of (i := (166, 1, .lconst 0, (0, 0, 0), 0)) (by decide +kernel)) rfl hm_z
    replace hm_z := rn_lcmp (w := lg_cmp x 0) (am_cur_of (i := (167, 1, .lcmp, (0, 0, 0), 0)) (by decide +kernel)) rfl hm_z
    replace hm_z := rn_if (am_cur_of (i := (168, 3, .ifCond .eq 13, (74, 0, 0), 0)) (by decide +kernel)) hm_z
    rcases hm_z with ⟨b13_z, hm_z⟩ | ⟨b13_z, hm_z⟩
    · replace b13_z : (lg_cmp x 0) = (0 : Int32) ∧ (lg_cmp x 0).toInt = (0 : Int32).toInt := b13_z
      have H74 := (wq_67_L (r := r) (g' := g') (c := c) (x := x) (y := y)  nst).2.2
      exact wk_t wk_r (H74 _ _ hm_z)
    · replace b13_z : ¬ (lg_cmp x 0) = (0 : Int32) ∧ ¬ (lg_cmp x 0).toInt = (0 : Int32).toInt := b13_z
      replace hm_z := rn_lload_n (am_cur_of (i := (171, 1, .lload_n 3, (0, 0, 0), 0)) (by decide +kernel)) g3_z hm_z
      replace hm_z := rn_lconst (w := 0) (am_cur_of (i := (172, 1, .lconst 0, (0, 0, 0), 0)) (by decide +kernel)) rfl hm_z
      replace hm_z := rn_lcmp (w := lg_cmp y 0) (am_cur_of (i := (173, 1, .lcmp, (0, 0, 0), 0)) (by decide +kernel)) rfl hm_z
      replace hm_z := rn_if (am_cur_of (i := (174, 3, .ifCond .eq 7, (74, 0, 0), 0)) (by decide +kernel)) hm_z
      rcases hm_z with ⟨b14_z, hm_z⟩ | ⟨b14_z, hm_z⟩
      · replace b14_z : (lg_cmp y 0) = (0 : Int32) ∧ (lg_cmp y 0).toInt = (0 : Int32).toInt := b14_z
        have H74 := (wq_67_L (r := r) (g' := g') (c := c) (x := x) (y := y)  nst).2.2
        exact wk_t wk_r (H74 _ _ hm_z)
      · replace b14_z : ¬ (lg_cmp y 0) = (0 : Int32) ∧ ¬ (lg_cmp y 0).toInt = (0 : Int32).toInt := b14_z
        replace hm_z := rn_lconst (w := 1) (am_cur_of (i := (177, 1, .lconst 1, (0, 0, 0), 0)) (by decide +kernel)) rfl hm_z
        replace hm_z := rn_goto (am_cur_of (i := (178, 3, .goto 4, (75, 0, 0), 0)) (by decide +kernel)) hm_z
        replace hm_z := rn_lret (am_cur_of (i := (182, 1, .lreturn, (0, 0, 0), 0)) (by decide +kernel)) hm_z
        obtain ⟨e15_z, e16_z⟩ := hm_z
        rw [e16_z]
        exact wk_r
  by_cases v17_z : c = 6
  · replace hm_z := rn_swI (off := 182) (a := 76) (am_cur_of (i := (1, 67, .tableswitch 242 3 15 #[146, 164, 242, 182, 194, 206, 218, 230, 242, 67, 71, 75, 130], (0, 0, 0), 0)) (by decide +kernel)) (by rw [v17_z]; decide) (by rw [v17_z]; decide) (by decide +kernel) hm_z
    replace hm_z := rn_lload_n (am_cur_of (i := (183, 1, .lload_n 1, (0, 0, 0), 0)) (by decide +kernel)) g1_z hm_z
    replace hm_z := rn_lload_n (am_cur_of (i := (184, 1, .lload_n 3, (0, 0, 0), 0)) (by decide +kernel)) g3_z hm_z
    replace hm_z := rn_lcmp (w := lg_cmp x y) (am_cur_of (i := (185, 1, .lcmp, (0, 0, 0), 0)) (by decide +kernel)) rfl hm_z
    replace hm_z := rn_if (am_cur_of (i := (186, 3, .ifCond .ge 7, (82, 0, 0), 0)) (by decide +kernel)) hm_z
    rcases hm_z with ⟨b18_z, hm_z⟩ | ⟨b18_z, hm_z⟩
    · replace b18_z : (0 : Int32).toInt ≤ (lg_cmp x y).toInt := b18_z
      replace hm_z := rn_lconst (w := 0) (am_cur_of (i := (193, 1, .lconst 0, (0, 0, 0), 0)) (by decide +kernel)) rfl hm_z
      replace hm_z := rn_lret (am_cur_of (i := (194, 1, .lreturn, (0, 0, 0), 0)) (by decide +kernel)) hm_z
      obtain ⟨e19_z, e20_z⟩ := hm_z
      rw [e20_z]
      exact wk_r
    · replace b18_z : (lg_cmp x y).toInt < (0 : Int32).toInt := b18_z
      replace hm_z := rn_lconst (w := 1) (am_cur_of (i := (189, 1, .lconst 1, (0, 0, 0), 0)) (by decide +kernel)) rfl hm_z
      replace hm_z := rn_goto (am_cur_of (i := (190, 3, .goto 4, (83, 0, 0), 0)) (by decide +kernel)) hm_z
      replace hm_z := rn_lret (am_cur_of (i := (194, 1, .lreturn, (0, 0, 0), 0)) (by decide +kernel)) hm_z
      obtain ⟨e21_z, e22_z⟩ := hm_z
      rw [e22_z]
      exact wk_r
  by_cases v23_z : c = 7
  · replace hm_z := rn_swI (off := 194) (a := 84) (am_cur_of (i := (1, 67, .tableswitch 242 3 15 #[146, 164, 242, 182, 194, 206, 218, 230, 242, 67, 71, 75, 130], (0, 0, 0), 0)) (by decide +kernel)) (by rw [v23_z]; decide) (by rw [v23_z]; decide) (by decide +kernel) hm_z
    replace hm_z := rn_lload_n (am_cur_of (i := (195, 1, .lload_n 1, (0, 0, 0), 0)) (by decide +kernel)) g1_z hm_z
    replace hm_z := rn_lload_n (am_cur_of (i := (196, 1, .lload_n 3, (0, 0, 0), 0)) (by decide +kernel)) g3_z hm_z
    replace hm_z := rn_lcmp (w := lg_cmp x y) (am_cur_of (i := (197, 1, .lcmp, (0, 0, 0), 0)) (by decide +kernel)) rfl hm_z
    replace hm_z := rn_if (am_cur_of (i := (198, 3, .ifCond .gt 7, (90, 0, 0), 0)) (by decide +kernel)) hm_z
    rcases hm_z with ⟨b24_z, hm_z⟩ | ⟨b24_z, hm_z⟩
    · replace b24_z : (0 : Int32).toInt < (lg_cmp x y).toInt := b24_z
      replace hm_z := rn_lconst (w := 0) (am_cur_of (i := (205, 1, .lconst 0, (0, 0, 0), 0)) (by decide +kernel)) rfl hm_z
      replace hm_z := rn_lret (am_cur_of (i := (206, 1, .lreturn, (0, 0, 0), 0)) (by decide +kernel)) hm_z
      obtain ⟨e25_z, e26_z⟩ := hm_z
      rw [e26_z]
      exact wk_r
    · replace b24_z : (lg_cmp x y).toInt ≤ (0 : Int32).toInt := b24_z
      replace hm_z := rn_lconst (w := 1) (am_cur_of (i := (201, 1, .lconst 1, (0, 0, 0), 0)) (by decide +kernel)) rfl hm_z
      replace hm_z := rn_goto (am_cur_of (i := (202, 3, .goto 4, (91, 0, 0), 0)) (by decide +kernel)) hm_z
      replace hm_z := rn_lret (am_cur_of (i := (206, 1, .lreturn, (0, 0, 0), 0)) (by decide +kernel)) hm_z
      obtain ⟨e27_z, e28_z⟩ := hm_z
      rw [e28_z]
      exact wk_r
  by_cases v29_z : c = 8
  · replace hm_z := rn_swI (off := 206) (a := 92) (am_cur_of (i := (1, 67, .tableswitch 242 3 15 #[146, 164, 242, 182, 194, 206, 218, 230, 242, 67, 71, 75, 130], (0, 0, 0), 0)) (by decide +kernel)) (by rw [v29_z]; decide) (by rw [v29_z]; decide) (by decide +kernel) hm_z
    replace hm_z := rn_lload_n (am_cur_of (i := (207, 1, .lload_n 1, (0, 0, 0), 0)) (by decide +kernel)) g1_z hm_z
    replace hm_z := rn_lload_n (am_cur_of (i := (208, 1, .lload_n 3, (0, 0, 0), 0)) (by decide +kernel)) g3_z hm_z
    replace hm_z := rn_lcmp (w := lg_cmp x y) (am_cur_of (i := (209, 1, .lcmp, (0, 0, 0), 0)) (by decide +kernel)) rfl hm_z
    replace hm_z := rn_if (am_cur_of (i := (210, 3, .ifCond .ne 7, (98, 0, 0), 0)) (by decide +kernel)) hm_z
    rcases hm_z with ⟨b30_z, hm_z⟩ | ⟨b30_z, hm_z⟩
    · replace b30_z : ¬ (lg_cmp x y) = (0 : Int32) ∧ ¬ (lg_cmp x y).toInt = (0 : Int32).toInt := b30_z
      replace hm_z := rn_lconst (w := 0) (am_cur_of (i := (217, 1, .lconst 0, (0, 0, 0), 0)) (by decide +kernel)) rfl hm_z
      replace hm_z := rn_lret (am_cur_of (i := (218, 1, .lreturn, (0, 0, 0), 0)) (by decide +kernel)) hm_z
      obtain ⟨e31_z, e32_z⟩ := hm_z
      rw [e32_z]
      exact wk_r
    · replace b30_z : (lg_cmp x y) = (0 : Int32) ∧ (lg_cmp x y).toInt = (0 : Int32).toInt := b30_z
      replace hm_z := rn_lconst (w := 1) (am_cur_of (i := (213, 1, .lconst 1, (0, 0, 0), 0)) (by decide +kernel)) rfl hm_z
      replace hm_z := rn_goto (am_cur_of (i := (214, 3, .goto 4, (99, 0, 0), 0)) (by decide +kernel)) hm_z
      replace hm_z := rn_lret (am_cur_of (i := (218, 1, .lreturn, (0, 0, 0), 0)) (by decide +kernel)) hm_z
      obtain ⟨e33_z, e34_z⟩ := hm_z
      rw [e34_z]
      exact wk_r
  by_cases v35_z : c = 9
  · replace hm_z := rn_swI (off := 218) (a := 100) (am_cur_of (i := (1, 67, .tableswitch 242 3 15 #[146, 164, 242, 182, 194, 206, 218, 230, 242, 67, 71, 75, 130], (0, 0, 0), 0)) (by decide +kernel)) (by rw [v35_z]; decide) (by rw [v35_z]; decide) (by decide +kernel) hm_z
    replace hm_z := rn_lload_n (am_cur_of (i := (219, 1, .lload_n 1, (0, 0, 0), 0)) (by decide +kernel)) g1_z hm_z
    replace hm_z := rn_lload_n (am_cur_of (i := (220, 1, .lload_n 3, (0, 0, 0), 0)) (by decide +kernel)) g3_z hm_z
    replace hm_z := rn_lcmp (w := lg_cmp x y) (am_cur_of (i := (221, 1, .lcmp, (0, 0, 0), 0)) (by decide +kernel)) rfl hm_z
    replace hm_z := rn_if (am_cur_of (i := (222, 3, .ifCond .eq 7, (106, 0, 0), 0)) (by decide +kernel)) hm_z
    rcases hm_z with ⟨b36_z, hm_z⟩ | ⟨b36_z, hm_z⟩
    · replace b36_z : (lg_cmp x y) = (0 : Int32) ∧ (lg_cmp x y).toInt = (0 : Int32).toInt := b36_z
      replace hm_z := rn_lconst (w := 0) (am_cur_of (i := (229, 1, .lconst 0, (0, 0, 0), 0)) (by decide +kernel)) rfl hm_z
      replace hm_z := rn_lret (am_cur_of (i := (230, 1, .lreturn, (0, 0, 0), 0)) (by decide +kernel)) hm_z
      obtain ⟨e37_z, e38_z⟩ := hm_z
      rw [e38_z]
      exact wk_r
    · replace b36_z : ¬ (lg_cmp x y) = (0 : Int32) ∧ ¬ (lg_cmp x y).toInt = (0 : Int32).toInt := b36_z
      replace hm_z := rn_lconst (w := 1) (am_cur_of (i := (225, 1, .lconst 1, (0, 0, 0), 0)) (by decide +kernel)) rfl hm_z
      replace hm_z := rn_goto (am_cur_of (i := (226, 3, .goto 4, (107, 0, 0), 0)) (by decide +kernel)) hm_z
      replace hm_z := rn_lret (am_cur_of (i := (230, 1, .lreturn, (0, 0, 0), 0)) (by decide +kernel)) hm_z
      obtain ⟨e39_z, e40_z⟩ := hm_z
      rw [e40_z]
      exact wk_r
  by_cases v41_z : c = 10
  · replace hm_z := rn_swI (off := 230) (a := 108) (am_cur_of (i := (1, 67, .tableswitch 242 3 15 #[146, 164, 242, 182, 194, 206, 218, 230, 242, 67, 71, 75, 130], (0, 0, 0), 0)) (by decide +kernel)) (by rw [v41_z]; decide) (by rw [v41_z]; decide) (by decide +kernel) hm_z
    replace hm_z := rn_lload_n (am_cur_of (i := (231, 1, .lload_n 1, (0, 0, 0), 0)) (by decide +kernel)) g1_z hm_z
    replace hm_z := rn_lload_n (am_cur_of (i := (232, 1, .lload_n 3, (0, 0, 0), 0)) (by decide +kernel)) g3_z hm_z
    replace hm_z := rn_lcmp (w := lg_cmp x y) (am_cur_of (i := (233, 1, .lcmp, (0, 0, 0), 0)) (by decide +kernel)) rfl hm_z
    replace hm_z := rn_if (am_cur_of (i := (234, 3, .ifCond .lt 7, (114, 0, 0), 0)) (by decide +kernel)) hm_z
    rcases hm_z with ⟨b42_z, hm_z⟩ | ⟨b42_z, hm_z⟩
    · replace b42_z : (lg_cmp x y).toInt < (0 : Int32).toInt := b42_z
      replace hm_z := rn_lconst (w := 0) (am_cur_of (i := (241, 1, .lconst 0, (0, 0, 0), 0)) (by decide +kernel)) rfl hm_z
      replace hm_z := rn_lret (am_cur_of (i := (242, 1, .lreturn, (0, 0, 0), 0)) (by decide +kernel)) hm_z
      obtain ⟨e43_z, e44_z⟩ := hm_z
      rw [e44_z]
      exact wk_r
    · replace b42_z : (0 : Int32).toInt ≤ (lg_cmp x y).toInt := b42_z
      replace hm_z := rn_lconst (w := 1) (am_cur_of (i := (237, 1, .lconst 1, (0, 0, 0), 0)) (by decide +kernel)) rfl hm_z
      replace hm_z := rn_goto (am_cur_of (i := (238, 3, .goto 4, (115, 0, 0), 0)) (by decide +kernel)) hm_z
      replace hm_z := rn_lret (am_cur_of (i := (242, 1, .lreturn, (0, 0, 0), 0)) (by decide +kernel)) hm_z
      obtain ⟨e45_z, e46_z⟩ := hm_z
      rw [e46_z]
      exact wk_r
  by_cases v47_z : c = 12
  · replace hm_z := rn_swI (off := 67) (a := 2) (am_cur_of (i := (1, 67, .tableswitch 242 3 15 #[146, 164, 242, 182, 194, 206, 218, 230, 242, 67, 71, 75, 130], (0, 0, 0), 0)) (by decide +kernel)) (by rw [v47_z]; decide) (by rw [v47_z]; decide) (by decide +kernel) hm_z
    replace hm_z := rn_lload_n (am_cur_of (i := (68, 1, .lload_n 1, (0, 0, 0), 0)) (by decide +kernel)) g1_z hm_z
    replace hm_z := rn_lload_n (am_cur_of (i := (69, 1, .lload_n 3, (0, 0, 0), 0)) (by decide +kernel)) g3_z hm_z
    replace hm_z := rn_ladd (w := x + y) (am_cur_of (i := (70, 1, .ladd, (0, 0, 0), 0)) (by decide +kernel)) rfl hm_z
    replace hm_z := rn_lret (am_cur_of (i := (71, 1, .lreturn, (0, 0, 0), 0)) (by decide +kernel)) hm_z
    obtain ⟨e48_z, e49_z⟩ := hm_z
    rw [e49_z]
    exact wk_r
  by_cases v50_z : c = 13
  · replace hm_z := rn_swI (off := 71) (a := 6) (am_cur_of (i := (1, 67, .tableswitch 242 3 15 #[146, 164, 242, 182, 194, 206, 218, 230, 242, 67, 71, 75, 130], (0, 0, 0), 0)) (by decide +kernel)) (by rw [v50_z]; decide) (by rw [v50_z]; decide) (by decide +kernel) hm_z
    replace hm_z := rn_lload_n (am_cur_of (i := (72, 1, .lload_n 1, (0, 0, 0), 0)) (by decide +kernel)) g1_z hm_z
    replace hm_z := rn_lload_n (am_cur_of (i := (73, 1, .lload_n 3, (0, 0, 0), 0)) (by decide +kernel)) g3_z hm_z
    replace hm_z := rn_lsub (w := x - y) (am_cur_of (i := (74, 1, .lsub, (0, 0, 0), 0)) (by decide +kernel)) rfl hm_z
    replace hm_z := rn_lret (am_cur_of (i := (75, 1, .lreturn, (0, 0, 0), 0)) (by decide +kernel)) hm_z
    obtain ⟨e51_z, e52_z⟩ := hm_z
    rw [e52_z]
    exact wk_r
  by_cases v53_z : c = 14
  · replace hm_z := rn_swI (off := 75) (a := 10) (am_cur_of (i := (1, 67, .tableswitch 242 3 15 #[146, 164, 242, 182, 194, 206, 218, 230, 242, 67, 71, 75, 130], (0, 0, 0), 0)) (by decide +kernel)) (by rw [v53_z]; decide) (by rw [v53_z]; decide) (by decide +kernel) hm_z
    replace hm_z := rn_lload_n (am_cur_of (i := (76, 1, .lload_n 1, (0, 0, 0), 0)) (by decide +kernel)) g1_z hm_z
    replace hm_z := rn_lconst (w := 0) (am_cur_of (i := (77, 1, .lconst 0, (0, 0, 0), 0)) (by decide +kernel)) rfl hm_z
    replace hm_z := rn_lcmp (w := lg_cmp x 0) (am_cur_of (i := (78, 1, .lcmp, (0, 0, 0), 0)) (by decide +kernel)) rfl hm_z
    replace hm_z := rn_if (am_cur_of (i := (79, 3, .ifCond .ne 9, (16, 0, 0), 0)) (by decide +kernel)) hm_z
    rcases hm_z with ⟨b54_z, hm_z⟩ | ⟨b54_z, hm_z⟩
    · replace b54_z : ¬ (lg_cmp x 0) = (0 : Int32) ∧ ¬ (lg_cmp x 0).toInt = (0 : Int32).toInt := b54_z
      replace hm_z := rn_ldc2 (w := 1000000000000) (am_cur_of (i := (88, 3, .ldc2_w 48, (0, 0, 933), 1000000000000)) (by decide +kernel)) (by decide) hm_z
      replace hm_z := rn_lload_n (am_cur_of (i := (91, 1, .lload_n 1, (0, 0, 0), 0)) (by decide +kernel)) g1_z hm_z
      replace hm_z := rn_lconst (w := 0) (am_cur_of (i := (92, 1, .lconst 0, (0, 0, 0), 0)) (by decide +kernel)) rfl hm_z
      replace hm_z := rn_lcmp (w := lg_cmp x 0) (am_cur_of (i := (93, 1, .lcmp, (0, 0, 0), 0)) (by decide +kernel)) rfl hm_z
      replace hm_z := rn_if (am_cur_of (i := (94, 3, .ifCond .ge 8, (24, 0, 0), 0)) (by decide +kernel)) hm_z
      rcases hm_z with ⟨b55_z, hm_z⟩ | ⟨b55_z, hm_z⟩
      · replace b55_z : (0 : Int32).toInt ≤ (lg_cmp x 0).toInt := b55_z
        replace hm_z := rn_lload_n (am_cur_of (i := (102, 1, .lload_n 1, (0, 0, 0), 0)) (by decide +kernel)) g1_z hm_z
        replace hm_z := rn_ldiv (w := 1000000000000 / x) (am_cur_of (i := (103, 1, .ldiv, (0, 0, 0), 0)) (by decide +kernel)) rfl hm_z
        obtain ⟨d56_z, hm_z⟩ := hm_z
        replace hm_z := rn_lstore (am_cur_of (i := (104, 2, .lstore 5, (0, 0, 0), 0)) (by decide +kernel)) hm_z
        obtain ⟨_, s57_z, s58_z, g5_z, hm_z⟩ := hm_z
        replace g0_z := s57_z 0 _ (by decide) (by decide) rfl g0_z
        replace g1_z := s58_z 1 _ (by decide) (by decide) (by decide) g1_z
        replace g3_z := s58_z 3 _ (by decide) (by decide) (by decide) g3_z
        clear s57_z s58_z
        replace hm_z := rn_lload_n (am_cur_of (i := (106, 1, .lload_n 3, (0, 0, 0), 0)) (by decide +kernel)) g3_z hm_z
        replace hm_z := rn_lload (am_cur_of (i := (107, 2, .lload 5, (0, 0, 0), 0)) (by decide +kernel)) g5_z hm_z
        replace hm_z := rn_lcmp (w := lg_cmp y (1000000000000 / x)) (am_cur_of (i := (109, 1, .lcmp, (0, 0, 0), 0)) (by decide +kernel)) rfl hm_z
        replace hm_z := rn_if (am_cur_of (i := (110, 3, .ifCond .gt 11, (36, 0, 0), 0)) (by decide +kernel)) hm_z
        rcases hm_z with ⟨b59_z, hm_z⟩ | ⟨b59_z, hm_z⟩
        · replace b59_z : (0 : Int32).toInt < (lg_cmp y (1000000000000 / x)).toInt := b59_z
          have H36 := (wq_67_L (r := r) (g' := g') (c := c) (x := x) (y := y)  nst).1
          exact wk_t wk_r (H36 _ _ hm_z)
        · replace b59_z : (lg_cmp y (1000000000000 / x)).toInt ≤ (0 : Int32).toInt := b59_z
          replace hm_z := rn_lload_n (am_cur_of (i := (113, 1, .lload_n 3, (0, 0, 0), 0)) (by decide +kernel)) g3_z hm_z
          replace hm_z := rn_lload (am_cur_of (i := (114, 2, .lload 5, (0, 0, 0), 0)) (by decide +kernel)) g5_z hm_z
          replace hm_z := rn_lneg (w := -(1000000000000 / x)) (am_cur_of (i := (116, 1, .lneg, (0, 0, 0), 0)) (by decide +kernel)) rfl hm_z
          replace hm_z := rn_lcmp (w := lg_cmp y (-(1000000000000 / x))) (am_cur_of (i := (117, 1, .lcmp, (0, 0, 0), 0)) (by decide +kernel)) rfl hm_z
          replace hm_z := rn_if (am_cur_of (i := (118, 3, .ifCond .ge 9, (38, 0, 0), 0)) (by decide +kernel)) hm_z
          rcases hm_z with ⟨b60_z, hm_z⟩ | ⟨b60_z, hm_z⟩
          · replace b60_z : (0 : Int32).toInt ≤ (lg_cmp y (-(1000000000000 / x))).toInt := b60_z
            replace hm_z := rn_lload_n (am_cur_of (i := (127, 1, .lload_n 1, (0, 0, 0), 0)) (by decide +kernel)) g1_z hm_z
            replace hm_z := rn_lload_n (am_cur_of (i := (128, 1, .lload_n 3, (0, 0, 0), 0)) (by decide +kernel)) g3_z hm_z
            replace hm_z := rn_lmul (w := x * y) (am_cur_of (i := (129, 1, .lmul, (0, 0, 0), 0)) (by decide +kernel)) rfl hm_z
            replace hm_z := rn_lret (am_cur_of (i := (130, 1, .lreturn, (0, 0, 0), 0)) (by decide +kernel)) hm_z
            obtain ⟨e61_z, e62_z⟩ := hm_z
            rw [e62_z]
            exact wk_r
          · replace b60_z : (lg_cmp y (-(1000000000000 / x))).toInt < (0 : Int32).toInt := b60_z
            have H36 := (wq_67_L (r := r) (g' := g') (c := c) (x := x) (y := y)  nst).1
            exact wk_t wk_r (H36 _ _ hm_z)
      · replace b55_z : (lg_cmp x 0).toInt < (0 : Int32).toInt := b55_z
        replace hm_z := rn_lload_n (am_cur_of (i := (97, 1, .lload_n 1, (0, 0, 0), 0)) (by decide +kernel)) g1_z hm_z
        replace hm_z := rn_lneg (w := -x) (am_cur_of (i := (98, 1, .lneg, (0, 0, 0), 0)) (by decide +kernel)) rfl hm_z
        replace hm_z := rn_goto (am_cur_of (i := (99, 3, .goto 4, (25, 0, 0), 0)) (by decide +kernel)) hm_z
        replace hm_z := rn_ldiv (w := 1000000000000 / (-x)) (am_cur_of (i := (103, 1, .ldiv, (0, 0, 0), 0)) (by decide +kernel)) rfl hm_z
        obtain ⟨d63_z, hm_z⟩ := hm_z
        replace hm_z := rn_lstore (am_cur_of (i := (104, 2, .lstore 5, (0, 0, 0), 0)) (by decide +kernel)) hm_z
        obtain ⟨_, s64_z, s65_z, g5_z, hm_z⟩ := hm_z
        replace g0_z := s64_z 0 _ (by decide) (by decide) rfl g0_z
        replace g1_z := s65_z 1 _ (by decide) (by decide) (by decide) g1_z
        replace g3_z := s65_z 3 _ (by decide) (by decide) (by decide) g3_z
        clear s64_z s65_z
        replace hm_z := rn_lload_n (am_cur_of (i := (106, 1, .lload_n 3, (0, 0, 0), 0)) (by decide +kernel)) g3_z hm_z
        replace hm_z := rn_lload (am_cur_of (i := (107, 2, .lload 5, (0, 0, 0), 0)) (by decide +kernel)) g5_z hm_z
        replace hm_z := rn_lcmp (w := lg_cmp y (1000000000000 / (-x))) (am_cur_of (i := (109, 1, .lcmp, (0, 0, 0), 0)) (by decide +kernel)) rfl hm_z
        replace hm_z := rn_if (am_cur_of (i := (110, 3, .ifCond .gt 11, (36, 0, 0), 0)) (by decide +kernel)) hm_z
        rcases hm_z with ⟨b66_z, hm_z⟩ | ⟨b66_z, hm_z⟩
        · replace b66_z : (0 : Int32).toInt < (lg_cmp y (1000000000000 / (-x))).toInt := b66_z
          have H36 := (wq_67_L (r := r) (g' := g') (c := c) (x := x) (y := y)  nst).1
          exact wk_t wk_r (H36 _ _ hm_z)
        · replace b66_z : (lg_cmp y (1000000000000 / (-x))).toInt ≤ (0 : Int32).toInt := b66_z
          replace hm_z := rn_lload_n (am_cur_of (i := (113, 1, .lload_n 3, (0, 0, 0), 0)) (by decide +kernel)) g3_z hm_z
          replace hm_z := rn_lload (am_cur_of (i := (114, 2, .lload 5, (0, 0, 0), 0)) (by decide +kernel)) g5_z hm_z
          replace hm_z := rn_lneg (w := -(1000000000000 / (-x))) (am_cur_of (i := (116, 1, .lneg, (0, 0, 0), 0)) (by decide +kernel)) rfl hm_z
          replace hm_z := rn_lcmp (w := lg_cmp y (-(1000000000000 / (-x)))) (am_cur_of (i := (117, 1, .lcmp, (0, 0, 0), 0)) (by decide +kernel)) rfl hm_z
          replace hm_z := rn_if (am_cur_of (i := (118, 3, .ifCond .ge 9, (38, 0, 0), 0)) (by decide +kernel)) hm_z
          rcases hm_z with ⟨b67_z, hm_z⟩ | ⟨b67_z, hm_z⟩
          · replace b67_z : (0 : Int32).toInt ≤ (lg_cmp y (-(1000000000000 / (-x)))).toInt := b67_z
            replace hm_z := rn_lload_n (am_cur_of (i := (127, 1, .lload_n 1, (0, 0, 0), 0)) (by decide +kernel)) g1_z hm_z
            replace hm_z := rn_lload_n (am_cur_of (i := (128, 1, .lload_n 3, (0, 0, 0), 0)) (by decide +kernel)) g3_z hm_z
            replace hm_z := rn_lmul (w := x * y) (am_cur_of (i := (129, 1, .lmul, (0, 0, 0), 0)) (by decide +kernel)) rfl hm_z
            replace hm_z := rn_lret (am_cur_of (i := (130, 1, .lreturn, (0, 0, 0), 0)) (by decide +kernel)) hm_z
            obtain ⟨e68_z, e69_z⟩ := hm_z
            rw [e69_z]
            exact wk_r
          · replace b67_z : (lg_cmp y (-(1000000000000 / (-x)))).toInt < (0 : Int32).toInt := b67_z
            have H36 := (wq_67_L (r := r) (g' := g') (c := c) (x := x) (y := y)  nst).1
            exact wk_t wk_r (H36 _ _ hm_z)
    · replace b54_z : (lg_cmp x 0) = (0 : Int32) ∧ (lg_cmp x 0).toInt = (0 : Int32).toInt := b54_z
      replace hm_z := rn_ldc2 (w := 1000000000000) (am_cur_of (i := (82, 3, .ldc2_w 48, (0, 0, 933), 1000000000000)) (by decide +kernel)) (by decide) hm_z
      replace hm_z := rn_goto (am_cur_of (i := (85, 3, .goto 19, (26, 0, 0), 0)) (by decide +kernel)) hm_z
      replace hm_z := rn_lstore (am_cur_of (i := (104, 2, .lstore 5, (0, 0, 0), 0)) (by decide +kernel)) hm_z
      obtain ⟨_, s70_z, s71_z, g5_z, hm_z⟩ := hm_z
      replace g0_z := s70_z 0 _ (by decide) (by decide) rfl g0_z
      replace g1_z := s71_z 1 _ (by decide) (by decide) (by decide) g1_z
      replace g3_z := s71_z 3 _ (by decide) (by decide) (by decide) g3_z
      clear s70_z s71_z
      replace hm_z := rn_lload_n (am_cur_of (i := (106, 1, .lload_n 3, (0, 0, 0), 0)) (by decide +kernel)) g3_z hm_z
      replace hm_z := rn_lload (am_cur_of (i := (107, 2, .lload 5, (0, 0, 0), 0)) (by decide +kernel)) g5_z hm_z
      replace hm_z := rn_lcmp (w := lg_cmp y 1000000000000) (am_cur_of (i := (109, 1, .lcmp, (0, 0, 0), 0)) (by decide +kernel)) rfl hm_z
      replace hm_z := rn_if (am_cur_of (i := (110, 3, .ifCond .gt 11, (36, 0, 0), 0)) (by decide +kernel)) hm_z
      rcases hm_z with ⟨b72_z, hm_z⟩ | ⟨b72_z, hm_z⟩
      · replace b72_z : (0 : Int32).toInt < (lg_cmp y 1000000000000).toInt := b72_z
        have H36 := (wq_67_L (r := r) (g' := g') (c := c) (x := x) (y := y)  nst).1
        exact wk_t wk_r (H36 _ _ hm_z)
      · replace b72_z : (lg_cmp y 1000000000000).toInt ≤ (0 : Int32).toInt := b72_z
        replace hm_z := rn_lload_n (am_cur_of (i := (113, 1, .lload_n 3, (0, 0, 0), 0)) (by decide +kernel)) g3_z hm_z
        replace hm_z := rn_lload (am_cur_of (i := (114, 2, .lload 5, (0, 0, 0), 0)) (by decide +kernel)) g5_z hm_z
        replace hm_z := rn_lneg (w := -1000000000000) (am_cur_of (i := (116, 1, .lneg, (0, 0, 0), 0)) (by decide +kernel)) rfl hm_z
        replace hm_z := rn_lcmp (w := lg_cmp y (-1000000000000)) (am_cur_of (i := (117, 1, .lcmp, (0, 0, 0), 0)) (by decide +kernel)) rfl hm_z
        replace hm_z := rn_if (am_cur_of (i := (118, 3, .ifCond .ge 9, (38, 0, 0), 0)) (by decide +kernel)) hm_z
        rcases hm_z with ⟨b73_z, hm_z⟩ | ⟨b73_z, hm_z⟩
        · replace b73_z : (0 : Int32).toInt ≤ (lg_cmp y (-1000000000000)).toInt := b73_z
          replace hm_z := rn_lload_n (am_cur_of (i := (127, 1, .lload_n 1, (0, 0, 0), 0)) (by decide +kernel)) g1_z hm_z
          replace hm_z := rn_lload_n (am_cur_of (i := (128, 1, .lload_n 3, (0, 0, 0), 0)) (by decide +kernel)) g3_z hm_z
          replace hm_z := rn_lmul (w := x * y) (am_cur_of (i := (129, 1, .lmul, (0, 0, 0), 0)) (by decide +kernel)) rfl hm_z
          replace hm_z := rn_lret (am_cur_of (i := (130, 1, .lreturn, (0, 0, 0), 0)) (by decide +kernel)) hm_z
          obtain ⟨e74_z, e75_z⟩ := hm_z
          rw [e75_z]
          exact wk_r
        · replace b73_z : (lg_cmp y (-1000000000000)).toInt < (0 : Int32).toInt := b73_z
          have H36 := (wq_67_L (r := r) (g' := g') (c := c) (x := x) (y := y)  nst).1
          exact wk_t wk_r (H36 _ _ hm_z)
  by_cases v76_z : c = 15
  · replace hm_z := rn_swI (off := 130) (a := 42) (am_cur_of (i := (1, 67, .tableswitch 242 3 15 #[146, 164, 242, 182, 194, 206, 218, 230, 242, 67, 71, 75, 130], (0, 0, 0), 0)) (by decide +kernel)) (by rw [v76_z]; decide) (by rw [v76_z]; decide) (by decide +kernel) hm_z
    replace hm_z := rn_lload_n (am_cur_of (i := (131, 1, .lload_n 3, (0, 0, 0), 0)) (by decide +kernel)) g3_z hm_z
    replace hm_z := rn_lconst (w := 0) (am_cur_of (i := (132, 1, .lconst 0, (0, 0, 0), 0)) (by decide +kernel)) rfl hm_z
    replace hm_z := rn_lcmp (w := lg_cmp y 0) (am_cur_of (i := (133, 1, .lcmp, (0, 0, 0), 0)) (by decide +kernel)) rfl hm_z
    replace hm_z := rn_if (am_cur_of (i := (134, 3, .ifCond .ne 9, (48, 0, 0), 0)) (by decide +kernel)) hm_z
    rcases hm_z with ⟨b77_z, hm_z⟩ | ⟨b77_z, hm_z⟩
    · replace b77_z : ¬ (lg_cmp y 0) = (0 : Int32) ∧ ¬ (lg_cmp y 0).toInt = (0 : Int32).toInt := b77_z
      replace hm_z := rn_lload_n (am_cur_of (i := (143, 1, .lload_n 1, (0, 0, 0), 0)) (by decide +kernel)) g1_z hm_z
      replace hm_z := rn_lload_n (am_cur_of (i := (144, 1, .lload_n 3, (0, 0, 0), 0)) (by decide +kernel)) g3_z hm_z
      replace hm_z := rn_ldiv (w := x / y) (am_cur_of (i := (145, 1, .ldiv, (0, 0, 0), 0)) (by decide +kernel)) rfl hm_z
      obtain ⟨d78_z, hm_z⟩ := hm_z
      replace hm_z := rn_lret (am_cur_of (i := (146, 1, .lreturn, (0, 0, 0), 0)) (by decide +kernel)) hm_z
      obtain ⟨e79_z, e80_z⟩ := hm_z
      rw [e80_z]
      exact wk_r
    · replace b77_z : (lg_cmp y 0) = (0 : Int32) ∧ (lg_cmp y 0).toInt = (0 : Int32).toInt := b77_z
      replace hm_z := rn_ldc2 (w := (-9223372036854775808)) (am_cur_of (i := (137, 3, .ldc2_w 42, (0, 0, 929), (-9223372036854775808))) (by decide +kernel)) (by decide) hm_z
      replace hm_z := rn_goto (am_cur_of (i := (140, 3, .goto 6, (51, 0, 0), 0)) (by decide +kernel)) hm_z
      replace hm_z := rn_lret (am_cur_of (i := (146, 1, .lreturn, (0, 0, 0), 0)) (by decide +kernel)) hm_z
      obtain ⟨e81_z, e82_z⟩ := hm_z
      rw [e82_z]
      exact wk_r
  have hsw : ∀ m, m < 13 → (m = 0 ∨ m = 1 ∨ m = 3 ∨ m = 4 ∨ m = 5 ∨ m = 6 ∨ m = 7 ∨ m = 9 ∨ m = 10 ∨ m = 11 ∨ m = 12 ∨ (#[146, 164, 242, 182, 194, 206, 218, 230, 242, 67, 71, 75, 130] : Array Int)[m]? = some 242) := by decide
  have wv7_z : ¬ c.toInt = 3 := fun q => v7_z (Int32.toInt_inj.mp (q.trans (by decide)))
  have wv12_z : ¬ c.toInt = 4 := fun q => v12_z (Int32.toInt_inj.mp (q.trans (by decide)))
  have wv17_z : ¬ c.toInt = 6 := fun q => v17_z (Int32.toInt_inj.mp (q.trans (by decide)))
  have wv23_z : ¬ c.toInt = 7 := fun q => v23_z (Int32.toInt_inj.mp (q.trans (by decide)))
  have wv29_z : ¬ c.toInt = 8 := fun q => v29_z (Int32.toInt_inj.mp (q.trans (by decide)))
  have wv35_z : ¬ c.toInt = 9 := fun q => v35_z (Int32.toInt_inj.mp (q.trans (by decide)))
  have wv41_z : ¬ c.toInt = 10 := fun q => v41_z (Int32.toInt_inj.mp (q.trans (by decide)))
  have wv47_z : ¬ c.toInt = 12 := fun q => v47_z (Int32.toInt_inj.mp (q.trans (by decide)))
  have wv50_z : ¬ c.toInt = 13 := fun q => v50_z (Int32.toInt_inj.mp (q.trans (by decide)))
  have wv53_z : ¬ c.toInt = 14 := fun q => v53_z (Int32.toInt_inj.mp (q.trans (by decide)))
  have wv76_z : ¬ c.toInt = 15 := fun q => v76_z (Int32.toInt_inj.mp (q.trans (by decide)))
  have hx_z : c.toInt < 3 ∨ 15 < c.toInt ∨ (#[146, 164, 242, 182, 194, 206, 218, 230, 242, 67, 71, 75, 130] : Array Int)[(c.toInt - 3).toNat]? = some 242 := by
    by_cases q1_z : c.toInt < 3
    · exact Or.inl q1_z
    · by_cases q2_z : 15 < c.toInt
      · exact Or.inr (Or.inl q2_z)
      · refine Or.inr (Or.inr ?_)
        rcases hsw (c.toInt - 3).toNat (by omega) with qq | qq | qq | qq | qq | qq | qq | qq | qq | qq | qq | qq <;> first | exact qq | (exfalso; omega)
  replace hm_z := rn_swX (a := 116) (am_cur_of (i := (1, 67, .tableswitch 242 3 15 #[146, 164, 242, 182, 194, 206, 218, 230, 242, 67, 71, 75, 130], (0, 0, 0), 0)) (by decide +kernel)) hx_z (by decide +kernel) hm_z
  replace hm_z := rn_lload_n (am_cur_of (i := (243, 1, .lload_n 1, (0, 0, 0), 0)) (by decide +kernel)) g1_z hm_z
  replace hm_z := rn_lload_n (am_cur_of (i := (244, 1, .lload_n 3, (0, 0, 0), 0)) (by decide +kernel)) g3_z hm_z
  replace hm_z := rn_lcmp (w := lg_cmp x y) (am_cur_of (i := (245, 1, .lcmp, (0, 0, 0), 0)) (by decide +kernel)) rfl hm_z
  replace hm_z := rn_if (am_cur_of (i := (246, 3, .ifCond .le 7, (122, 0, 0), 0)) (by decide +kernel)) hm_z
  rcases hm_z with ⟨b83_z, hm_z⟩ | ⟨b83_z, hm_z⟩
  · replace b83_z : (lg_cmp x y).toInt ≤ (0 : Int32).toInt := b83_z
    replace hm_z := rn_lconst (w := 0) (am_cur_of (i := (253, 1, .lconst 0, (0, 0, 0), 0)) (by decide +kernel)) rfl hm_z
    replace hm_z := rn_lret (am_cur_of (i := (254, 1, .lreturn, (0, 0, 0), 0)) (by decide +kernel)) hm_z
    obtain ⟨e84_z, e85_z⟩ := hm_z
    rw [e85_z]
    exact wk_r
  · replace b83_z : (0 : Int32).toInt < (lg_cmp x y).toInt := b83_z
    replace hm_z := rn_lconst (w := 1) (am_cur_of (i := (249, 1, .lconst 1, (0, 0, 0), 0)) (by decide +kernel)) rfl hm_z
    replace hm_z := rn_goto (am_cur_of (i := (250, 3, .goto 4, (123, 0, 0), 0)) (by decide +kernel)) hm_z
    replace hm_z := rn_lret (am_cur_of (i := (254, 1, .lreturn, (0, 0, 0), 0)) (by decide +kernel)) hm_z
    obtain ⟨e86_z, e87_z⟩ := hm_z
    rw [e87_z]
    exact wk_r
theorem wq_68 {nst : Nat} {r : Option Value} {g g' : am_H} {x : Int64} {m : Int32} {u : Int32}  (hm_z : rn nst am_m68 0 (lv_args 0 [.long x, .int m, .int u]) [] g r g') : wk g g' := by
  have z0_z : (0 : Int32).toInt = 0 := by decide
  have g0_z : am_get (lv_args 0 [.long x, .int m, .int u]) 0 = some (.long x) := rfl
  have g2_z : am_get (lv_args 0 [.long x, .int m, .int u]) 2 = some (.int m) := rfl
  have g3_z : am_get (lv_args 0 [.long x, .int m, .int u]) 3 = some (.int u) := rfl
  replace hm_z := rn_lload_n (am_cur_of (i := (0, 1, .lload_n 0, (0, 0, 0), 0)) (by decide +kernel)) g0_z hm_z
  replace hm_z := rn_ldc2 (w := (-9223372036854775808)) (am_cur_of (i := (1, 3, .ldc2_w 84, (0, 0, 938), (-9223372036854775808))) (by decide +kernel)) (by decide) hm_z
  replace hm_z := rn_lcmp (w := lg_cmp x (-9223372036854775808)) (am_cur_of (i := (4, 1, .lcmp, (0, 0, 0), 0)) (by decide +kernel)) rfl hm_z
  replace hm_z := rn_if (am_cur_of (i := (5, 3, .ifCond .ne 5, (6, 0, 0), 0)) (by decide +kernel)) hm_z
  rcases hm_z with ⟨b88_z, hm_z⟩ | ⟨b88_z, hm_z⟩
  · replace b88_z : ¬ (lg_cmp x (-9223372036854775808)) = (0 : Int32) ∧ ¬ (lg_cmp x (-9223372036854775808)).toInt = (0 : Int32).toInt := b88_z
    replace hm_z := rn_lload_n (am_cur_of (i := (10, 1, .lload_n 0, (0, 0, 0), 0)) (by decide +kernel)) g0_z hm_z
    replace hm_z := rn_lconst (w := 0) (am_cur_of (i := (11, 1, .lconst 0, (0, 0, 0), 0)) (by decide +kernel)) rfl hm_z
    replace hm_z := rn_lcmp (w := lg_cmp x 0) (am_cur_of (i := (12, 1, .lcmp, (0, 0, 0), 0)) (by decide +kernel)) rfl hm_z
    replace hm_z := rn_if (am_cur_of (i := (13, 3, .ifCond .ge 5, (12, 0, 0), 0)) (by decide +kernel)) hm_z
    rcases hm_z with ⟨b89_z, hm_z⟩ | ⟨b89_z, hm_z⟩
    · replace b89_z : (0 : Int32).toInt ≤ (lg_cmp x 0).toInt := b89_z
      replace hm_z := rn_lload_n (am_cur_of (i := (18, 1, .lload_n 0, (0, 0, 0), 0)) (by decide +kernel)) g0_z hm_z
      replace hm_z := rn_iload_n (am_cur_of (i := (19, 1, .iload_n 2, (0, 0, 0), 0)) (by decide +kernel)) g2_z hm_z
      replace hm_z := rn_i2l (w := m.toInt64) (am_cur_of (i := (20, 1, .i2l, (0, 0, 0), 0)) (by decide +kernel)) rfl hm_z
      replace hm_z := rn_lcmp (w := lg_cmp x m.toInt64) (am_cur_of (i := (21, 1, .lcmp, (0, 0, 0), 0)) (by decide +kernel)) rfl hm_z
      replace hm_z := rn_if (am_cur_of (i := (22, 3, .ifCond .le 7, (19, 0, 0), 0)) (by decide +kernel)) hm_z
      rcases hm_z with ⟨b90_z, hm_z⟩ | ⟨b90_z, hm_z⟩
      · replace b90_z : (lg_cmp x m.toInt64).toInt ≤ (0 : Int32).toInt := b90_z
        replace hm_z := rn_lload_n (am_cur_of (i := (29, 1, .lload_n 0, (0, 0, 0), 0)) (by decide +kernel)) g0_z hm_z
        replace hm_z := rn_l2i (w := x.toInt32) (am_cur_of (i := (30, 1, .l2i, (0, 0, 0), 0)) (by decide +kernel)) rfl hm_z
        replace hm_z := rn_iret (am_cur_of (i := (31, 1, .ireturn, (0, 0, 0), 0)) (by decide +kernel)) hm_z
        obtain ⟨e91_z, e92_z⟩ := hm_z
        rw [e92_z]
        exact wk_r
      · replace b90_z : (0 : Int32).toInt < (lg_cmp x m.toInt64).toInt := b90_z
        replace hm_z := rn_iload_n (am_cur_of (i := (25, 1, .iload_n 2, (0, 0, 0), 0)) (by decide +kernel)) g2_z hm_z
        replace hm_z := rn_goto (am_cur_of (i := (26, 3, .goto 5, (21, 0, 0), 0)) (by decide +kernel)) hm_z
        replace hm_z := rn_iret (am_cur_of (i := (31, 1, .ireturn, (0, 0, 0), 0)) (by decide +kernel)) hm_z
        obtain ⟨e93_z, e94_z⟩ := hm_z
        rw [e94_z]
        exact wk_r
    · replace b89_z : (lg_cmp x 0).toInt < (0 : Int32).toInt := b89_z
      replace hm_z := rn_iconst (w := 0) (am_cur_of (i := (16, 1, .iconst 0, (0, 0, 0), 0)) (by decide +kernel)) (by decide) hm_z
      replace hm_z := rn_iret (am_cur_of (i := (17, 1, .ireturn, (0, 0, 0), 0)) (by decide +kernel)) hm_z
      obtain ⟨e95_z, e96_z⟩ := hm_z
      rw [e96_z]
      exact wk_r
  · replace b88_z : (lg_cmp x (-9223372036854775808)) = (0 : Int32) ∧ (lg_cmp x (-9223372036854775808)).toInt = (0 : Int32).toInt := b88_z
    replace hm_z := rn_iload_n (am_cur_of (i := (8, 1, .iload_n 3, (0, 0, 0), 0)) (by decide +kernel)) g3_z hm_z
    replace hm_z := rn_iret (am_cur_of (i := (9, 1, .ireturn, (0, 0, 0), 0)) (by decide +kernel)) hm_z
    obtain ⟨e97_z, e98_z⟩ := hm_z
    rw [e98_z]
    exact wk_r
theorem wq_76 {nst : Nat} {r : Option Value} {g g' : am_H} {k : Int32}  (hm_z : rn nst am_m76 0 (lv_args 0 [.ref 149, .int k]) [] g r g') : wk g g' := by
  have z0_z : (0 : Int32).toInt = 0 := by decide
  have g0_z : am_get (lv_args 0 [.ref 149, .int k]) 0 = some (.ref 149) := rfl
  have g1_z : am_get (lv_args 0 [.ref 149, .int k]) 1 = some (.int k) := rfl
  replace hm_z := rn_aload_n (am_cur_of (i := (0, 1, .aload_n 0, (0, 0, 0), 0)) (by decide +kernel)) g0_z hm_z
  replace hm_z := rn_getI (v := rg_v g 149 4) (am_cur_of (i := (1, 3, .getfield 42, (5, 4, 478), 0)) (by decide +kernel)) (by decide +kernel) rfl hm_z
  replace hm_z := rn_iload_n (am_cur_of (i := (4, 1, .iload_n 1, (0, 0, 0), 0)) (by decide +kernel)) g1_z hm_z
  replace hm_z := rn_ishr (w := (rg_v g 149 4) >>> (k &&& 31)) (am_cur_of (i := (5, 1, .ishr, (0, 0, 0), 0)) (by decide +kernel)) rfl hm_z
  replace hm_z := rn_iconst (w := 1) (am_cur_of (i := (6, 1, .iconst 1, (0, 0, 0), 0)) (by decide +kernel)) (by decide) hm_z
  replace hm_z := rn_iand (w := ((rg_v g 149 4) >>> (k &&& 31)) &&& 1) (am_cur_of (i := (7, 1, .iand, (0, 0, 0), 0)) (by decide +kernel)) rfl hm_z
  replace hm_z := rn_if (am_cur_of (i := (8, 3, .ifCond .eq 7, (9, 0, 0), 0)) (by decide +kernel)) hm_z
  rcases hm_z with ⟨b99_z, hm_z⟩ | ⟨b99_z, hm_z⟩
  · replace b99_z : (((rg_v g 149 4) >>> (k &&& 31)) &&& 1) = (0 : Int32) ∧ (((rg_v g 149 4) >>> (k &&& 31)) &&& 1).toInt = (0 : Int32).toInt := b99_z
    replace hm_z := rn_iconst (w := 0) (am_cur_of (i := (15, 1, .iconst 0, (0, 0, 0), 0)) (by decide +kernel)) (by decide) hm_z
    replace hm_z := rn_iret (am_cur_of (i := (16, 1, .ireturn, (0, 0, 0), 0)) (by decide +kernel)) hm_z
    obtain ⟨e100_z, e101_z⟩ := hm_z
    rw [e101_z]
    exact wk_r
  · replace b99_z : ¬ (((rg_v g 149 4) >>> (k &&& 31)) &&& 1) = (0 : Int32) ∧ ¬ (((rg_v g 149 4) >>> (k &&& 31)) &&& 1).toInt = (0 : Int32).toInt := b99_z
    replace hm_z := rn_iconst (w := 1) (am_cur_of (i := (11, 1, .iconst 1, (0, 0, 0), 0)) (by decide +kernel)) (by decide) hm_z
    replace hm_z := rn_goto (am_cur_of (i := (12, 3, .goto 4, (10, 0, 0), 0)) (by decide +kernel)) hm_z
    replace hm_z := rn_iret (am_cur_of (i := (16, 1, .ireturn, (0, 0, 0), 0)) (by decide +kernel)) hm_z
    obtain ⟨e102_z, e103_z⟩ := hm_z
    rw [e103_z]
    exact wk_r
theorem wq_66_2_L {r : Option Value} {g' : am_H} {k : Int32}  : ∀ f : Nat, (∀ (v2_z : Int32) (v3_z : Int32) (ls : am_L) (g : am_H), am_get ls 0 = some (.ref 11) → am_get ls 1 = some (.int k) → am_get ls 2 = some (.int v2_z) → am_get ls 3 = some (.int v3_z) → rn f am_m66 7 ls [] g r g' → wk g g') ∧ (∀ (v2_z : Int32) (v3_z : Int32) (v4_z : Int32) (ls : am_L) (g : am_H), am_get ls 0 = some (.ref 11) → am_get ls 1 = some (.int k) → am_get ls 2 = some (.int v2_z) → am_get ls 3 = some (.int v3_z) → am_get ls 4 = some (.int v4_z) → rn f am_m66 23 ls [] g r g' → wk g g') ∧ (∀ (ls : am_L) (g : am_H), rn f am_m66 103 ls [] g r g' → wk g g') ∧ (∀ (v2_z : Int32) (v3_z : Int32) (ls : am_L) (g : am_H), am_get ls 0 = some (.ref 11) → am_get ls 1 = some (.int k) → am_get ls 2 = some (.int v2_z) → am_get ls 3 = some (.int v3_z) → rn f am_m66 112 ls [] g r g' → wk g g') := by
  intro f
  induction f with
  | zero =>
    exact ⟨fun _ _ _ _ _ _ _ _ hm_z => absurd hm_z rn_0, fun _ _ _ _ _ _ _ _ _ _ hm_z => absurd hm_z rn_0, fun _ _ hm_z => absurd hm_z rn_0, fun _ _ _ _ _ _ _ _ hm_z => absurd hm_z rn_0⟩
  | succ f ih_z =>
    obtain ⟨I7, I23, I103, I112⟩ := ih_z
    have H112 : ∀ (v2_z : Int32) (v3_z : Int32) (ls : am_L) (g : am_H), am_get ls 0 = some (.ref 11) → am_get ls 1 = some (.int k) → am_get ls 2 = some (.int v2_z) → am_get ls 3 = some (.int v3_z) → rn (f + 1) am_m66 112 ls [] g r g' → wk g g' := by
      intro v2_z v3_z ls g g0_z g1_z g2_z g3_z hm_z
      replace hm_z := rn_iinc (w := v3_z + 1) (am_cur_of (i := (195, 3, .iinc 3 1, (0, 0, 0), 0)) (by decide +kernel)) g3_z rfl hm_z
      obtain ⟨_, s104_z, s105_z, g3_z, hm_z⟩ := hm_z
      replace g0_z := s104_z 0 _ (by decide) rfl g0_z
      replace g1_z := s104_z 1 _ (by decide) rfl g1_z
      replace g2_z := s104_z 2 _ (by decide) rfl g2_z
      clear s104_z s105_z
      replace hm_z := rn_gotoL (am_cur_of (i := (198, 3, .goto (-189), (7, 0, 0), 0)) (by decide +kernel)) hm_z
      exact wk_t wk_r (I7 v2_z (v3_z + 1) _ _ g0_z g1_z g2_z g3_z hm_z)
    have H103 : ∀ (ls : am_L) (g : am_H), rn (f + 1) am_m66 103 ls [] g r g' → wk g g' := by
      intro ls g hm_z
      replace hm_z := rn_ldc2 (w := (-9223372036854775808)) (am_cur_of (i := (181, 3, .ldc2_w 42, (0, 0, 929), (-9223372036854775808))) (by decide +kernel)) (by decide) hm_z
      replace hm_z := rn_lret (am_cur_of (i := (184, 1, .lreturn, (0, 0, 0), 0)) (by decide +kernel)) hm_z
      obtain ⟨e106_z, e107_z⟩ := hm_z
      rw [e107_z]
      exact wk_r
    have H23 : ∀ (v2_z : Int32) (v3_z : Int32) (v4_z : Int32) (ls : am_L) (g : am_H), am_get ls 0 = some (.ref 11) → am_get ls 1 = some (.int k) → am_get ls 2 = some (.int v2_z) → am_get ls 3 = some (.int v3_z) → am_get ls 4 = some (.int v4_z) → rn (f + 1) am_m66 23 ls [] g r g' → wk g g' := by
      intro v2_z v3_z v4_z ls g g0_z g1_z g2_z g3_z g4_z hm_z
      have z0_z : (0 : Int32).toInt = 0 := by decide
      have z64_z : (64 : Int32).toInt = 64 := by decide
      replace hm_z := rn_iload_n (am_cur_of (i := (38, 1, .iload_n 2, (0, 0, 0), 0)) (by decide +kernel)) g2_z hm_z
      replace hm_z := rn_bipush (w := 64) (am_cur_of (i := (39, 2, .bipush 64, (0, 0, 0), 0)) (by decide +kernel)) (by decide) hm_z
      replace hm_z := rn_cmp (am_cur_of (i := (41, 3, .if_icmp .lt 7, (28, 0, 0), 0)) (by decide +kernel)) hm_z
      rcases hm_z with ⟨b108_z, hm_z⟩ | ⟨b108_z, hm_z⟩
      · replace b108_z : v2_z.toInt < (64 : Int32).toInt := b108_z
        replace hm_z := rn_aload_n (am_cur_of (i := (48, 1, .aload_n 0, (0, 0, 0), 0)) (by decide +kernel)) g0_z hm_z
        replace hm_z := rn_getR (x := 18) (am_cur_of (i := (49, 3, .getfield 32, (2, 8, 175), 0)) (by decide +kernel)) (by decide +kernel) hm_z
        replace hm_z := rn_iload_n (am_cur_of (i := (52, 1, .iload_n 2, (0, 0, 0), 0)) (by decide +kernel)) g2_z hm_z
        replace hm_z := rn_iload (am_cur_of (i := (53, 2, .iload 4, (0, 0, 0), 0)) (by decide +kernel)) g4_z hm_z
        replace hm_z := rn_if (am_cur_of (i := (55, 3, .ifCond .ne 13, (39, 0, 0), 0)) (by decide +kernel)) hm_z
        rcases hm_z with ⟨b109_z, hm_z⟩ | ⟨b109_z, hm_z⟩
        · replace b109_z : ¬ v4_z = (0 : Int32) ∧ ¬ v4_z.toInt = (0 : Int32).toInt := b109_z
          replace hm_z := rn_aload_n (am_cur_of (i := (68, 1, .aload_n 0, (0, 0, 0), 0)) (by decide +kernel)) g0_z hm_z
          replace hm_z := rn_getR (x := 17) (am_cur_of (i := (69, 3, .getfield 28, (2, 7, 173), 0)) (by decide +kernel)) (by decide +kernel) hm_z
          replace hm_z := rn_aload_n (am_cur_of (i := (72, 1, .aload_n 0, (0, 0, 0), 0)) (by decide +kernel)) g0_z hm_z
          replace hm_z := rn_getR (x := 13) (am_cur_of (i := (73, 3, .getfield 15, (2, 3, 168), 0)) (by decide +kernel)) (by decide +kernel) hm_z
          replace hm_z := rn_iload_n (am_cur_of (i := (76, 1, .iload_n 3, (0, 0, 0), 0)) (by decide +kernel)) g3_z hm_z
          replace hm_z := rn_iaload (N := 64) (q := v3_z.toNatClampNeg) (v := rg_v g 13 v3_z.toNatClampNeg) (am_cur_of (i := (77, 1, .iaload, (0, 0, 0), 0)) (by decide +kernel)) (by decide +kernel) rfl rfl hm_z
          obtain ⟨p110_z, hm_z⟩ := hm_z
          replace hm_z := rn_laload (N := 6) (q := (rg_v g 13 v3_z.toNatClampNeg).toNatClampNeg) (v := rg_l g 17 ((rg_v g 13 v3_z.toNatClampNeg).toNatClampNeg)) (am_cur_of (i := (78, 1, .laload, (0, 0, 0), 0)) (by decide +kernel)) (by decide +kernel) rfl rfl hm_z
          obtain ⟨p111_z, hm_z⟩ := hm_z
          replace hm_z := rn_lastore (N := 64) (q := v2_z.toNatClampNeg) (am_cur_of (i := (79, 1, .lastore, (0, 0, 0), 0)) (by decide +kernel)) (by decide +kernel) rfl hm_z
          obtain ⟨p112_z, hm_z⟩ := hm_z
          replace hm_z := rn_iinc (w := v2_z + 1) (am_cur_of (i := (80, 3, .iinc 2 1, (0, 0, 0), 0)) (by decide +kernel)) g2_z rfl hm_z
          obtain ⟨_, s113_z, s114_z, g2_z, hm_z⟩ := hm_z
          replace g0_z := s113_z 0 _ (by decide) rfl g0_z
          replace g1_z := s113_z 1 _ (by decide) rfl g1_z
          replace g3_z := s113_z 3 _ (by decide) rfl g3_z
          replace g4_z := s113_z 4 _ (by decide) rfl g4_z
          clear s113_z s114_z
          replace hm_z := rn_goto (am_cur_of (i := (83, 3, .goto 112, (112, 0, 0), 0)) (by decide +kernel)) hm_z
          exact wk_t (wk_u rfl wk_r) (H112 (v2_z + 1) v3_z _ _ g0_z g1_z g2_z g3_z hm_z)
        · replace b109_z : v4_z = (0 : Int32) ∧ v4_z.toInt = (0 : Int32).toInt := b109_z
          replace hm_z := rn_aload_n (am_cur_of (i := (58, 1, .aload_n 0, (0, 0, 0), 0)) (by decide +kernel)) g0_z hm_z
          replace hm_z := rn_getR (x := 13) (am_cur_of (i := (59, 3, .getfield 15, (2, 3, 168), 0)) (by decide +kernel)) (by decide +kernel) hm_z
          replace hm_z := rn_iload_n (am_cur_of (i := (62, 1, .iload_n 3, (0, 0, 0), 0)) (by decide +kernel)) g3_z hm_z
          replace hm_z := rn_iaload (N := 64) (q := v3_z.toNatClampNeg) (v := rg_v g 13 v3_z.toNatClampNeg) (am_cur_of (i := (63, 1, .iaload, (0, 0, 0), 0)) (by decide +kernel)) (by decide +kernel) rfl rfl hm_z
          obtain ⟨p115_z, hm_z⟩ := hm_z
          replace hm_z := rn_i2l (w := (rg_v g 13 v3_z.toNatClampNeg).toInt64) (am_cur_of (i := (64, 1, .i2l, (0, 0, 0), 0)) (by decide +kernel)) rfl hm_z
          replace hm_z := rn_goto (am_cur_of (i := (65, 3, .goto 14, (46, 0, 0), 0)) (by decide +kernel)) hm_z
          replace hm_z := rn_lastore (N := 64) (q := v2_z.toNatClampNeg) (am_cur_of (i := (79, 1, .lastore, (0, 0, 0), 0)) (by decide +kernel)) (by decide +kernel) rfl hm_z
          obtain ⟨p116_z, hm_z⟩ := hm_z
          replace hm_z := rn_iinc (w := v2_z + 1) (am_cur_of (i := (80, 3, .iinc 2 1, (0, 0, 0), 0)) (by decide +kernel)) g2_z rfl hm_z
          obtain ⟨_, s117_z, s118_z, g2_z, hm_z⟩ := hm_z
          replace g0_z := s117_z 0 _ (by decide) rfl g0_z
          replace g1_z := s117_z 1 _ (by decide) rfl g1_z
          replace g3_z := s117_z 3 _ (by decide) rfl g3_z
          replace g4_z := s117_z 4 _ (by decide) rfl g4_z
          clear s117_z s118_z
          replace hm_z := rn_goto (am_cur_of (i := (83, 3, .goto 112, (112, 0, 0), 0)) (by decide +kernel)) hm_z
          exact wk_t (wk_u rfl wk_r) (H112 (v2_z + 1) v3_z _ _ g0_z g1_z g2_z g3_z hm_z)
      · replace b108_z : (64 : Int32).toInt ≤ v2_z.toInt := b108_z
        replace hm_z := rn_ldc2 (w := (-9223372036854775808)) (am_cur_of (i := (44, 3, .ldc2_w 42, (0, 0, 929), (-9223372036854775808))) (by decide +kernel)) (by decide) hm_z
        replace hm_z := rn_lret (am_cur_of (i := (47, 1, .lreturn, (0, 0, 0), 0)) (by decide +kernel)) hm_z
        obtain ⟨e119_z, e120_z⟩ := hm_z
        rw [e120_z]
        exact wk_r
    have H7 : ∀ (v2_z : Int32) (v3_z : Int32) (ls : am_L) (g : am_H), am_get ls 0 = some (.ref 11) → am_get ls 1 = some (.int k) → am_get ls 2 = some (.int v2_z) → am_get ls 3 = some (.int v3_z) → rn (f + 1) am_m66 7 ls [] g r g' → wk g g' := by
      intro v2_z v3_z ls g g0_z g1_z g2_z g3_z hm_z
      have z0_z : (0 : Int32).toInt = 0 := by decide
      have z1_z : (1 : Int32).toInt = 1 := by decide
      have z2_z : (2 : Int32).toInt = 2 := by decide
      have z5_z : (5 : Int32).toInt = 5 := by decide
      replace hm_z := rn_iload_n (am_cur_of (i := (9, 1, .iload_n 3, (0, 0, 0), 0)) (by decide +kernel)) g3_z hm_z
      replace hm_z := rn_aload_n (am_cur_of (i := (10, 1, .aload_n 0, (0, 0, 0), 0)) (by decide +kernel)) g0_z hm_z
      replace hm_z := rn_getR (x := 15) (am_cur_of (i := (11, 3, .getfield 21, (2, 5, 170), 0)) (by decide +kernel)) (by decide +kernel) hm_z
      replace hm_z := rn_iload_n (am_cur_of (i := (14, 1, .iload_n 1, (0, 0, 0), 0)) (by decide +kernel)) g1_z hm_z
      replace hm_z := rn_iaload (N := 3) (q := k.toNatClampNeg) (v := rg_v g 15 k.toNatClampNeg) (am_cur_of (i := (15, 1, .iaload, (0, 0, 0), 0)) (by decide +kernel)) (by decide +kernel) rfl rfl hm_z
      obtain ⟨p121_z, hm_z⟩ := hm_z
      replace hm_z := rn_cmp (am_cur_of (i := (16, 3, .if_icmp .ge 185, (114, 0, 0), 0)) (by decide +kernel)) hm_z
      rcases hm_z with ⟨b122_z, hm_z⟩ | ⟨b122_z, hm_z⟩
      · replace b122_z : (rg_v g 15 k.toNatClampNeg).toInt ≤ v3_z.toInt := b122_z
        replace hm_z := rn_iload_n (am_cur_of (i := (201, 1, .iload_n 2, (0, 0, 0), 0)) (by decide +kernel)) g2_z hm_z
        replace hm_z := rn_iconst (w := 1) (am_cur_of (i := (202, 1, .iconst 1, (0, 0, 0), 0)) (by decide +kernel)) (by decide) hm_z
        replace hm_z := rn_cmp (am_cur_of (i := (203, 3, .if_icmp .ne 12, (122, 0, 0), 0)) (by decide +kernel)) hm_z
        rcases hm_z with ⟨b123_z, hm_z⟩ | ⟨b123_z, hm_z⟩
        · replace b123_z : ¬ v2_z = (1 : Int32) ∧ ¬ v2_z.toInt = (1 : Int32).toInt := b123_z
          replace hm_z := rn_ldc2 (w := (-9223372036854775808)) (am_cur_of (i := (215, 3, .ldc2_w 42, (0, 0, 929), (-9223372036854775808))) (by decide +kernel)) (by decide) hm_z
          replace hm_z := rn_lret (am_cur_of (i := (218, 1, .lreturn, (0, 0, 0), 0)) (by decide +kernel)) hm_z
          obtain ⟨e124_z, e125_z⟩ := hm_z
          rw [e125_z]
          exact wk_r
        · replace b123_z : v2_z = (1 : Int32) ∧ v2_z.toInt = (1 : Int32).toInt := b123_z
          replace hm_z := rn_aload_n (am_cur_of (i := (206, 1, .aload_n 0, (0, 0, 0), 0)) (by decide +kernel)) g0_z hm_z
          replace hm_z := rn_getR (x := 18) (am_cur_of (i := (207, 3, .getfield 32, (2, 8, 175), 0)) (by decide +kernel)) (by decide +kernel) hm_z
          replace hm_z := rn_iconst (w := 0) (am_cur_of (i := (210, 1, .iconst 0, (0, 0, 0), 0)) (by decide +kernel)) (by decide) hm_z
          replace hm_z := rn_laload (N := 64) (q := 0) (v := rg_l g 18 0) (am_cur_of (i := (211, 1, .laload, (0, 0, 0), 0)) (by decide +kernel)) (by decide +kernel) rfl rfl hm_z
          obtain ⟨p126_z, hm_z⟩ := hm_z
          replace hm_z := rn_goto (am_cur_of (i := (212, 3, .goto 6, (123, 0, 0), 0)) (by decide +kernel)) hm_z
          replace hm_z := rn_lret (am_cur_of (i := (218, 1, .lreturn, (0, 0, 0), 0)) (by decide +kernel)) hm_z
          obtain ⟨e127_z, e128_z⟩ := hm_z
          rw [e128_z]
          exact wk_r
      · replace b122_z : v3_z.toInt < (rg_v g 15 k.toNatClampNeg).toInt := b122_z
        replace hm_z := rn_aload_n (am_cur_of (i := (19, 1, .aload_n 0, (0, 0, 0), 0)) (by decide +kernel)) g0_z hm_z
        replace hm_z := rn_getR (x := 12) (am_cur_of (i := (20, 3, .getfield 9, (2, 2, 167), 0)) (by decide +kernel)) (by decide +kernel) hm_z
        replace hm_z := rn_iload_n (am_cur_of (i := (23, 1, .iload_n 3, (0, 0, 0), 0)) (by decide +kernel)) g3_z hm_z
        replace hm_z := rn_iaload (N := 64) (q := v3_z.toNatClampNeg) (v := rg_v g 12 v3_z.toNatClampNeg) (am_cur_of (i := (24, 1, .iaload, (0, 0, 0), 0)) (by decide +kernel)) (by decide +kernel) rfl rfl hm_z
        obtain ⟨p129_z, hm_z⟩ := hm_z
        replace hm_z := rn_istore (am_cur_of (i := (25, 2, .istore 4, (0, 0, 0), 0)) (by decide +kernel)) hm_z
        obtain ⟨_, s130_z, s131_z, g4_z, hm_z⟩ := hm_z
        replace g0_z := s130_z 0 _ (by decide) rfl g0_z
        replace g1_z := s130_z 1 _ (by decide) rfl g1_z
        replace g2_z := s130_z 2 _ (by decide) rfl g2_z
        replace g3_z := s130_z 3 _ (by decide) rfl g3_z
        clear s130_z s131_z
        replace hm_z := rn_iload (am_cur_of (i := (27, 2, .iload 4, (0, 0, 0), 0)) (by decide +kernel)) g4_z hm_z
        replace hm_z := rn_if (am_cur_of (i := (29, 3, .ifCond .eq 9, (23, 0, 0), 0)) (by decide +kernel)) hm_z
        rcases hm_z with ⟨b132_z, hm_z⟩ | ⟨b132_z, hm_z⟩
        · replace b132_z : (rg_v g 12 v3_z.toNatClampNeg) = (0 : Int32) ∧ (rg_v g 12 v3_z.toNatClampNeg).toInt = (0 : Int32).toInt := b132_z
          exact wk_t wk_r (H23 v2_z v3_z (rg_v g 12 v3_z.toNatClampNeg) _ _ g0_z g1_z g2_z g3_z g4_z hm_z)
        · replace b132_z : ¬ (rg_v g 12 v3_z.toNatClampNeg) = (0 : Int32) ∧ ¬ (rg_v g 12 v3_z.toNatClampNeg).toInt = (0 : Int32).toInt := b132_z
          replace hm_z := rn_iload (am_cur_of (i := (32, 2, .iload 4, (0, 0, 0), 0)) (by decide +kernel)) g4_z hm_z
          replace hm_z := rn_iconst (w := 1) (am_cur_of (i := (34, 1, .iconst 1, (0, 0, 0), 0)) (by decide +kernel)) (by decide) hm_z
          replace hm_z := rn_cmp (am_cur_of (i := (35, 3, .if_icmp .ne 51, (49, 0, 0), 0)) (by decide +kernel)) hm_z
          rcases hm_z with ⟨b133_z, hm_z⟩ | ⟨b133_z, hm_z⟩
          · replace b133_z : ¬ (rg_v g 12 v3_z.toNatClampNeg) = (1 : Int32) ∧ ¬ (rg_v g 12 v3_z.toNatClampNeg).toInt = (1 : Int32).toInt := b133_z
            replace hm_z := rn_iload (am_cur_of (i := (86, 2, .iload 4, (0, 0, 0), 0)) (by decide +kernel)) g4_z hm_z
            replace hm_z := rn_iconst (w := 5) (am_cur_of (i := (88, 1, .iconst 5, (0, 0, 0), 0)) (by decide +kernel)) (by decide) hm_z
            replace hm_z := rn_cmp (am_cur_of (i := (89, 3, .if_icmp .ne 41, (76, 0, 0), 0)) (by decide +kernel)) hm_z
            rcases hm_z with ⟨b134_z, hm_z⟩ | ⟨b134_z, hm_z⟩
            · replace b134_z : ¬ (rg_v g 12 v3_z.toNatClampNeg) = (5 : Int32) ∧ ¬ (rg_v g 12 v3_z.toNatClampNeg).toInt = (5 : Int32).toInt := b134_z
              replace hm_z := rn_iload_n (am_cur_of (i := (130, 1, .iload_n 2, (0, 0, 0), 0)) (by decide +kernel)) g2_z hm_z
              replace hm_z := rn_iconst (w := 2) (am_cur_of (i := (131, 1, .iconst 2, (0, 0, 0), 0)) (by decide +kernel)) (by decide) hm_z
              replace hm_z := rn_cmp (am_cur_of (i := (132, 3, .if_icmp .ge 7, (81, 0, 0), 0)) (by decide +kernel)) hm_z
              rcases hm_z with ⟨b135_z, hm_z⟩ | ⟨b135_z, hm_z⟩
              · replace b135_z : (2 : Int32).toInt ≤ v2_z.toInt := b135_z
                replace hm_z := rn_iinc (w := v2_z + (-1)) (am_cur_of (i := (139, 3, .iinc 2 (-1), (0, 0, 0), 0)) (by decide +kernel)) g2_z (congrArg (fun z => v2_z + z) (show Int32.ofInt (-1) = (-1) by decide)) hm_z
                obtain ⟨_, s136_z, s137_z, g2_z, hm_z⟩ := hm_z
                replace g0_z := s136_z 0 _ (by decide) rfl g0_z
                replace g1_z := s136_z 1 _ (by decide) rfl g1_z
                replace g3_z := s136_z 3 _ (by decide) rfl g3_z
                replace g4_z := s136_z 4 _ (by decide) rfl g4_z
                clear s136_z s137_z
                replace hm_z := rn_iload (am_cur_of (i := (142, 2, .iload 4, (0, 0, 0), 0)) (by decide +kernel)) g4_z hm_z
                replace hm_z := rn_aload_n (am_cur_of (i := (144, 1, .aload_n 0, (0, 0, 0), 0)) (by decide +kernel)) g0_z hm_z
                replace hm_z := rn_getR (x := 18) (am_cur_of (i := (145, 3, .getfield 32, (2, 8, 175), 0)) (by decide +kernel)) (by decide +kernel) hm_z
                replace hm_z := rn_iload_n (am_cur_of (i := (148, 1, .iload_n 2, (0, 0, 0), 0)) (by decide +kernel)) g2_z hm_z
                replace hm_z := rn_iconst (w := 1) (am_cur_of (i := (149, 1, .iconst 1, (0, 0, 0), 0)) (by decide +kernel)) (by decide) hm_z
                replace hm_z := rn_isub (w := (v2_z + (-1)) - 1) (am_cur_of (i := (150, 1, .isub, (0, 0, 0), 0)) (by decide +kernel)) rfl hm_z
                replace hm_z := rn_laload (N := 64) (q := ((v2_z + (-1)) - 1).toNatClampNeg) (v := rg_l g 18 (((v2_z + (-1)) - 1).toNatClampNeg)) (am_cur_of (i := (151, 1, .laload, (0, 0, 0), 0)) (by decide +kernel)) (by decide +kernel) rfl rfl hm_z
                obtain ⟨p138_z, hm_z⟩ := hm_z
                replace hm_z := rn_aload_n (am_cur_of (i := (152, 1, .aload_n 0, (0, 0, 0), 0)) (by decide +kernel)) g0_z hm_z
                replace hm_z := rn_getR (x := 18) (am_cur_of (i := (153, 3, .getfield 32, (2, 8, 175), 0)) (by decide +kernel)) (by decide +kernel) hm_z
                replace hm_z := rn_iload_n (am_cur_of (i := (156, 1, .iload_n 2, (0, 0, 0), 0)) (by decide +kernel)) g2_z hm_z
                replace hm_z := rn_laload (N := 64) (q := (v2_z + (-1)).toNatClampNeg) (v := rg_l g 18 ((v2_z + (-1)).toNatClampNeg)) (am_cur_of (i := (157, 1, .laload, (0, 0, 0), 0)) (by decide +kernel)) (by decide +kernel) rfl rfl hm_z
                obtain ⟨p139_z, hm_z⟩ := hm_z
                replace hm_z := rn_callS (M' := am_m67) (ar := [.long (rg_l g 18 ((v2_z + (-1)).toNatClampNeg)), .long (rg_l g 18 (((v2_z + (-1)) - 1).toNatClampNeg)), .int (rg_v g 12 v3_z.toNatClampNeg)]) (rest := []) (L := lv_args 0 [.int (rg_v g 12 v3_z.toNatClampNeg), .long (rg_l g 18 (((v2_z + (-1)) - 1).toNatClampNeg)), .long (rg_l g 18 ((v2_z + (-1)).toNatClampNeg))]) (am_cur_of (i := (158, 3, .invokestatic 44, (67, 930, 3), 0)) (by decide +kernel)) rfl rfl rfl rfl hm_z
                obtain ⟨r140_z, h141_z, q142_z, hm_z⟩ := hm_z
                have k143_z := wq_67 q142_z
                obtain ⟨v144_z, rfl⟩ := fk_long (M := am_m67) rfl q142_z
                replace hm_z : rn _ _ _ _ [.long v144_z] _ _ _ := hm_z
                replace hm_z := rn_lstore (am_cur_of (i := (161, 2, .lstore 5, (0, 0, 0), 0)) (by decide +kernel)) hm_z
                obtain ⟨_, s145_z, s146_z, g5_z, hm_z⟩ := hm_z
                replace g0_z := s145_z 0 _ (by decide) (by decide) rfl g0_z
                replace g1_z := s145_z 1 _ (by decide) (by decide) rfl g1_z
                replace g2_z := s145_z 2 _ (by decide) (by decide) rfl g2_z
                replace g3_z := s145_z 3 _ (by decide) (by decide) rfl g3_z
                replace g4_z := s145_z 4 _ (by decide) (by decide) rfl g4_z
                clear s145_z s146_z
                replace hm_z := rn_lload (am_cur_of (i := (163, 2, .lload 5, (0, 0, 0), 0)) (by decide +kernel)) g5_z hm_z
                replace hm_z := rn_ldc2 (w := 1000000000000) (am_cur_of (i := (165, 3, .ldc2_w 48, (0, 0, 933), 1000000000000)) (by decide +kernel)) (by decide) hm_z
                replace hm_z := rn_lcmp (w := lg_cmp v144_z 1000000000000) (am_cur_of (i := (168, 1, .lcmp, (0, 0, 0), 0)) (by decide +kernel)) rfl hm_z
                replace hm_z := rn_if (am_cur_of (i := (169, 3, .ifCond .gt 12, (103, 0, 0), 0)) (by decide +kernel)) hm_z
                rcases hm_z with ⟨b147_z, hm_z⟩ | ⟨b147_z, hm_z⟩
                · replace b147_z : (0 : Int32).toInt < (lg_cmp v144_z 1000000000000).toInt := b147_z
                  exact wk_t (wk_t wk_r k143_z) (H103 _ _ hm_z)
                · replace b147_z : (lg_cmp v144_z 1000000000000).toInt ≤ (0 : Int32).toInt := b147_z
                  replace hm_z := rn_lload (am_cur_of (i := (172, 2, .lload 5, (0, 0, 0), 0)) (by decide +kernel)) g5_z hm_z
                  replace hm_z := rn_ldc2 (w := (-1000000000000)) (am_cur_of (i := (174, 3, .ldc2_w 50, (0, 0, 934), (-1000000000000))) (by decide +kernel)) (by decide) hm_z
                  replace hm_z := rn_lcmp (w := lg_cmp v144_z (-1000000000000)) (am_cur_of (i := (177, 1, .lcmp, (0, 0, 0), 0)) (by decide +kernel)) rfl hm_z
                  replace hm_z := rn_if (am_cur_of (i := (178, 3, .ifCond .ge 7, (105, 0, 0), 0)) (by decide +kernel)) hm_z
                  rcases hm_z with ⟨b148_z, hm_z⟩ | ⟨b148_z, hm_z⟩
                  · replace b148_z : (0 : Int32).toInt ≤ (lg_cmp v144_z (-1000000000000)).toInt := b148_z
                    replace hm_z := rn_aload_n (am_cur_of (i := (185, 1, .aload_n 0, (0, 0, 0), 0)) (by decide +kernel)) g0_z hm_z
                    replace hm_z := rn_getR (x := 18) (am_cur_of (i := (186, 3, .getfield 32, (2, 8, 175), 0)) (by decide +kernel)) (by decide +kernel) hm_z
                    replace hm_z := rn_iload_n (am_cur_of (i := (189, 1, .iload_n 2, (0, 0, 0), 0)) (by decide +kernel)) g2_z hm_z
                    replace hm_z := rn_iconst (w := 1) (am_cur_of (i := (190, 1, .iconst 1, (0, 0, 0), 0)) (by decide +kernel)) (by decide) hm_z
                    replace hm_z := rn_isub (w := (v2_z + (-1)) - 1) (am_cur_of (i := (191, 1, .isub, (0, 0, 0), 0)) (by decide +kernel)) rfl hm_z
                    replace hm_z := rn_lload (am_cur_of (i := (192, 2, .lload 5, (0, 0, 0), 0)) (by decide +kernel)) g5_z hm_z
                    replace hm_z := rn_lastore (N := 64) (q := ((v2_z + (-1)) - 1).toNatClampNeg) (am_cur_of (i := (194, 1, .lastore, (0, 0, 0), 0)) (by decide +kernel)) (by decide +kernel) rfl hm_z
                    obtain ⟨p149_z, hm_z⟩ := hm_z
                    exact wk_t (wk_u rfl (wk_t wk_r k143_z)) (H112 (v2_z + (-1)) v3_z _ _ g0_z g1_z g2_z g3_z hm_z)
                  · replace b148_z : (lg_cmp v144_z (-1000000000000)).toInt < (0 : Int32).toInt := b148_z
                    exact wk_t (wk_t wk_r k143_z) (H103 _ _ hm_z)
              · replace b135_z : v2_z.toInt < (2 : Int32).toInt := b135_z
                replace hm_z := rn_ldc2 (w := (-9223372036854775808)) (am_cur_of (i := (135, 3, .ldc2_w 42, (0, 0, 929), (-9223372036854775808))) (by decide +kernel)) (by decide) hm_z
                replace hm_z := rn_lret (am_cur_of (i := (138, 1, .lreturn, (0, 0, 0), 0)) (by decide +kernel)) hm_z
                obtain ⟨e150_z, e151_z⟩ := hm_z
                rw [e151_z]
                exact wk_r
            · replace b134_z : (rg_v g 12 v3_z.toNatClampNeg) = (5 : Int32) ∧ (rg_v g 12 v3_z.toNatClampNeg).toInt = (5 : Int32).toInt := b134_z
              replace hm_z := rn_iload_n (am_cur_of (i := (92, 1, .iload_n 2, (0, 0, 0), 0)) (by decide +kernel)) g2_z hm_z
              replace hm_z := rn_iconst (w := 1) (am_cur_of (i := (93, 1, .iconst 1, (0, 0, 0), 0)) (by decide +kernel)) (by decide) hm_z
              replace hm_z := rn_cmp (am_cur_of (i := (94, 3, .if_icmp .ge 7, (57, 0, 0), 0)) (by decide +kernel)) hm_z
              rcases hm_z with ⟨b152_z, hm_z⟩ | ⟨b152_z, hm_z⟩
              · replace b152_z : (1 : Int32).toInt ≤ v2_z.toInt := b152_z
                replace hm_z := rn_aload_n (am_cur_of (i := (101, 1, .aload_n 0, (0, 0, 0), 0)) (by decide +kernel)) g0_z hm_z
                replace hm_z := rn_getR (x := 18) (am_cur_of (i := (102, 3, .getfield 32, (2, 8, 175), 0)) (by decide +kernel)) (by decide +kernel) hm_z
                replace hm_z := rn_iload_n (am_cur_of (i := (105, 1, .iload_n 2, (0, 0, 0), 0)) (by decide +kernel)) g2_z hm_z
                replace hm_z := rn_iconst (w := 1) (am_cur_of (i := (106, 1, .iconst 1, (0, 0, 0), 0)) (by decide +kernel)) (by decide) hm_z
                replace hm_z := rn_isub (w := v2_z - 1) (am_cur_of (i := (107, 1, .isub, (0, 0, 0), 0)) (by decide +kernel)) rfl hm_z
                replace hm_z := rn_aload_n (am_cur_of (i := (108, 1, .aload_n 0, (0, 0, 0), 0)) (by decide +kernel)) g0_z hm_z
                replace hm_z := rn_getR (x := 18) (am_cur_of (i := (109, 3, .getfield 32, (2, 8, 175), 0)) (by decide +kernel)) (by decide +kernel) hm_z
                replace hm_z := rn_iload_n (am_cur_of (i := (112, 1, .iload_n 2, (0, 0, 0), 0)) (by decide +kernel)) g2_z hm_z
                replace hm_z := rn_iconst (w := 1) (am_cur_of (i := (113, 1, .iconst 1, (0, 0, 0), 0)) (by decide +kernel)) (by decide) hm_z
                replace hm_z := rn_isub (w := v2_z - 1) (am_cur_of (i := (114, 1, .isub, (0, 0, 0), 0)) (by decide +kernel)) rfl hm_z
                replace hm_z := rn_laload (N := 64) (q := (v2_z - 1).toNatClampNeg) (v := rg_l g 18 ((v2_z - 1).toNatClampNeg)) (am_cur_of (i := (115, 1, .laload, (0, 0, 0), 0)) (by decide +kernel)) (by decide +kernel) rfl rfl hm_z
                obtain ⟨p153_z, hm_z⟩ := hm_z
                replace hm_z := rn_lconst (w := 0) (am_cur_of (i := (116, 1, .lconst 0, (0, 0, 0), 0)) (by decide +kernel)) rfl hm_z
                replace hm_z := rn_lcmp (w := lg_cmp (rg_l g 18 ((v2_z - 1).toNatClampNeg)) 0) (am_cur_of (i := (117, 1, .lcmp, (0, 0, 0), 0)) (by decide +kernel)) rfl hm_z
                replace hm_z := rn_if (am_cur_of (i := (118, 3, .ifCond .ne 7, (73, 0, 0), 0)) (by decide +kernel)) hm_z
                rcases hm_z with ⟨b154_z, hm_z⟩ | ⟨b154_z, hm_z⟩
                · replace b154_z : ¬ (lg_cmp (rg_l g 18 ((v2_z - 1).toNatClampNeg)) 0) = (0 : Int32) ∧ ¬ (lg_cmp (rg_l g 18 ((v2_z - 1).toNatClampNeg)) 0).toInt = (0 : Int32).toInt := b154_z
                  replace hm_z := rn_lconst (w := 0) (am_cur_of (i := (125, 1, .lconst 0, (0, 0, 0), 0)) (by decide +kernel)) rfl hm_z
                  replace hm_z := rn_lastore (N := 64) (q := (v2_z - 1).toNatClampNeg) (am_cur_of (i := (126, 1, .lastore, (0, 0, 0), 0)) (by decide +kernel)) (by decide +kernel) rfl hm_z
                  obtain ⟨p155_z, hm_z⟩ := hm_z
                  replace hm_z := rn_goto (am_cur_of (i := (127, 3, .goto 68, (112, 0, 0), 0)) (by decide +kernel)) hm_z
                  exact wk_t (wk_u rfl wk_r) (H112 v2_z v3_z _ _ g0_z g1_z g2_z g3_z hm_z)
                · replace b154_z : (lg_cmp (rg_l g 18 ((v2_z - 1).toNatClampNeg)) 0) = (0 : Int32) ∧ (lg_cmp (rg_l g 18 ((v2_z - 1).toNatClampNeg)) 0).toInt = (0 : Int32).toInt := b154_z
                  replace hm_z := rn_lconst (w := 1) (am_cur_of (i := (121, 1, .lconst 1, (0, 0, 0), 0)) (by decide +kernel)) rfl hm_z
                  replace hm_z := rn_goto (am_cur_of (i := (122, 3, .goto 4, (74, 0, 0), 0)) (by decide +kernel)) hm_z
                  replace hm_z := rn_lastore (N := 64) (q := (v2_z - 1).toNatClampNeg) (am_cur_of (i := (126, 1, .lastore, (0, 0, 0), 0)) (by decide +kernel)) (by decide +kernel) rfl hm_z
                  obtain ⟨p156_z, hm_z⟩ := hm_z
                  replace hm_z := rn_goto (am_cur_of (i := (127, 3, .goto 68, (112, 0, 0), 0)) (by decide +kernel)) hm_z
                  exact wk_t (wk_u rfl wk_r) (H112 v2_z v3_z _ _ g0_z g1_z g2_z g3_z hm_z)
              · replace b152_z : v2_z.toInt < (1 : Int32).toInt := b152_z
                replace hm_z := rn_ldc2 (w := (-9223372036854775808)) (am_cur_of (i := (97, 3, .ldc2_w 42, (0, 0, 929), (-9223372036854775808))) (by decide +kernel)) (by decide) hm_z
                replace hm_z := rn_lret (am_cur_of (i := (100, 1, .lreturn, (0, 0, 0), 0)) (by decide +kernel)) hm_z
                obtain ⟨e157_z, e158_z⟩ := hm_z
                rw [e158_z]
                exact wk_r
          · replace b133_z : (rg_v g 12 v3_z.toNatClampNeg) = (1 : Int32) ∧ (rg_v g 12 v3_z.toNatClampNeg).toInt = (1 : Int32).toInt := b133_z
            exact wk_t wk_r (H23 v2_z v3_z (rg_v g 12 v3_z.toNatClampNeg) _ _ g0_z g1_z g2_z g3_z g4_z hm_z)
    exact ⟨H7, H23, H103, H112⟩
theorem wq_66_2 {nst : Nat} {r : Option Value} {g g' : am_H} {k : Int32}  (hm_z : rn nst am_m66 0 (lv_args 0 [.ref 11, .int k]) [] g r g') : wk g g' := by
  have g0_z : am_get (lv_args 0 [.ref 11, .int k]) 0 = some (.ref 11) := rfl
  have g1_z : am_get (lv_args 0 [.ref 11, .int k]) 1 = some (.int k) := rfl
  replace hm_z := rn_iconst (w := 0) (am_cur_of (i := (0, 1, .iconst 0, (0, 0, 0), 0)) (by decide +kernel)) (by decide) hm_z
  replace hm_z := rn_istore_n (am_cur_of (i := (1, 1, .istore_n 2, (0, 0, 0), 0)) (by decide +kernel)) hm_z
  obtain ⟨_, s159_z, s160_z, g2_z, hm_z⟩ := hm_z
  replace g0_z := s159_z 0 _ (by decide) rfl g0_z
  replace g1_z := s159_z 1 _ (by decide) rfl g1_z
  clear s159_z s160_z
  replace hm_z := rn_aload_n (am_cur_of (i := (2, 1, .aload_n 0, (0, 0, 0), 0)) (by decide +kernel)) g0_z hm_z
  replace hm_z := rn_getR (x := 14) (am_cur_of (i := (3, 3, .getfield 18, (2, 4, 169), 0)) (by decide +kernel)) (by decide +kernel) hm_z
  replace hm_z := rn_iload_n (am_cur_of (i := (6, 1, .iload_n 1, (0, 0, 0), 0)) (by decide +kernel)) g1_z hm_z
  replace hm_z := rn_iaload (N := 3) (q := k.toNatClampNeg) (v := rg_v g 14 k.toNatClampNeg) (am_cur_of (i := (7, 1, .iaload, (0, 0, 0), 0)) (by decide +kernel)) (by decide +kernel) rfl rfl hm_z
  obtain ⟨p161_z, hm_z⟩ := hm_z
  replace hm_z := rn_istore_n (am_cur_of (i := (8, 1, .istore_n 3, (0, 0, 0), 0)) (by decide +kernel)) hm_z
  obtain ⟨_, s162_z, s163_z, g3_z, hm_z⟩ := hm_z
  replace g0_z := s162_z 0 _ (by decide) rfl g0_z
  replace g1_z := s162_z 1 _ (by decide) rfl g1_z
  replace g2_z := s162_z 2 _ (by decide) rfl g2_z
  clear s162_z s163_z
  have H7 := (wq_66_2_L (r := r) (g' := g') (k := k)  nst).1
  exact wk_t wk_r (H7 0 (rg_v g 14 k.toNatClampNeg) _ _ g0_z g1_z g2_z g3_z hm_z)
theorem wq_65_2_L {r : Option Value} {g' : am_H} {w : Int32} {o : Int32} {x : Int32}  : ∀ f : Nat, (∀ (ls : am_L) (g : am_H), am_get ls 1 = some (.int w) → am_get ls 3 = some (.int x) → am_get ls 4 = some (.ref 11) → g 148 0 = .ref 2 → rn f am_m65 70 ls [] g r g' → wk g g') := by
  intro f
  induction f with
  | zero =>
    exact (fun _ _ _ _ _ _ hm_z => absurd hm_z rn_0)
  | succ f ih_z =>
    have I70 := ih_z
    have H70 : ∀ (ls : am_L) (g : am_H), am_get ls 1 = some (.int w) → am_get ls 3 = some (.int x) → am_get ls 4 = some (.ref 11) → g 148 0 = .ref 2 → rn (f + 1) am_m65 70 ls [] g r g' → wk g g' := by
      intro ls g g1_z g3_z g4_z T hm_z
      replace hm_z := rn_aload (am_cur_of (i := (129, 2, .aload 4, (0, 0, 0), 0)) (by decide +kernel)) g4_z hm_z
      replace hm_z := rn_getR (x := 17) (am_cur_of (i := (131, 3, .getfield 66, (2, 7, 174), 0)) (by decide +kernel)) (by decide +kernel) hm_z
      replace hm_z := rn_iconst (w := 5) (am_cur_of (i := (134, 1, .iconst 5, (0, 0, 0), 0)) (by decide +kernel)) (by decide) hm_z
      replace hm_z := rn_iload_n (am_cur_of (i := (135, 1, .iload_n 3, (0, 0, 0), 0)) (by decide +kernel)) g3_z hm_z
      replace hm_z := rn_i2l (w := x.toInt64) (am_cur_of (i := (136, 1, .i2l, (0, 0, 0), 0)) (by decide +kernel)) rfl hm_z
      replace hm_z := rn_lastore (N := 6) (q := 5) (am_cur_of (i := (137, 1, .lastore, (0, 0, 0), 0)) (by decide +kernel)) (by decide +kernel) rfl hm_z
      obtain ⟨p164_z, hm_z⟩ := hm_z
      replace hm_z := rn_aload (am_cur_of (i := (138, 2, .aload 4, (0, 0, 0), 0)) (by decide +kernel)) g4_z hm_z
      replace hm_z := rn_iload_n (am_cur_of (i := (140, 1, .iload_n 1, (0, 0, 0), 0)) (by decide +kernel)) g1_z hm_z
      replace hm_z := rn_callV (M' := am_m66) (o := 11) (ar := [.int w]) (rest := []) (L := lv_args 0 [.ref 11, .int w]) (am_cur_of (i := (141, 3, .invokevirtual 76, (66, 925, 3), 0)) (by decide +kernel)) rfl rfl rfl rfl hm_z
      obtain ⟨r165_z, h166_z, q167_z, hm_z⟩ := hm_z
      have k168_z := wq_66_2 q167_z
      obtain ⟨v169_z, rfl⟩ := fk_long (M := am_m66) rfl q167_z
      replace hm_z : rn _ _ _ _ [.long v169_z] _ _ _ := hm_z
      replace hm_z := rn_lret (am_cur_of (i := (144, 1, .lreturn, (0, 0, 0), 0)) (by decide +kernel)) hm_z
      obtain ⟨e170_z, e171_z⟩ := hm_z
      rw [e171_z]
      exact (wk_t (wk_u rfl wk_r) k168_z)
    exact H70
theorem wq_65_2 {nst : Nat} {r : Option Value} {g g' : am_H} {w : Int32} {o : Int32} {x : Int32}  (T : g 148 0 = .ref 2) (hm_z : rn nst am_m65 0 (lv_args 0 [.ref 148, .int w, .int o, .int x]) [] g r g') : wk g g' := by
  have z0_z : (0 : Int32).toInt = 0 := by decide
  have z2_z : (2 : Int32).toInt = 2 := by decide
  have g0_z : am_get (lv_args 0 [.ref 148, .int w, .int o, .int x]) 0 = some (.ref 148) := rfl
  have g1_z : am_get (lv_args 0 [.ref 148, .int w, .int o, .int x]) 1 = some (.int w) := rfl
  have g2_z : am_get (lv_args 0 [.ref 148, .int w, .int o, .int x]) 2 = some (.int o) := rfl
  have g3_z : am_get (lv_args 0 [.ref 148, .int w, .int o, .int x]) 3 = some (.int x) := rfl
  replace hm_z := rn_aload_n (am_cur_of (i := (0, 1, .aload_n 0, (0, 0, 0), 0)) (by decide +kernel)) g0_z hm_z
  replace hm_z := rn_getM (x := 2) (am_cur_of (i := (1, 3, .getfield 18, (8, 0, 566), 0)) (by decide +kernel)) (wd_b wk_r T) hm_z
  replace hm_z := rn_getR (x := 11) (am_cur_of (i := (4, 3, .getfield 62, (1, 19, 315), 0)) (by decide +kernel)) (by decide +kernel) hm_z
  replace hm_z := rn_astore (am_cur_of (i := (7, 2, .astore 4, (0, 0, 0), 0)) (by decide +kernel)) hm_z
  obtain ⟨_, s172_z, s173_z, g4_z, hm_z⟩ := hm_z
  replace g0_z := s172_z 0 _ (by decide) rfl g0_z
  replace g1_z := s172_z 1 _ (by decide) rfl g1_z
  replace g2_z := s172_z 2 _ (by decide) rfl g2_z
  replace g3_z := s172_z 3 _ (by decide) rfl g3_z
  clear s172_z s173_z
  replace hm_z := rn_aload (am_cur_of (i := (9, 2, .aload 4, (0, 0, 0), 0)) (by decide +kernel)) g4_z hm_z
  replace hm_z := rn_getR (x := 17) (am_cur_of (i := (11, 3, .getfield 66, (2, 7, 174), 0)) (by decide +kernel)) (by decide +kernel) hm_z
  replace hm_z := rn_iconst (w := 1) (am_cur_of (i := (14, 1, .iconst 1, (0, 0, 0), 0)) (by decide +kernel)) (by decide) hm_z
  replace hm_z := rn_aload_n (am_cur_of (i := (15, 1, .aload_n 0, (0, 0, 0), 0)) (by decide +kernel)) g0_z hm_z
  replace hm_z := rn_getR (x := 149) (am_cur_of (i := (16, 3, .getfield 12, (8, 1, 569), 0)) (by decide +kernel)) (by decide +kernel) hm_z
  replace hm_z := rn_getI (v := rg_v g 149 0) (am_cur_of (i := (19, 3, .getfield 49, (5, 0, 463), 0)) (by decide +kernel)) (by decide +kernel) rfl hm_z
  replace hm_z := rn_i2l (w := (rg_v g 149 0).toInt64) (am_cur_of (i := (22, 1, .i2l, (0, 0, 0), 0)) (by decide +kernel)) rfl hm_z
  replace hm_z := rn_lastore (N := 6) (q := 1) (am_cur_of (i := (23, 1, .lastore, (0, 0, 0), 0)) (by decide +kernel)) (by decide +kernel) rfl hm_z
  obtain ⟨p174_z, hm_z⟩ := hm_z
  replace hm_z := rn_aload (am_cur_of (i := (24, 2, .aload 4, (0, 0, 0), 0)) (by decide +kernel)) g4_z hm_z
  replace hm_z := rn_getR (x := 17) (am_cur_of (i := (26, 3, .getfield 66, (2, 7, 174), 0)) (by decide +kernel)) (by decide +kernel) hm_z
  replace hm_z := rn_iconst (w := 2) (am_cur_of (i := (29, 1, .iconst 2, (0, 0, 0), 0)) (by decide +kernel)) (by decide) hm_z
  replace hm_z := rn_aload_n (am_cur_of (i := (30, 1, .aload_n 0, (0, 0, 0), 0)) (by decide +kernel)) g0_z hm_z
  replace hm_z := rn_getM (x := 2) (am_cur_of (i := (31, 3, .getfield 18, (8, 0, 566), 0)) (by decide +kernel)) (show (am_up g 17 1 (.long ((rg_v g 149 0).toInt64))) 148 0 = .ref 2 from (wd_b wk_r T)) hm_z
  replace hm_z := rn_getI (v := rg_v g 2 0) (am_cur_of (i := (34, 3, .getfield 52, (1, 0, 249), 0)) (by decide +kernel)) (by decide +kernel) (show rg_v (am_up g 17 1 (.long ((rg_v g 149 0).toInt64))) 2 0 = rg_v g 2 0 from rfl) hm_z
  replace hm_z := rn_aload_n (am_cur_of (i := (37, 1, .aload_n 0, (0, 0, 0), 0)) (by decide +kernel)) g0_z hm_z
  replace hm_z := rn_getR (x := 149) (am_cur_of (i := (38, 3, .getfield 12, (8, 1, 569), 0)) (by decide +kernel)) (by decide +kernel) hm_z
  replace hm_z := rn_getI (v := rg_v g 149 0) (am_cur_of (i := (41, 3, .getfield 49, (5, 0, 463), 0)) (by decide +kernel)) (by decide +kernel) (show rg_v (am_up g 17 1 (.long ((rg_v g 149 0).toInt64))) 149 0 = rg_v g 149 0 from rfl) hm_z
  replace hm_z := rn_isub (w := (rg_v g 2 0) - (rg_v g 149 0)) (am_cur_of (i := (44, 1, .isub, (0, 0, 0), 0)) (by decide +kernel)) rfl hm_z
  replace hm_z := rn_i2l (w := ((rg_v g 2 0) - (rg_v g 149 0)).toInt64) (am_cur_of (i := (45, 1, .i2l, (0, 0, 0), 0)) (by decide +kernel)) rfl hm_z
  replace hm_z := rn_lastore (N := 6) (q := 2) (am_cur_of (i := (46, 1, .lastore, (0, 0, 0), 0)) (by decide +kernel)) (by decide +kernel) rfl hm_z
  obtain ⟨p175_z, hm_z⟩ := hm_z
  replace hm_z := rn_aload (am_cur_of (i := (47, 2, .aload 4, (0, 0, 0), 0)) (by decide +kernel)) g4_z hm_z
  replace hm_z := rn_getR (x := 17) (am_cur_of (i := (49, 3, .getfield 66, (2, 7, 174), 0)) (by decide +kernel)) (by decide +kernel) hm_z
  replace hm_z := rn_iconst (w := 3) (am_cur_of (i := (52, 1, .iconst 3, (0, 0, 0), 0)) (by decide +kernel)) (by decide) hm_z
  replace hm_z := rn_iload_n (am_cur_of (i := (53, 1, .iload_n 2, (0, 0, 0), 0)) (by decide +kernel)) g2_z hm_z
  replace hm_z := rn_i2l (w := o.toInt64) (am_cur_of (i := (54, 1, .i2l, (0, 0, 0), 0)) (by decide +kernel)) rfl hm_z
  replace hm_z := rn_lastore (N := 6) (q := 3) (am_cur_of (i := (55, 1, .lastore, (0, 0, 0), 0)) (by decide +kernel)) (by decide +kernel) rfl hm_z
  obtain ⟨p176_z, hm_z⟩ := hm_z
  replace hm_z := rn_aload (am_cur_of (i := (56, 2, .aload 4, (0, 0, 0), 0)) (by decide +kernel)) g4_z hm_z
  replace hm_z := rn_getR (x := 17) (am_cur_of (i := (58, 3, .getfield 66, (2, 7, 174), 0)) (by decide +kernel)) (by decide +kernel) hm_z
  replace hm_z := rn_iconst (w := 4) (am_cur_of (i := (61, 1, .iconst 4, (0, 0, 0), 0)) (by decide +kernel)) (by decide) hm_z
  replace hm_z := rn_aload_n (am_cur_of (i := (62, 1, .aload_n 0, (0, 0, 0), 0)) (by decide +kernel)) g0_z hm_z
  replace hm_z := rn_getR (x := 149) (am_cur_of (i := (63, 3, .getfield 12, (8, 1, 569), 0)) (by decide +kernel)) (by decide +kernel) hm_z
  replace hm_z := rn_getI (v := rg_v g 149 1) (am_cur_of (i := (66, 3, .getfield 59, (5, 1, 470), 0)) (by decide +kernel)) (by decide +kernel) (show rg_v (am_up (am_up (am_up g 17 1 (.long ((rg_v g 149 0).toInt64))) 17 2 (.long (((rg_v g 2 0) - (rg_v g 149 0)).toInt64))) 17 3 (.long o.toInt64)) 149 1 = rg_v g 149 1 from rfl) hm_z
  replace hm_z := rn_i2l (w := (rg_v g 149 1).toInt64) (am_cur_of (i := (69, 1, .i2l, (0, 0, 0), 0)) (by decide +kernel)) rfl hm_z
  replace hm_z := rn_lastore (N := 6) (q := 4) (am_cur_of (i := (70, 1, .lastore, (0, 0, 0), 0)) (by decide +kernel)) (by decide +kernel) rfl hm_z
  obtain ⟨p177_z, hm_z⟩ := hm_z
  replace hm_z := rn_aload (am_cur_of (i := (71, 2, .aload 4, (0, 0, 0), 0)) (by decide +kernel)) g4_z hm_z
  replace hm_z := rn_getR (x := 17) (am_cur_of (i := (73, 3, .getfield 66, (2, 7, 174), 0)) (by decide +kernel)) (by decide +kernel) hm_z
  replace hm_z := rn_iconst (w := 0) (am_cur_of (i := (76, 1, .iconst 0, (0, 0, 0), 0)) (by decide +kernel)) (by decide) hm_z
  replace hm_z := rn_lconst (w := 0) (am_cur_of (i := (77, 1, .lconst 0, (0, 0, 0), 0)) (by decide +kernel)) rfl hm_z
  replace hm_z := rn_lastore (N := 6) (q := 0) (am_cur_of (i := (78, 1, .lastore, (0, 0, 0), 0)) (by decide +kernel)) (by decide +kernel) rfl hm_z
  obtain ⟨p178_z, hm_z⟩ := hm_z
  replace hm_z := rn_aload (am_cur_of (i := (79, 2, .aload 4, (0, 0, 0), 0)) (by decide +kernel)) g4_z hm_z
  replace hm_z := rn_getR (x := 17) (am_cur_of (i := (81, 3, .getfield 66, (2, 7, 174), 0)) (by decide +kernel)) (by decide +kernel) hm_z
  replace hm_z := rn_iconst (w := 5) (am_cur_of (i := (84, 1, .iconst 5, (0, 0, 0), 0)) (by decide +kernel)) (by decide) hm_z
  replace hm_z := rn_lconst (w := 0) (am_cur_of (i := (85, 1, .lconst 0, (0, 0, 0), 0)) (by decide +kernel)) rfl hm_z
  replace hm_z := rn_lastore (N := 6) (q := 5) (am_cur_of (i := (86, 1, .lastore, (0, 0, 0), 0)) (by decide +kernel)) (by decide +kernel) rfl hm_z
  obtain ⟨p179_z, hm_z⟩ := hm_z
  replace hm_z := rn_iload_n (am_cur_of (i := (87, 1, .iload_n 1, (0, 0, 0), 0)) (by decide +kernel)) g1_z hm_z
  replace hm_z := rn_iconst (w := 2) (am_cur_of (i := (88, 1, .iconst 2, (0, 0, 0), 0)) (by decide +kernel)) (by decide) hm_z
  replace hm_z := rn_cmp (am_cur_of (i := (89, 3, .if_icmp .eq 40, (70, 0, 0), 0)) (by decide +kernel)) hm_z
  rcases hm_z with ⟨b180_z, hm_z⟩ | ⟨b180_z, hm_z⟩
  · replace b180_z : w = (2 : Int32) ∧ w.toInt = (2 : Int32).toInt := b180_z
    have H70 := (wq_65_2_L (r := r) (g' := g') (w := w) (o := o) (x := x)  nst)
    exact wk_t (wk_u rfl (wk_u rfl (wk_u rfl (wk_u rfl (wk_u rfl (wk_u rfl wk_r)))))) (H70 _ _ g1_z g3_z g4_z (wd_b (wk_u rfl (wk_u rfl (wk_u rfl (wk_u rfl (wk_u rfl (wk_u rfl wk_r)))))) T) hm_z)
  · replace b180_z : ¬ w = (2 : Int32) ∧ ¬ w.toInt = (2 : Int32).toInt := b180_z
    replace hm_z := rn_aload (am_cur_of (i := (92, 2, .aload 4, (0, 0, 0), 0)) (by decide +kernel)) g4_z hm_z
    replace hm_z := rn_getR (x := 16) (am_cur_of (i := (94, 3, .getfield 72, (2, 6, 172), 0)) (by decide +kernel)) (by decide +kernel) hm_z
    replace hm_z := rn_iload_n (am_cur_of (i := (97, 1, .iload_n 1, (0, 0, 0), 0)) (by decide +kernel)) g1_z hm_z
    replace hm_z := rn_baload (N := 3) (q := w.toNatClampNeg) (v := rg_v g 16 w.toNatClampNeg) (am_cur_of (i := (98, 1, .baload, (0, 0, 0), 0)) (by decide +kernel)) (by decide +kernel) rfl (show rg_v (am_up (am_up (am_up (am_up (am_up (am_up g 17 1 (.long ((rg_v g 149 0).toInt64))) 17 2 (.long (((rg_v g 2 0) - (rg_v g 149 0)).toInt64))) 17 3 (.long o.toInt64)) 17 4 (.long ((rg_v g 149 1).toInt64))) 17 0 (.long 0)) 17 5 (.long 0)) 16 w.toNatClampNeg = rg_v g 16 w.toNatClampNeg from rfl) hm_z
    obtain ⟨p181_z, hm_z⟩ := hm_z
    replace hm_z := rn_if (am_cur_of (i := (99, 3, .ifCond .eq 30, (70, 0, 0), 0)) (by decide +kernel)) hm_z
    rcases hm_z with ⟨b182_z, hm_z⟩ | ⟨b182_z, hm_z⟩
    · replace b182_z : (rg_v g 16 w.toNatClampNeg) = (0 : Int32) ∧ (rg_v g 16 w.toNatClampNeg).toInt = (0 : Int32).toInt := b182_z
      have H70 := (wq_65_2_L (r := r) (g' := g') (w := w) (o := o) (x := x)  nst)
      exact wk_t (wk_u rfl (wk_u rfl (wk_u rfl (wk_u rfl (wk_u rfl (wk_u rfl wk_r)))))) (H70 _ _ g1_z g3_z g4_z (wd_b (wk_u rfl (wk_u rfl (wk_u rfl (wk_u rfl (wk_u rfl (wk_u rfl wk_r)))))) T) hm_z)
    · replace b182_z : ¬ (rg_v g 16 w.toNatClampNeg) = (0 : Int32) ∧ ¬ (rg_v g 16 w.toNatClampNeg).toInt = (0 : Int32).toInt := b182_z
      replace hm_z := rn_aload_n (am_cur_of (i := (102, 1, .aload_n 0, (0, 0, 0), 0)) (by decide +kernel)) g0_z hm_z
      replace hm_z := rn_getI (v := rg_v g 148 3) (am_cur_of (i := (103, 3, .getfield 33, (8, 3, 575), 0)) (by decide +kernel)) (by decide +kernel) (show rg_v (am_up (am_up (am_up (am_up (am_up (am_up g 17 1 (.long ((rg_v g 149 0).toInt64))) 17 2 (.long (((rg_v g 2 0) - (rg_v g 149 0)).toInt64))) 17 3 (.long o.toInt64)) 17 4 (.long ((rg_v g 149 1).toInt64))) 17 0 (.long 0)) 17 5 (.long 0)) 148 3 = rg_v g 148 3 from rfl) hm_z
      replace hm_z := rn_if (am_cur_of (i := (106, 3, .ifCond .ne 23, (70, 0, 0), 0)) (by decide +kernel)) hm_z
      rcases hm_z with ⟨b183_z, hm_z⟩ | ⟨b183_z, hm_z⟩
      · replace b183_z : ¬ (rg_v g 148 3) = (0 : Int32) ∧ ¬ (rg_v g 148 3).toInt = (0 : Int32).toInt := b183_z
        have H70 := (wq_65_2_L (r := r) (g' := g') (w := w) (o := o) (x := x)  nst)
        exact wk_t (wk_u rfl (wk_u rfl (wk_u rfl (wk_u rfl (wk_u rfl (wk_u rfl wk_r)))))) (H70 _ _ g1_z g3_z g4_z (wd_b (wk_u rfl (wk_u rfl (wk_u rfl (wk_u rfl (wk_u rfl (wk_u rfl wk_r)))))) T) hm_z)
      · replace b183_z : (rg_v g 148 3) = (0 : Int32) ∧ (rg_v g 148 3).toInt = (0 : Int32).toInt := b183_z
        replace hm_z := rn_aload (am_cur_of (i := (109, 2, .aload 4, (0, 0, 0), 0)) (by decide +kernel)) g4_z hm_z
        replace hm_z := rn_getR (x := 17) (am_cur_of (i := (111, 3, .getfield 66, (2, 7, 174), 0)) (by decide +kernel)) (by decide +kernel) hm_z
        replace hm_z := rn_iconst (w := 0) (am_cur_of (i := (114, 1, .iconst 0, (0, 0, 0), 0)) (by decide +kernel)) (by decide) hm_z
        replace hm_z := rn_aload (am_cur_of (i := (115, 2, .aload 4, (0, 0, 0), 0)) (by decide +kernel)) g4_z hm_z
        replace hm_z := rn_iconst (w := 2) (am_cur_of (i := (117, 1, .iconst 2, (0, 0, 0), 0)) (by decide +kernel)) (by decide) hm_z
        replace hm_z := rn_callV (M' := am_m66) (o := 11) (ar := [.int 2]) (rest := [.int 0, .ref 17]) (L := lv_args 0 [.ref 11, .int 2]) (am_cur_of (i := (118, 3, .invokevirtual 76, (66, 925, 3), 0)) (by decide +kernel)) rfl rfl rfl rfl hm_z
        obtain ⟨r184_z, h185_z, q186_z, hm_z⟩ := hm_z
        have k187_z := wq_66_2 q186_z
        obtain ⟨v188_z, rfl⟩ := fk_long (M := am_m66) rfl q186_z
        replace hm_z : rn _ _ _ _ [.long v188_z, .int 0, .ref 17] _ _ _ := hm_z
        replace hm_z := rn_bipush (w := 99) (am_cur_of (i := (121, 2, .bipush 99, (0, 0, 0), 0)) (by decide +kernel)) (by decide) hm_z
        replace hm_z := rn_iconst (w := 0) (am_cur_of (i := (123, 1, .iconst 0, (0, 0, 0), 0)) (by decide +kernel)) (by decide) hm_z
        replace hm_z := rn_callS (M' := am_m68) (ar := [.int 0, .int 99, .long v188_z]) (rest := [.int 0, .ref 17]) (L := lv_args 0 [.long v188_z, .int 99, .int 0]) (am_cur_of (i := (124, 3, .invokestatic 80, (68, 935, 3), 0)) (by decide +kernel)) rfl rfl rfl rfl hm_z
        obtain ⟨r189_z, h190_z, q191_z, hm_z⟩ := hm_z
        have k192_z := wq_68 q191_z
        obtain ⟨v193_z, rfl⟩ := rn_ret (M := am_m68) rfl (by decide) q191_z
        replace hm_z : rn _ _ _ _ [.int v193_z, .int 0, .ref 17] _ _ _ := hm_z
        replace hm_z := rn_i2l (w := v193_z.toInt64) (am_cur_of (i := (127, 1, .i2l, (0, 0, 0), 0)) (by decide +kernel)) rfl hm_z
        replace hm_z := rn_lastore (N := 6) (q := 0) (am_cur_of (i := (128, 1, .lastore, (0, 0, 0), 0)) (by decide +kernel)) (by decide +kernel) rfl hm_z
        obtain ⟨p194_z, hm_z⟩ := hm_z
        have H70 := (wq_65_2_L (r := r) (g' := g') (w := w) (o := o) (x := x)  nst)
        exact wk_t (wk_u rfl (wk_t (wk_t (wk_u rfl (wk_u rfl (wk_u rfl (wk_u rfl (wk_u rfl (wk_u rfl wk_r)))))) k187_z) k192_z)) (H70 _ _ g1_z g3_z g4_z (wd_b (wk_u rfl (wk_t (wk_t (wk_u rfl (wk_u rfl (wk_u rfl (wk_u rfl (wk_u rfl (wk_u rfl wk_r)))))) k187_z) k192_z)) T) hm_z)
theorem wq_66_23_L {r : Option Value} {g' : am_H} {k : Int32}  : ∀ f : Nat, (∀ (v2_z : Int32) (v3_z : Int32) (ls : am_L) (g : am_H), am_get ls 0 = some (.ref 32) → am_get ls 1 = some (.int k) → am_get ls 2 = some (.int v2_z) → am_get ls 3 = some (.int v3_z) → rn f am_m66 7 ls [] g r g' → wk g g') ∧ (∀ (v2_z : Int32) (v3_z : Int32) (v4_z : Int32) (ls : am_L) (g : am_H), am_get ls 0 = some (.ref 32) → am_get ls 1 = some (.int k) → am_get ls 2 = some (.int v2_z) → am_get ls 3 = some (.int v3_z) → am_get ls 4 = some (.int v4_z) → rn f am_m66 23 ls [] g r g' → wk g g') ∧ (∀ (ls : am_L) (g : am_H), rn f am_m66 103 ls [] g r g' → wk g g') ∧ (∀ (v2_z : Int32) (v3_z : Int32) (ls : am_L) (g : am_H), am_get ls 0 = some (.ref 32) → am_get ls 1 = some (.int k) → am_get ls 2 = some (.int v2_z) → am_get ls 3 = some (.int v3_z) → rn f am_m66 112 ls [] g r g' → wk g g') := by
  intro f
  induction f with
  | zero =>
    exact ⟨fun _ _ _ _ _ _ _ _ hm_z => absurd hm_z rn_0, fun _ _ _ _ _ _ _ _ _ _ hm_z => absurd hm_z rn_0, fun _ _ hm_z => absurd hm_z rn_0, fun _ _ _ _ _ _ _ _ hm_z => absurd hm_z rn_0⟩
  | succ f ih_z =>
    obtain ⟨I7, I23, I103, I112⟩ := ih_z
    have H112 : ∀ (v2_z : Int32) (v3_z : Int32) (ls : am_L) (g : am_H), am_get ls 0 = some (.ref 32) → am_get ls 1 = some (.int k) → am_get ls 2 = some (.int v2_z) → am_get ls 3 = some (.int v3_z) → rn (f + 1) am_m66 112 ls [] g r g' → wk g g' := by
      intro v2_z v3_z ls g g0_z g1_z g2_z g3_z hm_z
      replace hm_z := rn_iinc (w := v3_z + 1) (am_cur_of (i := (195, 3, .iinc 3 1, (0, 0, 0), 0)) (by decide +kernel)) g3_z rfl hm_z
      obtain ⟨_, s195_z, s196_z, g3_z, hm_z⟩ := hm_z
      replace g0_z := s195_z 0 _ (by decide) rfl g0_z
      replace g1_z := s195_z 1 _ (by decide) rfl g1_z
      replace g2_z := s195_z 2 _ (by decide) rfl g2_z
      clear s195_z s196_z
      replace hm_z := rn_gotoL (am_cur_of (i := (198, 3, .goto (-189), (7, 0, 0), 0)) (by decide +kernel)) hm_z
      exact wk_t wk_r (I7 v2_z (v3_z + 1) _ _ g0_z g1_z g2_z g3_z hm_z)
    have H103 : ∀ (ls : am_L) (g : am_H), rn (f + 1) am_m66 103 ls [] g r g' → wk g g' := by
      intro ls g hm_z
      replace hm_z := rn_ldc2 (w := (-9223372036854775808)) (am_cur_of (i := (181, 3, .ldc2_w 42, (0, 0, 929), (-9223372036854775808))) (by decide +kernel)) (by decide) hm_z
      replace hm_z := rn_lret (am_cur_of (i := (184, 1, .lreturn, (0, 0, 0), 0)) (by decide +kernel)) hm_z
      obtain ⟨e197_z, e198_z⟩ := hm_z
      rw [e198_z]
      exact wk_r
    have H23 : ∀ (v2_z : Int32) (v3_z : Int32) (v4_z : Int32) (ls : am_L) (g : am_H), am_get ls 0 = some (.ref 32) → am_get ls 1 = some (.int k) → am_get ls 2 = some (.int v2_z) → am_get ls 3 = some (.int v3_z) → am_get ls 4 = some (.int v4_z) → rn (f + 1) am_m66 23 ls [] g r g' → wk g g' := by
      intro v2_z v3_z v4_z ls g g0_z g1_z g2_z g3_z g4_z hm_z
      have z0_z : (0 : Int32).toInt = 0 := by decide
      have z64_z : (64 : Int32).toInt = 64 := by decide
      replace hm_z := rn_iload_n (am_cur_of (i := (38, 1, .iload_n 2, (0, 0, 0), 0)) (by decide +kernel)) g2_z hm_z
      replace hm_z := rn_bipush (w := 64) (am_cur_of (i := (39, 2, .bipush 64, (0, 0, 0), 0)) (by decide +kernel)) (by decide) hm_z
      replace hm_z := rn_cmp (am_cur_of (i := (41, 3, .if_icmp .lt 7, (28, 0, 0), 0)) (by decide +kernel)) hm_z
      rcases hm_z with ⟨b199_z, hm_z⟩ | ⟨b199_z, hm_z⟩
      · replace b199_z : v2_z.toInt < (64 : Int32).toInt := b199_z
        replace hm_z := rn_aload_n (am_cur_of (i := (48, 1, .aload_n 0, (0, 0, 0), 0)) (by decide +kernel)) g0_z hm_z
        replace hm_z := rn_getR (x := 39) (am_cur_of (i := (49, 3, .getfield 32, (2, 8, 175), 0)) (by decide +kernel)) (by decide +kernel) hm_z
        replace hm_z := rn_iload_n (am_cur_of (i := (52, 1, .iload_n 2, (0, 0, 0), 0)) (by decide +kernel)) g2_z hm_z
        replace hm_z := rn_iload (am_cur_of (i := (53, 2, .iload 4, (0, 0, 0), 0)) (by decide +kernel)) g4_z hm_z
        replace hm_z := rn_if (am_cur_of (i := (55, 3, .ifCond .ne 13, (39, 0, 0), 0)) (by decide +kernel)) hm_z
        rcases hm_z with ⟨b200_z, hm_z⟩ | ⟨b200_z, hm_z⟩
        · replace b200_z : ¬ v4_z = (0 : Int32) ∧ ¬ v4_z.toInt = (0 : Int32).toInt := b200_z
          replace hm_z := rn_aload_n (am_cur_of (i := (68, 1, .aload_n 0, (0, 0, 0), 0)) (by decide +kernel)) g0_z hm_z
          replace hm_z := rn_getR (x := 38) (am_cur_of (i := (69, 3, .getfield 28, (2, 7, 173), 0)) (by decide +kernel)) (by decide +kernel) hm_z
          replace hm_z := rn_aload_n (am_cur_of (i := (72, 1, .aload_n 0, (0, 0, 0), 0)) (by decide +kernel)) g0_z hm_z
          replace hm_z := rn_getR (x := 34) (am_cur_of (i := (73, 3, .getfield 15, (2, 3, 168), 0)) (by decide +kernel)) (by decide +kernel) hm_z
          replace hm_z := rn_iload_n (am_cur_of (i := (76, 1, .iload_n 3, (0, 0, 0), 0)) (by decide +kernel)) g3_z hm_z
          replace hm_z := rn_iaload (N := 64) (q := v3_z.toNatClampNeg) (v := rg_v g 34 v3_z.toNatClampNeg) (am_cur_of (i := (77, 1, .iaload, (0, 0, 0), 0)) (by decide +kernel)) (by decide +kernel) rfl rfl hm_z
          obtain ⟨p201_z, hm_z⟩ := hm_z
          replace hm_z := rn_laload (N := 6) (q := (rg_v g 34 v3_z.toNatClampNeg).toNatClampNeg) (v := rg_l g 38 ((rg_v g 34 v3_z.toNatClampNeg).toNatClampNeg)) (am_cur_of (i := (78, 1, .laload, (0, 0, 0), 0)) (by decide +kernel)) (by decide +kernel) rfl rfl hm_z
          obtain ⟨p202_z, hm_z⟩ := hm_z
          replace hm_z := rn_lastore (N := 64) (q := v2_z.toNatClampNeg) (am_cur_of (i := (79, 1, .lastore, (0, 0, 0), 0)) (by decide +kernel)) (by decide +kernel) rfl hm_z
          obtain ⟨p203_z, hm_z⟩ := hm_z
          replace hm_z := rn_iinc (w := v2_z + 1) (am_cur_of (i := (80, 3, .iinc 2 1, (0, 0, 0), 0)) (by decide +kernel)) g2_z rfl hm_z
          obtain ⟨_, s204_z, s205_z, g2_z, hm_z⟩ := hm_z
          replace g0_z := s204_z 0 _ (by decide) rfl g0_z
          replace g1_z := s204_z 1 _ (by decide) rfl g1_z
          replace g3_z := s204_z 3 _ (by decide) rfl g3_z
          replace g4_z := s204_z 4 _ (by decide) rfl g4_z
          clear s204_z s205_z
          replace hm_z := rn_goto (am_cur_of (i := (83, 3, .goto 112, (112, 0, 0), 0)) (by decide +kernel)) hm_z
          exact wk_t (wk_u rfl wk_r) (H112 (v2_z + 1) v3_z _ _ g0_z g1_z g2_z g3_z hm_z)
        · replace b200_z : v4_z = (0 : Int32) ∧ v4_z.toInt = (0 : Int32).toInt := b200_z
          replace hm_z := rn_aload_n (am_cur_of (i := (58, 1, .aload_n 0, (0, 0, 0), 0)) (by decide +kernel)) g0_z hm_z
          replace hm_z := rn_getR (x := 34) (am_cur_of (i := (59, 3, .getfield 15, (2, 3, 168), 0)) (by decide +kernel)) (by decide +kernel) hm_z
          replace hm_z := rn_iload_n (am_cur_of (i := (62, 1, .iload_n 3, (0, 0, 0), 0)) (by decide +kernel)) g3_z hm_z
          replace hm_z := rn_iaload (N := 64) (q := v3_z.toNatClampNeg) (v := rg_v g 34 v3_z.toNatClampNeg) (am_cur_of (i := (63, 1, .iaload, (0, 0, 0), 0)) (by decide +kernel)) (by decide +kernel) rfl rfl hm_z
          obtain ⟨p206_z, hm_z⟩ := hm_z
          replace hm_z := rn_i2l (w := (rg_v g 34 v3_z.toNatClampNeg).toInt64) (am_cur_of (i := (64, 1, .i2l, (0, 0, 0), 0)) (by decide +kernel)) rfl hm_z
          replace hm_z := rn_goto (am_cur_of (i := (65, 3, .goto 14, (46, 0, 0), 0)) (by decide +kernel)) hm_z
          replace hm_z := rn_lastore (N := 64) (q := v2_z.toNatClampNeg) (am_cur_of (i := (79, 1, .lastore, (0, 0, 0), 0)) (by decide +kernel)) (by decide +kernel) rfl hm_z
          obtain ⟨p207_z, hm_z⟩ := hm_z
          replace hm_z := rn_iinc (w := v2_z + 1) (am_cur_of (i := (80, 3, .iinc 2 1, (0, 0, 0), 0)) (by decide +kernel)) g2_z rfl hm_z
          obtain ⟨_, s208_z, s209_z, g2_z, hm_z⟩ := hm_z
          replace g0_z := s208_z 0 _ (by decide) rfl g0_z
          replace g1_z := s208_z 1 _ (by decide) rfl g1_z
          replace g3_z := s208_z 3 _ (by decide) rfl g3_z
          replace g4_z := s208_z 4 _ (by decide) rfl g4_z
          clear s208_z s209_z
          replace hm_z := rn_goto (am_cur_of (i := (83, 3, .goto 112, (112, 0, 0), 0)) (by decide +kernel)) hm_z
          exact wk_t (wk_u rfl wk_r) (H112 (v2_z + 1) v3_z _ _ g0_z g1_z g2_z g3_z hm_z)
      · replace b199_z : (64 : Int32).toInt ≤ v2_z.toInt := b199_z
        replace hm_z := rn_ldc2 (w := (-9223372036854775808)) (am_cur_of (i := (44, 3, .ldc2_w 42, (0, 0, 929), (-9223372036854775808))) (by decide +kernel)) (by decide) hm_z
        replace hm_z := rn_lret (am_cur_of (i := (47, 1, .lreturn, (0, 0, 0), 0)) (by decide +kernel)) hm_z
        obtain ⟨e210_z, e211_z⟩ := hm_z
        rw [e211_z]
        exact wk_r
    have H7 : ∀ (v2_z : Int32) (v3_z : Int32) (ls : am_L) (g : am_H), am_get ls 0 = some (.ref 32) → am_get ls 1 = some (.int k) → am_get ls 2 = some (.int v2_z) → am_get ls 3 = some (.int v3_z) → rn (f + 1) am_m66 7 ls [] g r g' → wk g g' := by
      intro v2_z v3_z ls g g0_z g1_z g2_z g3_z hm_z
      have z0_z : (0 : Int32).toInt = 0 := by decide
      have z1_z : (1 : Int32).toInt = 1 := by decide
      have z2_z : (2 : Int32).toInt = 2 := by decide
      have z5_z : (5 : Int32).toInt = 5 := by decide
      replace hm_z := rn_iload_n (am_cur_of (i := (9, 1, .iload_n 3, (0, 0, 0), 0)) (by decide +kernel)) g3_z hm_z
      replace hm_z := rn_aload_n (am_cur_of (i := (10, 1, .aload_n 0, (0, 0, 0), 0)) (by decide +kernel)) g0_z hm_z
      replace hm_z := rn_getR (x := 36) (am_cur_of (i := (11, 3, .getfield 21, (2, 5, 170), 0)) (by decide +kernel)) (by decide +kernel) hm_z
      replace hm_z := rn_iload_n (am_cur_of (i := (14, 1, .iload_n 1, (0, 0, 0), 0)) (by decide +kernel)) g1_z hm_z
      replace hm_z := rn_iaload (N := 3) (q := k.toNatClampNeg) (v := rg_v g 36 k.toNatClampNeg) (am_cur_of (i := (15, 1, .iaload, (0, 0, 0), 0)) (by decide +kernel)) (by decide +kernel) rfl rfl hm_z
      obtain ⟨p212_z, hm_z⟩ := hm_z
      replace hm_z := rn_cmp (am_cur_of (i := (16, 3, .if_icmp .ge 185, (114, 0, 0), 0)) (by decide +kernel)) hm_z
      rcases hm_z with ⟨b213_z, hm_z⟩ | ⟨b213_z, hm_z⟩
      · replace b213_z : (rg_v g 36 k.toNatClampNeg).toInt ≤ v3_z.toInt := b213_z
        replace hm_z := rn_iload_n (am_cur_of (i := (201, 1, .iload_n 2, (0, 0, 0), 0)) (by decide +kernel)) g2_z hm_z
        replace hm_z := rn_iconst (w := 1) (am_cur_of (i := (202, 1, .iconst 1, (0, 0, 0), 0)) (by decide +kernel)) (by decide) hm_z
        replace hm_z := rn_cmp (am_cur_of (i := (203, 3, .if_icmp .ne 12, (122, 0, 0), 0)) (by decide +kernel)) hm_z
        rcases hm_z with ⟨b214_z, hm_z⟩ | ⟨b214_z, hm_z⟩
        · replace b214_z : ¬ v2_z = (1 : Int32) ∧ ¬ v2_z.toInt = (1 : Int32).toInt := b214_z
          replace hm_z := rn_ldc2 (w := (-9223372036854775808)) (am_cur_of (i := (215, 3, .ldc2_w 42, (0, 0, 929), (-9223372036854775808))) (by decide +kernel)) (by decide) hm_z
          replace hm_z := rn_lret (am_cur_of (i := (218, 1, .lreturn, (0, 0, 0), 0)) (by decide +kernel)) hm_z
          obtain ⟨e215_z, e216_z⟩ := hm_z
          rw [e216_z]
          exact wk_r
        · replace b214_z : v2_z = (1 : Int32) ∧ v2_z.toInt = (1 : Int32).toInt := b214_z
          replace hm_z := rn_aload_n (am_cur_of (i := (206, 1, .aload_n 0, (0, 0, 0), 0)) (by decide +kernel)) g0_z hm_z
          replace hm_z := rn_getR (x := 39) (am_cur_of (i := (207, 3, .getfield 32, (2, 8, 175), 0)) (by decide +kernel)) (by decide +kernel) hm_z
          replace hm_z := rn_iconst (w := 0) (am_cur_of (i := (210, 1, .iconst 0, (0, 0, 0), 0)) (by decide +kernel)) (by decide) hm_z
          replace hm_z := rn_laload (N := 64) (q := 0) (v := rg_l g 39 0) (am_cur_of (i := (211, 1, .laload, (0, 0, 0), 0)) (by decide +kernel)) (by decide +kernel) rfl rfl hm_z
          obtain ⟨p217_z, hm_z⟩ := hm_z
          replace hm_z := rn_goto (am_cur_of (i := (212, 3, .goto 6, (123, 0, 0), 0)) (by decide +kernel)) hm_z
          replace hm_z := rn_lret (am_cur_of (i := (218, 1, .lreturn, (0, 0, 0), 0)) (by decide +kernel)) hm_z
          obtain ⟨e218_z, e219_z⟩ := hm_z
          rw [e219_z]
          exact wk_r
      · replace b213_z : v3_z.toInt < (rg_v g 36 k.toNatClampNeg).toInt := b213_z
        replace hm_z := rn_aload_n (am_cur_of (i := (19, 1, .aload_n 0, (0, 0, 0), 0)) (by decide +kernel)) g0_z hm_z
        replace hm_z := rn_getR (x := 33) (am_cur_of (i := (20, 3, .getfield 9, (2, 2, 167), 0)) (by decide +kernel)) (by decide +kernel) hm_z
        replace hm_z := rn_iload_n (am_cur_of (i := (23, 1, .iload_n 3, (0, 0, 0), 0)) (by decide +kernel)) g3_z hm_z
        replace hm_z := rn_iaload (N := 64) (q := v3_z.toNatClampNeg) (v := rg_v g 33 v3_z.toNatClampNeg) (am_cur_of (i := (24, 1, .iaload, (0, 0, 0), 0)) (by decide +kernel)) (by decide +kernel) rfl rfl hm_z
        obtain ⟨p220_z, hm_z⟩ := hm_z
        replace hm_z := rn_istore (am_cur_of (i := (25, 2, .istore 4, (0, 0, 0), 0)) (by decide +kernel)) hm_z
        obtain ⟨_, s221_z, s222_z, g4_z, hm_z⟩ := hm_z
        replace g0_z := s221_z 0 _ (by decide) rfl g0_z
        replace g1_z := s221_z 1 _ (by decide) rfl g1_z
        replace g2_z := s221_z 2 _ (by decide) rfl g2_z
        replace g3_z := s221_z 3 _ (by decide) rfl g3_z
        clear s221_z s222_z
        replace hm_z := rn_iload (am_cur_of (i := (27, 2, .iload 4, (0, 0, 0), 0)) (by decide +kernel)) g4_z hm_z
        replace hm_z := rn_if (am_cur_of (i := (29, 3, .ifCond .eq 9, (23, 0, 0), 0)) (by decide +kernel)) hm_z
        rcases hm_z with ⟨b223_z, hm_z⟩ | ⟨b223_z, hm_z⟩
        · replace b223_z : (rg_v g 33 v3_z.toNatClampNeg) = (0 : Int32) ∧ (rg_v g 33 v3_z.toNatClampNeg).toInt = (0 : Int32).toInt := b223_z
          exact wk_t wk_r (H23 v2_z v3_z (rg_v g 33 v3_z.toNatClampNeg) _ _ g0_z g1_z g2_z g3_z g4_z hm_z)
        · replace b223_z : ¬ (rg_v g 33 v3_z.toNatClampNeg) = (0 : Int32) ∧ ¬ (rg_v g 33 v3_z.toNatClampNeg).toInt = (0 : Int32).toInt := b223_z
          replace hm_z := rn_iload (am_cur_of (i := (32, 2, .iload 4, (0, 0, 0), 0)) (by decide +kernel)) g4_z hm_z
          replace hm_z := rn_iconst (w := 1) (am_cur_of (i := (34, 1, .iconst 1, (0, 0, 0), 0)) (by decide +kernel)) (by decide) hm_z
          replace hm_z := rn_cmp (am_cur_of (i := (35, 3, .if_icmp .ne 51, (49, 0, 0), 0)) (by decide +kernel)) hm_z
          rcases hm_z with ⟨b224_z, hm_z⟩ | ⟨b224_z, hm_z⟩
          · replace b224_z : ¬ (rg_v g 33 v3_z.toNatClampNeg) = (1 : Int32) ∧ ¬ (rg_v g 33 v3_z.toNatClampNeg).toInt = (1 : Int32).toInt := b224_z
            replace hm_z := rn_iload (am_cur_of (i := (86, 2, .iload 4, (0, 0, 0), 0)) (by decide +kernel)) g4_z hm_z
            replace hm_z := rn_iconst (w := 5) (am_cur_of (i := (88, 1, .iconst 5, (0, 0, 0), 0)) (by decide +kernel)) (by decide) hm_z
            replace hm_z := rn_cmp (am_cur_of (i := (89, 3, .if_icmp .ne 41, (76, 0, 0), 0)) (by decide +kernel)) hm_z
            rcases hm_z with ⟨b225_z, hm_z⟩ | ⟨b225_z, hm_z⟩
            · replace b225_z : ¬ (rg_v g 33 v3_z.toNatClampNeg) = (5 : Int32) ∧ ¬ (rg_v g 33 v3_z.toNatClampNeg).toInt = (5 : Int32).toInt := b225_z
              replace hm_z := rn_iload_n (am_cur_of (i := (130, 1, .iload_n 2, (0, 0, 0), 0)) (by decide +kernel)) g2_z hm_z
              replace hm_z := rn_iconst (w := 2) (am_cur_of (i := (131, 1, .iconst 2, (0, 0, 0), 0)) (by decide +kernel)) (by decide) hm_z
              replace hm_z := rn_cmp (am_cur_of (i := (132, 3, .if_icmp .ge 7, (81, 0, 0), 0)) (by decide +kernel)) hm_z
              rcases hm_z with ⟨b226_z, hm_z⟩ | ⟨b226_z, hm_z⟩
              · replace b226_z : (2 : Int32).toInt ≤ v2_z.toInt := b226_z
                replace hm_z := rn_iinc (w := v2_z + (-1)) (am_cur_of (i := (139, 3, .iinc 2 (-1), (0, 0, 0), 0)) (by decide +kernel)) g2_z (congrArg (fun z => v2_z + z) (show Int32.ofInt (-1) = (-1) by decide)) hm_z
                obtain ⟨_, s227_z, s228_z, g2_z, hm_z⟩ := hm_z
                replace g0_z := s227_z 0 _ (by decide) rfl g0_z
                replace g1_z := s227_z 1 _ (by decide) rfl g1_z
                replace g3_z := s227_z 3 _ (by decide) rfl g3_z
                replace g4_z := s227_z 4 _ (by decide) rfl g4_z
                clear s227_z s228_z
                replace hm_z := rn_iload (am_cur_of (i := (142, 2, .iload 4, (0, 0, 0), 0)) (by decide +kernel)) g4_z hm_z
                replace hm_z := rn_aload_n (am_cur_of (i := (144, 1, .aload_n 0, (0, 0, 0), 0)) (by decide +kernel)) g0_z hm_z
                replace hm_z := rn_getR (x := 39) (am_cur_of (i := (145, 3, .getfield 32, (2, 8, 175), 0)) (by decide +kernel)) (by decide +kernel) hm_z
                replace hm_z := rn_iload_n (am_cur_of (i := (148, 1, .iload_n 2, (0, 0, 0), 0)) (by decide +kernel)) g2_z hm_z
                replace hm_z := rn_iconst (w := 1) (am_cur_of (i := (149, 1, .iconst 1, (0, 0, 0), 0)) (by decide +kernel)) (by decide) hm_z
                replace hm_z := rn_isub (w := (v2_z + (-1)) - 1) (am_cur_of (i := (150, 1, .isub, (0, 0, 0), 0)) (by decide +kernel)) rfl hm_z
                replace hm_z := rn_laload (N := 64) (q := ((v2_z + (-1)) - 1).toNatClampNeg) (v := rg_l g 39 (((v2_z + (-1)) - 1).toNatClampNeg)) (am_cur_of (i := (151, 1, .laload, (0, 0, 0), 0)) (by decide +kernel)) (by decide +kernel) rfl rfl hm_z
                obtain ⟨p229_z, hm_z⟩ := hm_z
                replace hm_z := rn_aload_n (am_cur_of (i := (152, 1, .aload_n 0, (0, 0, 0), 0)) (by decide +kernel)) g0_z hm_z
                replace hm_z := rn_getR (x := 39) (am_cur_of (i := (153, 3, .getfield 32, (2, 8, 175), 0)) (by decide +kernel)) (by decide +kernel) hm_z
                replace hm_z := rn_iload_n (am_cur_of (i := (156, 1, .iload_n 2, (0, 0, 0), 0)) (by decide +kernel)) g2_z hm_z
                replace hm_z := rn_laload (N := 64) (q := (v2_z + (-1)).toNatClampNeg) (v := rg_l g 39 ((v2_z + (-1)).toNatClampNeg)) (am_cur_of (i := (157, 1, .laload, (0, 0, 0), 0)) (by decide +kernel)) (by decide +kernel) rfl rfl hm_z
                obtain ⟨p230_z, hm_z⟩ := hm_z
                replace hm_z := rn_callS (M' := am_m67) (ar := [.long (rg_l g 39 ((v2_z + (-1)).toNatClampNeg)), .long (rg_l g 39 (((v2_z + (-1)) - 1).toNatClampNeg)), .int (rg_v g 33 v3_z.toNatClampNeg)]) (rest := []) (L := lv_args 0 [.int (rg_v g 33 v3_z.toNatClampNeg), .long (rg_l g 39 (((v2_z + (-1)) - 1).toNatClampNeg)), .long (rg_l g 39 ((v2_z + (-1)).toNatClampNeg))]) (am_cur_of (i := (158, 3, .invokestatic 44, (67, 930, 3), 0)) (by decide +kernel)) rfl rfl rfl rfl hm_z
                obtain ⟨r231_z, h232_z, q233_z, hm_z⟩ := hm_z
                have k234_z := wq_67 q233_z
                obtain ⟨v235_z, rfl⟩ := fk_long (M := am_m67) rfl q233_z
                replace hm_z : rn _ _ _ _ [.long v235_z] _ _ _ := hm_z
                replace hm_z := rn_lstore (am_cur_of (i := (161, 2, .lstore 5, (0, 0, 0), 0)) (by decide +kernel)) hm_z
                obtain ⟨_, s236_z, s237_z, g5_z, hm_z⟩ := hm_z
                replace g0_z := s236_z 0 _ (by decide) (by decide) rfl g0_z
                replace g1_z := s236_z 1 _ (by decide) (by decide) rfl g1_z
                replace g2_z := s236_z 2 _ (by decide) (by decide) rfl g2_z
                replace g3_z := s236_z 3 _ (by decide) (by decide) rfl g3_z
                replace g4_z := s236_z 4 _ (by decide) (by decide) rfl g4_z
                clear s236_z s237_z
                replace hm_z := rn_lload (am_cur_of (i := (163, 2, .lload 5, (0, 0, 0), 0)) (by decide +kernel)) g5_z hm_z
                replace hm_z := rn_ldc2 (w := 1000000000000) (am_cur_of (i := (165, 3, .ldc2_w 48, (0, 0, 933), 1000000000000)) (by decide +kernel)) (by decide) hm_z
                replace hm_z := rn_lcmp (w := lg_cmp v235_z 1000000000000) (am_cur_of (i := (168, 1, .lcmp, (0, 0, 0), 0)) (by decide +kernel)) rfl hm_z
                replace hm_z := rn_if (am_cur_of (i := (169, 3, .ifCond .gt 12, (103, 0, 0), 0)) (by decide +kernel)) hm_z
                rcases hm_z with ⟨b238_z, hm_z⟩ | ⟨b238_z, hm_z⟩
                · replace b238_z : (0 : Int32).toInt < (lg_cmp v235_z 1000000000000).toInt := b238_z
                  exact wk_t (wk_t wk_r k234_z) (H103 _ _ hm_z)
                · replace b238_z : (lg_cmp v235_z 1000000000000).toInt ≤ (0 : Int32).toInt := b238_z
                  replace hm_z := rn_lload (am_cur_of (i := (172, 2, .lload 5, (0, 0, 0), 0)) (by decide +kernel)) g5_z hm_z
                  replace hm_z := rn_ldc2 (w := (-1000000000000)) (am_cur_of (i := (174, 3, .ldc2_w 50, (0, 0, 934), (-1000000000000))) (by decide +kernel)) (by decide) hm_z
                  replace hm_z := rn_lcmp (w := lg_cmp v235_z (-1000000000000)) (am_cur_of (i := (177, 1, .lcmp, (0, 0, 0), 0)) (by decide +kernel)) rfl hm_z
                  replace hm_z := rn_if (am_cur_of (i := (178, 3, .ifCond .ge 7, (105, 0, 0), 0)) (by decide +kernel)) hm_z
                  rcases hm_z with ⟨b239_z, hm_z⟩ | ⟨b239_z, hm_z⟩
                  · replace b239_z : (0 : Int32).toInt ≤ (lg_cmp v235_z (-1000000000000)).toInt := b239_z
                    replace hm_z := rn_aload_n (am_cur_of (i := (185, 1, .aload_n 0, (0, 0, 0), 0)) (by decide +kernel)) g0_z hm_z
                    replace hm_z := rn_getR (x := 39) (am_cur_of (i := (186, 3, .getfield 32, (2, 8, 175), 0)) (by decide +kernel)) (by decide +kernel) hm_z
                    replace hm_z := rn_iload_n (am_cur_of (i := (189, 1, .iload_n 2, (0, 0, 0), 0)) (by decide +kernel)) g2_z hm_z
                    replace hm_z := rn_iconst (w := 1) (am_cur_of (i := (190, 1, .iconst 1, (0, 0, 0), 0)) (by decide +kernel)) (by decide) hm_z
                    replace hm_z := rn_isub (w := (v2_z + (-1)) - 1) (am_cur_of (i := (191, 1, .isub, (0, 0, 0), 0)) (by decide +kernel)) rfl hm_z
                    replace hm_z := rn_lload (am_cur_of (i := (192, 2, .lload 5, (0, 0, 0), 0)) (by decide +kernel)) g5_z hm_z
                    replace hm_z := rn_lastore (N := 64) (q := ((v2_z + (-1)) - 1).toNatClampNeg) (am_cur_of (i := (194, 1, .lastore, (0, 0, 0), 0)) (by decide +kernel)) (by decide +kernel) rfl hm_z
                    obtain ⟨p240_z, hm_z⟩ := hm_z
                    exact wk_t (wk_u rfl (wk_t wk_r k234_z)) (H112 (v2_z + (-1)) v3_z _ _ g0_z g1_z g2_z g3_z hm_z)
                  · replace b239_z : (lg_cmp v235_z (-1000000000000)).toInt < (0 : Int32).toInt := b239_z
                    exact wk_t (wk_t wk_r k234_z) (H103 _ _ hm_z)
              · replace b226_z : v2_z.toInt < (2 : Int32).toInt := b226_z
                replace hm_z := rn_ldc2 (w := (-9223372036854775808)) (am_cur_of (i := (135, 3, .ldc2_w 42, (0, 0, 929), (-9223372036854775808))) (by decide +kernel)) (by decide) hm_z
                replace hm_z := rn_lret (am_cur_of (i := (138, 1, .lreturn, (0, 0, 0), 0)) (by decide +kernel)) hm_z
                obtain ⟨e241_z, e242_z⟩ := hm_z
                rw [e242_z]
                exact wk_r
            · replace b225_z : (rg_v g 33 v3_z.toNatClampNeg) = (5 : Int32) ∧ (rg_v g 33 v3_z.toNatClampNeg).toInt = (5 : Int32).toInt := b225_z
              replace hm_z := rn_iload_n (am_cur_of (i := (92, 1, .iload_n 2, (0, 0, 0), 0)) (by decide +kernel)) g2_z hm_z
              replace hm_z := rn_iconst (w := 1) (am_cur_of (i := (93, 1, .iconst 1, (0, 0, 0), 0)) (by decide +kernel)) (by decide) hm_z
              replace hm_z := rn_cmp (am_cur_of (i := (94, 3, .if_icmp .ge 7, (57, 0, 0), 0)) (by decide +kernel)) hm_z
              rcases hm_z with ⟨b243_z, hm_z⟩ | ⟨b243_z, hm_z⟩
              · replace b243_z : (1 : Int32).toInt ≤ v2_z.toInt := b243_z
                replace hm_z := rn_aload_n (am_cur_of (i := (101, 1, .aload_n 0, (0, 0, 0), 0)) (by decide +kernel)) g0_z hm_z
                replace hm_z := rn_getR (x := 39) (am_cur_of (i := (102, 3, .getfield 32, (2, 8, 175), 0)) (by decide +kernel)) (by decide +kernel) hm_z
                replace hm_z := rn_iload_n (am_cur_of (i := (105, 1, .iload_n 2, (0, 0, 0), 0)) (by decide +kernel)) g2_z hm_z
                replace hm_z := rn_iconst (w := 1) (am_cur_of (i := (106, 1, .iconst 1, (0, 0, 0), 0)) (by decide +kernel)) (by decide) hm_z
                replace hm_z := rn_isub (w := v2_z - 1) (am_cur_of (i := (107, 1, .isub, (0, 0, 0), 0)) (by decide +kernel)) rfl hm_z
                replace hm_z := rn_aload_n (am_cur_of (i := (108, 1, .aload_n 0, (0, 0, 0), 0)) (by decide +kernel)) g0_z hm_z
                replace hm_z := rn_getR (x := 39) (am_cur_of (i := (109, 3, .getfield 32, (2, 8, 175), 0)) (by decide +kernel)) (by decide +kernel) hm_z
                replace hm_z := rn_iload_n (am_cur_of (i := (112, 1, .iload_n 2, (0, 0, 0), 0)) (by decide +kernel)) g2_z hm_z
                replace hm_z := rn_iconst (w := 1) (am_cur_of (i := (113, 1, .iconst 1, (0, 0, 0), 0)) (by decide +kernel)) (by decide) hm_z
                replace hm_z := rn_isub (w := v2_z - 1) (am_cur_of (i := (114, 1, .isub, (0, 0, 0), 0)) (by decide +kernel)) rfl hm_z
                replace hm_z := rn_laload (N := 64) (q := (v2_z - 1).toNatClampNeg) (v := rg_l g 39 ((v2_z - 1).toNatClampNeg)) (am_cur_of (i := (115, 1, .laload, (0, 0, 0), 0)) (by decide +kernel)) (by decide +kernel) rfl rfl hm_z
                obtain ⟨p244_z, hm_z⟩ := hm_z
                replace hm_z := rn_lconst (w := 0) (am_cur_of (i := (116, 1, .lconst 0, (0, 0, 0), 0)) (by decide +kernel)) rfl hm_z
                replace hm_z := rn_lcmp (w := lg_cmp (rg_l g 39 ((v2_z - 1).toNatClampNeg)) 0) (am_cur_of (i := (117, 1, .lcmp, (0, 0, 0), 0)) (by decide +kernel)) rfl hm_z
                replace hm_z := rn_if (am_cur_of (i := (118, 3, .ifCond .ne 7, (73, 0, 0), 0)) (by decide +kernel)) hm_z
                rcases hm_z with ⟨b245_z, hm_z⟩ | ⟨b245_z, hm_z⟩
                · replace b245_z : ¬ (lg_cmp (rg_l g 39 ((v2_z - 1).toNatClampNeg)) 0) = (0 : Int32) ∧ ¬ (lg_cmp (rg_l g 39 ((v2_z - 1).toNatClampNeg)) 0).toInt = (0 : Int32).toInt := b245_z
                  replace hm_z := rn_lconst (w := 0) (am_cur_of (i := (125, 1, .lconst 0, (0, 0, 0), 0)) (by decide +kernel)) rfl hm_z
                  replace hm_z := rn_lastore (N := 64) (q := (v2_z - 1).toNatClampNeg) (am_cur_of (i := (126, 1, .lastore, (0, 0, 0), 0)) (by decide +kernel)) (by decide +kernel) rfl hm_z
                  obtain ⟨p246_z, hm_z⟩ := hm_z
                  replace hm_z := rn_goto (am_cur_of (i := (127, 3, .goto 68, (112, 0, 0), 0)) (by decide +kernel)) hm_z
                  exact wk_t (wk_u rfl wk_r) (H112 v2_z v3_z _ _ g0_z g1_z g2_z g3_z hm_z)
                · replace b245_z : (lg_cmp (rg_l g 39 ((v2_z - 1).toNatClampNeg)) 0) = (0 : Int32) ∧ (lg_cmp (rg_l g 39 ((v2_z - 1).toNatClampNeg)) 0).toInt = (0 : Int32).toInt := b245_z
                  replace hm_z := rn_lconst (w := 1) (am_cur_of (i := (121, 1, .lconst 1, (0, 0, 0), 0)) (by decide +kernel)) rfl hm_z
                  replace hm_z := rn_goto (am_cur_of (i := (122, 3, .goto 4, (74, 0, 0), 0)) (by decide +kernel)) hm_z
                  replace hm_z := rn_lastore (N := 64) (q := (v2_z - 1).toNatClampNeg) (am_cur_of (i := (126, 1, .lastore, (0, 0, 0), 0)) (by decide +kernel)) (by decide +kernel) rfl hm_z
                  obtain ⟨p247_z, hm_z⟩ := hm_z
                  replace hm_z := rn_goto (am_cur_of (i := (127, 3, .goto 68, (112, 0, 0), 0)) (by decide +kernel)) hm_z
                  exact wk_t (wk_u rfl wk_r) (H112 v2_z v3_z _ _ g0_z g1_z g2_z g3_z hm_z)
              · replace b243_z : v2_z.toInt < (1 : Int32).toInt := b243_z
                replace hm_z := rn_ldc2 (w := (-9223372036854775808)) (am_cur_of (i := (97, 3, .ldc2_w 42, (0, 0, 929), (-9223372036854775808))) (by decide +kernel)) (by decide) hm_z
                replace hm_z := rn_lret (am_cur_of (i := (100, 1, .lreturn, (0, 0, 0), 0)) (by decide +kernel)) hm_z
                obtain ⟨e248_z, e249_z⟩ := hm_z
                rw [e249_z]
                exact wk_r
          · replace b224_z : (rg_v g 33 v3_z.toNatClampNeg) = (1 : Int32) ∧ (rg_v g 33 v3_z.toNatClampNeg).toInt = (1 : Int32).toInt := b224_z
            exact wk_t wk_r (H23 v2_z v3_z (rg_v g 33 v3_z.toNatClampNeg) _ _ g0_z g1_z g2_z g3_z g4_z hm_z)
    exact ⟨H7, H23, H103, H112⟩
theorem wq_66_23 {nst : Nat} {r : Option Value} {g g' : am_H} {k : Int32}  (hm_z : rn nst am_m66 0 (lv_args 0 [.ref 32, .int k]) [] g r g') : wk g g' := by
  have g0_z : am_get (lv_args 0 [.ref 32, .int k]) 0 = some (.ref 32) := rfl
  have g1_z : am_get (lv_args 0 [.ref 32, .int k]) 1 = some (.int k) := rfl
  replace hm_z := rn_iconst (w := 0) (am_cur_of (i := (0, 1, .iconst 0, (0, 0, 0), 0)) (by decide +kernel)) (by decide) hm_z
  replace hm_z := rn_istore_n (am_cur_of (i := (1, 1, .istore_n 2, (0, 0, 0), 0)) (by decide +kernel)) hm_z
  obtain ⟨_, s250_z, s251_z, g2_z, hm_z⟩ := hm_z
  replace g0_z := s250_z 0 _ (by decide) rfl g0_z
  replace g1_z := s250_z 1 _ (by decide) rfl g1_z
  clear s250_z s251_z
  replace hm_z := rn_aload_n (am_cur_of (i := (2, 1, .aload_n 0, (0, 0, 0), 0)) (by decide +kernel)) g0_z hm_z
  replace hm_z := rn_getR (x := 35) (am_cur_of (i := (3, 3, .getfield 18, (2, 4, 169), 0)) (by decide +kernel)) (by decide +kernel) hm_z
  replace hm_z := rn_iload_n (am_cur_of (i := (6, 1, .iload_n 1, (0, 0, 0), 0)) (by decide +kernel)) g1_z hm_z
  replace hm_z := rn_iaload (N := 3) (q := k.toNatClampNeg) (v := rg_v g 35 k.toNatClampNeg) (am_cur_of (i := (7, 1, .iaload, (0, 0, 0), 0)) (by decide +kernel)) (by decide +kernel) rfl rfl hm_z
  obtain ⟨p252_z, hm_z⟩ := hm_z
  replace hm_z := rn_istore_n (am_cur_of (i := (8, 1, .istore_n 3, (0, 0, 0), 0)) (by decide +kernel)) hm_z
  obtain ⟨_, s253_z, s254_z, g3_z, hm_z⟩ := hm_z
  replace g0_z := s253_z 0 _ (by decide) rfl g0_z
  replace g1_z := s253_z 1 _ (by decide) rfl g1_z
  replace g2_z := s253_z 2 _ (by decide) rfl g2_z
  clear s253_z s254_z
  have H7 := (wq_66_23_L (r := r) (g' := g') (k := k)  nst).1
  exact wk_t wk_r (H7 0 (rg_v g 35 k.toNatClampNeg) _ _ g0_z g1_z g2_z g3_z hm_z)
theorem wq_65_23_L {r : Option Value} {g' : am_H} {w : Int32} {o : Int32} {x : Int32}  : ∀ f : Nat, (∀ (ls : am_L) (g : am_H), am_get ls 1 = some (.int w) → am_get ls 3 = some (.int x) → am_get ls 4 = some (.ref 32) → g 148 0 = .ref 23 → rn f am_m65 70 ls [] g r g' → wk g g') := by
  intro f
  induction f with
  | zero =>
    exact (fun _ _ _ _ _ _ hm_z => absurd hm_z rn_0)
  | succ f ih_z =>
    have I70 := ih_z
    have H70 : ∀ (ls : am_L) (g : am_H), am_get ls 1 = some (.int w) → am_get ls 3 = some (.int x) → am_get ls 4 = some (.ref 32) → g 148 0 = .ref 23 → rn (f + 1) am_m65 70 ls [] g r g' → wk g g' := by
      intro ls g g1_z g3_z g4_z T hm_z
      replace hm_z := rn_aload (am_cur_of (i := (129, 2, .aload 4, (0, 0, 0), 0)) (by decide +kernel)) g4_z hm_z
      replace hm_z := rn_getR (x := 38) (am_cur_of (i := (131, 3, .getfield 66, (2, 7, 174), 0)) (by decide +kernel)) (by decide +kernel) hm_z
      replace hm_z := rn_iconst (w := 5) (am_cur_of (i := (134, 1, .iconst 5, (0, 0, 0), 0)) (by decide +kernel)) (by decide) hm_z
      replace hm_z := rn_iload_n (am_cur_of (i := (135, 1, .iload_n 3, (0, 0, 0), 0)) (by decide +kernel)) g3_z hm_z
      replace hm_z := rn_i2l (w := x.toInt64) (am_cur_of (i := (136, 1, .i2l, (0, 0, 0), 0)) (by decide +kernel)) rfl hm_z
      replace hm_z := rn_lastore (N := 6) (q := 5) (am_cur_of (i := (137, 1, .lastore, (0, 0, 0), 0)) (by decide +kernel)) (by decide +kernel) rfl hm_z
      obtain ⟨p255_z, hm_z⟩ := hm_z
      replace hm_z := rn_aload (am_cur_of (i := (138, 2, .aload 4, (0, 0, 0), 0)) (by decide +kernel)) g4_z hm_z
      replace hm_z := rn_iload_n (am_cur_of (i := (140, 1, .iload_n 1, (0, 0, 0), 0)) (by decide +kernel)) g1_z hm_z
      replace hm_z := rn_callV (M' := am_m66) (o := 32) (ar := [.int w]) (rest := []) (L := lv_args 0 [.ref 32, .int w]) (am_cur_of (i := (141, 3, .invokevirtual 76, (66, 925, 3), 0)) (by decide +kernel)) rfl rfl rfl rfl hm_z
      obtain ⟨r256_z, h257_z, q258_z, hm_z⟩ := hm_z
      have k259_z := wq_66_23 q258_z
      obtain ⟨v260_z, rfl⟩ := fk_long (M := am_m66) rfl q258_z
      replace hm_z : rn _ _ _ _ [.long v260_z] _ _ _ := hm_z
      replace hm_z := rn_lret (am_cur_of (i := (144, 1, .lreturn, (0, 0, 0), 0)) (by decide +kernel)) hm_z
      obtain ⟨e261_z, e262_z⟩ := hm_z
      rw [e262_z]
      exact (wk_t (wk_u rfl wk_r) k259_z)
    exact H70
theorem wq_65_23 {nst : Nat} {r : Option Value} {g g' : am_H} {w : Int32} {o : Int32} {x : Int32}  (T : g 148 0 = .ref 23) (hm_z : rn nst am_m65 0 (lv_args 0 [.ref 148, .int w, .int o, .int x]) [] g r g') : wk g g' := by
  have z0_z : (0 : Int32).toInt = 0 := by decide
  have z2_z : (2 : Int32).toInt = 2 := by decide
  have g0_z : am_get (lv_args 0 [.ref 148, .int w, .int o, .int x]) 0 = some (.ref 148) := rfl
  have g1_z : am_get (lv_args 0 [.ref 148, .int w, .int o, .int x]) 1 = some (.int w) := rfl
  have g2_z : am_get (lv_args 0 [.ref 148, .int w, .int o, .int x]) 2 = some (.int o) := rfl
  have g3_z : am_get (lv_args 0 [.ref 148, .int w, .int o, .int x]) 3 = some (.int x) := rfl
  replace hm_z := rn_aload_n (am_cur_of (i := (0, 1, .aload_n 0, (0, 0, 0), 0)) (by decide +kernel)) g0_z hm_z
  replace hm_z := rn_getM (x := 23) (am_cur_of (i := (1, 3, .getfield 18, (8, 0, 566), 0)) (by decide +kernel)) (wd_b wk_r T) hm_z
  replace hm_z := rn_getR (x := 32) (am_cur_of (i := (4, 3, .getfield 62, (1, 19, 315), 0)) (by decide +kernel)) (by decide +kernel) hm_z
  replace hm_z := rn_astore (am_cur_of (i := (7, 2, .astore 4, (0, 0, 0), 0)) (by decide +kernel)) hm_z
  obtain ⟨_, s263_z, s264_z, g4_z, hm_z⟩ := hm_z
  replace g0_z := s263_z 0 _ (by decide) rfl g0_z
  replace g1_z := s263_z 1 _ (by decide) rfl g1_z
  replace g2_z := s263_z 2 _ (by decide) rfl g2_z
  replace g3_z := s263_z 3 _ (by decide) rfl g3_z
  clear s263_z s264_z
  replace hm_z := rn_aload (am_cur_of (i := (9, 2, .aload 4, (0, 0, 0), 0)) (by decide +kernel)) g4_z hm_z
  replace hm_z := rn_getR (x := 38) (am_cur_of (i := (11, 3, .getfield 66, (2, 7, 174), 0)) (by decide +kernel)) (by decide +kernel) hm_z
  replace hm_z := rn_iconst (w := 1) (am_cur_of (i := (14, 1, .iconst 1, (0, 0, 0), 0)) (by decide +kernel)) (by decide) hm_z
  replace hm_z := rn_aload_n (am_cur_of (i := (15, 1, .aload_n 0, (0, 0, 0), 0)) (by decide +kernel)) g0_z hm_z
  replace hm_z := rn_getR (x := 149) (am_cur_of (i := (16, 3, .getfield 12, (8, 1, 569), 0)) (by decide +kernel)) (by decide +kernel) hm_z
  replace hm_z := rn_getI (v := rg_v g 149 0) (am_cur_of (i := (19, 3, .getfield 49, (5, 0, 463), 0)) (by decide +kernel)) (by decide +kernel) rfl hm_z
  replace hm_z := rn_i2l (w := (rg_v g 149 0).toInt64) (am_cur_of (i := (22, 1, .i2l, (0, 0, 0), 0)) (by decide +kernel)) rfl hm_z
  replace hm_z := rn_lastore (N := 6) (q := 1) (am_cur_of (i := (23, 1, .lastore, (0, 0, 0), 0)) (by decide +kernel)) (by decide +kernel) rfl hm_z
  obtain ⟨p265_z, hm_z⟩ := hm_z
  replace hm_z := rn_aload (am_cur_of (i := (24, 2, .aload 4, (0, 0, 0), 0)) (by decide +kernel)) g4_z hm_z
  replace hm_z := rn_getR (x := 38) (am_cur_of (i := (26, 3, .getfield 66, (2, 7, 174), 0)) (by decide +kernel)) (by decide +kernel) hm_z
  replace hm_z := rn_iconst (w := 2) (am_cur_of (i := (29, 1, .iconst 2, (0, 0, 0), 0)) (by decide +kernel)) (by decide) hm_z
  replace hm_z := rn_aload_n (am_cur_of (i := (30, 1, .aload_n 0, (0, 0, 0), 0)) (by decide +kernel)) g0_z hm_z
  replace hm_z := rn_getM (x := 23) (am_cur_of (i := (31, 3, .getfield 18, (8, 0, 566), 0)) (by decide +kernel)) (show (am_up g 38 1 (.long ((rg_v g 149 0).toInt64))) 148 0 = .ref 23 from (wd_b wk_r T)) hm_z
  replace hm_z := rn_getI (v := rg_v g 23 0) (am_cur_of (i := (34, 3, .getfield 52, (1, 0, 249), 0)) (by decide +kernel)) (by decide +kernel) (show rg_v (am_up g 38 1 (.long ((rg_v g 149 0).toInt64))) 23 0 = rg_v g 23 0 from rfl) hm_z
  replace hm_z := rn_aload_n (am_cur_of (i := (37, 1, .aload_n 0, (0, 0, 0), 0)) (by decide +kernel)) g0_z hm_z
  replace hm_z := rn_getR (x := 149) (am_cur_of (i := (38, 3, .getfield 12, (8, 1, 569), 0)) (by decide +kernel)) (by decide +kernel) hm_z
  replace hm_z := rn_getI (v := rg_v g 149 0) (am_cur_of (i := (41, 3, .getfield 49, (5, 0, 463), 0)) (by decide +kernel)) (by decide +kernel) (show rg_v (am_up g 38 1 (.long ((rg_v g 149 0).toInt64))) 149 0 = rg_v g 149 0 from rfl) hm_z
  replace hm_z := rn_isub (w := (rg_v g 23 0) - (rg_v g 149 0)) (am_cur_of (i := (44, 1, .isub, (0, 0, 0), 0)) (by decide +kernel)) rfl hm_z
  replace hm_z := rn_i2l (w := ((rg_v g 23 0) - (rg_v g 149 0)).toInt64) (am_cur_of (i := (45, 1, .i2l, (0, 0, 0), 0)) (by decide +kernel)) rfl hm_z
  replace hm_z := rn_lastore (N := 6) (q := 2) (am_cur_of (i := (46, 1, .lastore, (0, 0, 0), 0)) (by decide +kernel)) (by decide +kernel) rfl hm_z
  obtain ⟨p266_z, hm_z⟩ := hm_z
  replace hm_z := rn_aload (am_cur_of (i := (47, 2, .aload 4, (0, 0, 0), 0)) (by decide +kernel)) g4_z hm_z
  replace hm_z := rn_getR (x := 38) (am_cur_of (i := (49, 3, .getfield 66, (2, 7, 174), 0)) (by decide +kernel)) (by decide +kernel) hm_z
  replace hm_z := rn_iconst (w := 3) (am_cur_of (i := (52, 1, .iconst 3, (0, 0, 0), 0)) (by decide +kernel)) (by decide) hm_z
  replace hm_z := rn_iload_n (am_cur_of (i := (53, 1, .iload_n 2, (0, 0, 0), 0)) (by decide +kernel)) g2_z hm_z
  replace hm_z := rn_i2l (w := o.toInt64) (am_cur_of (i := (54, 1, .i2l, (0, 0, 0), 0)) (by decide +kernel)) rfl hm_z
  replace hm_z := rn_lastore (N := 6) (q := 3) (am_cur_of (i := (55, 1, .lastore, (0, 0, 0), 0)) (by decide +kernel)) (by decide +kernel) rfl hm_z
  obtain ⟨p267_z, hm_z⟩ := hm_z
  replace hm_z := rn_aload (am_cur_of (i := (56, 2, .aload 4, (0, 0, 0), 0)) (by decide +kernel)) g4_z hm_z
  replace hm_z := rn_getR (x := 38) (am_cur_of (i := (58, 3, .getfield 66, (2, 7, 174), 0)) (by decide +kernel)) (by decide +kernel) hm_z
  replace hm_z := rn_iconst (w := 4) (am_cur_of (i := (61, 1, .iconst 4, (0, 0, 0), 0)) (by decide +kernel)) (by decide) hm_z
  replace hm_z := rn_aload_n (am_cur_of (i := (62, 1, .aload_n 0, (0, 0, 0), 0)) (by decide +kernel)) g0_z hm_z
  replace hm_z := rn_getR (x := 149) (am_cur_of (i := (63, 3, .getfield 12, (8, 1, 569), 0)) (by decide +kernel)) (by decide +kernel) hm_z
  replace hm_z := rn_getI (v := rg_v g 149 1) (am_cur_of (i := (66, 3, .getfield 59, (5, 1, 470), 0)) (by decide +kernel)) (by decide +kernel) (show rg_v (am_up (am_up (am_up g 38 1 (.long ((rg_v g 149 0).toInt64))) 38 2 (.long (((rg_v g 23 0) - (rg_v g 149 0)).toInt64))) 38 3 (.long o.toInt64)) 149 1 = rg_v g 149 1 from rfl) hm_z
  replace hm_z := rn_i2l (w := (rg_v g 149 1).toInt64) (am_cur_of (i := (69, 1, .i2l, (0, 0, 0), 0)) (by decide +kernel)) rfl hm_z
  replace hm_z := rn_lastore (N := 6) (q := 4) (am_cur_of (i := (70, 1, .lastore, (0, 0, 0), 0)) (by decide +kernel)) (by decide +kernel) rfl hm_z
  obtain ⟨p268_z, hm_z⟩ := hm_z
  replace hm_z := rn_aload (am_cur_of (i := (71, 2, .aload 4, (0, 0, 0), 0)) (by decide +kernel)) g4_z hm_z
  replace hm_z := rn_getR (x := 38) (am_cur_of (i := (73, 3, .getfield 66, (2, 7, 174), 0)) (by decide +kernel)) (by decide +kernel) hm_z
  replace hm_z := rn_iconst (w := 0) (am_cur_of (i := (76, 1, .iconst 0, (0, 0, 0), 0)) (by decide +kernel)) (by decide) hm_z
  replace hm_z := rn_lconst (w := 0) (am_cur_of (i := (77, 1, .lconst 0, (0, 0, 0), 0)) (by decide +kernel)) rfl hm_z
  replace hm_z := rn_lastore (N := 6) (q := 0) (am_cur_of (i := (78, 1, .lastore, (0, 0, 0), 0)) (by decide +kernel)) (by decide +kernel) rfl hm_z
  obtain ⟨p269_z, hm_z⟩ := hm_z
  replace hm_z := rn_aload (am_cur_of (i := (79, 2, .aload 4, (0, 0, 0), 0)) (by decide +kernel)) g4_z hm_z
  replace hm_z := rn_getR (x := 38) (am_cur_of (i := (81, 3, .getfield 66, (2, 7, 174), 0)) (by decide +kernel)) (by decide +kernel) hm_z
  replace hm_z := rn_iconst (w := 5) (am_cur_of (i := (84, 1, .iconst 5, (0, 0, 0), 0)) (by decide +kernel)) (by decide) hm_z
  replace hm_z := rn_lconst (w := 0) (am_cur_of (i := (85, 1, .lconst 0, (0, 0, 0), 0)) (by decide +kernel)) rfl hm_z
  replace hm_z := rn_lastore (N := 6) (q := 5) (am_cur_of (i := (86, 1, .lastore, (0, 0, 0), 0)) (by decide +kernel)) (by decide +kernel) rfl hm_z
  obtain ⟨p270_z, hm_z⟩ := hm_z
  replace hm_z := rn_iload_n (am_cur_of (i := (87, 1, .iload_n 1, (0, 0, 0), 0)) (by decide +kernel)) g1_z hm_z
  replace hm_z := rn_iconst (w := 2) (am_cur_of (i := (88, 1, .iconst 2, (0, 0, 0), 0)) (by decide +kernel)) (by decide) hm_z
  replace hm_z := rn_cmp (am_cur_of (i := (89, 3, .if_icmp .eq 40, (70, 0, 0), 0)) (by decide +kernel)) hm_z
  rcases hm_z with ⟨b271_z, hm_z⟩ | ⟨b271_z, hm_z⟩
  · replace b271_z : w = (2 : Int32) ∧ w.toInt = (2 : Int32).toInt := b271_z
    have H70 := (wq_65_23_L (r := r) (g' := g') (w := w) (o := o) (x := x)  nst)
    exact wk_t (wk_u rfl (wk_u rfl (wk_u rfl (wk_u rfl (wk_u rfl (wk_u rfl wk_r)))))) (H70 _ _ g1_z g3_z g4_z (wd_b (wk_u rfl (wk_u rfl (wk_u rfl (wk_u rfl (wk_u rfl (wk_u rfl wk_r)))))) T) hm_z)
  · replace b271_z : ¬ w = (2 : Int32) ∧ ¬ w.toInt = (2 : Int32).toInt := b271_z
    replace hm_z := rn_aload (am_cur_of (i := (92, 2, .aload 4, (0, 0, 0), 0)) (by decide +kernel)) g4_z hm_z
    replace hm_z := rn_getR (x := 37) (am_cur_of (i := (94, 3, .getfield 72, (2, 6, 172), 0)) (by decide +kernel)) (by decide +kernel) hm_z
    replace hm_z := rn_iload_n (am_cur_of (i := (97, 1, .iload_n 1, (0, 0, 0), 0)) (by decide +kernel)) g1_z hm_z
    replace hm_z := rn_baload (N := 3) (q := w.toNatClampNeg) (v := rg_v g 37 w.toNatClampNeg) (am_cur_of (i := (98, 1, .baload, (0, 0, 0), 0)) (by decide +kernel)) (by decide +kernel) rfl (show rg_v (am_up (am_up (am_up (am_up (am_up (am_up g 38 1 (.long ((rg_v g 149 0).toInt64))) 38 2 (.long (((rg_v g 23 0) - (rg_v g 149 0)).toInt64))) 38 3 (.long o.toInt64)) 38 4 (.long ((rg_v g 149 1).toInt64))) 38 0 (.long 0)) 38 5 (.long 0)) 37 w.toNatClampNeg = rg_v g 37 w.toNatClampNeg from rfl) hm_z
    obtain ⟨p272_z, hm_z⟩ := hm_z
    replace hm_z := rn_if (am_cur_of (i := (99, 3, .ifCond .eq 30, (70, 0, 0), 0)) (by decide +kernel)) hm_z
    rcases hm_z with ⟨b273_z, hm_z⟩ | ⟨b273_z, hm_z⟩
    · replace b273_z : (rg_v g 37 w.toNatClampNeg) = (0 : Int32) ∧ (rg_v g 37 w.toNatClampNeg).toInt = (0 : Int32).toInt := b273_z
      have H70 := (wq_65_23_L (r := r) (g' := g') (w := w) (o := o) (x := x)  nst)
      exact wk_t (wk_u rfl (wk_u rfl (wk_u rfl (wk_u rfl (wk_u rfl (wk_u rfl wk_r)))))) (H70 _ _ g1_z g3_z g4_z (wd_b (wk_u rfl (wk_u rfl (wk_u rfl (wk_u rfl (wk_u rfl (wk_u rfl wk_r)))))) T) hm_z)
    · replace b273_z : ¬ (rg_v g 37 w.toNatClampNeg) = (0 : Int32) ∧ ¬ (rg_v g 37 w.toNatClampNeg).toInt = (0 : Int32).toInt := b273_z
      replace hm_z := rn_aload_n (am_cur_of (i := (102, 1, .aload_n 0, (0, 0, 0), 0)) (by decide +kernel)) g0_z hm_z
      replace hm_z := rn_getI (v := rg_v g 148 3) (am_cur_of (i := (103, 3, .getfield 33, (8, 3, 575), 0)) (by decide +kernel)) (by decide +kernel) (show rg_v (am_up (am_up (am_up (am_up (am_up (am_up g 38 1 (.long ((rg_v g 149 0).toInt64))) 38 2 (.long (((rg_v g 23 0) - (rg_v g 149 0)).toInt64))) 38 3 (.long o.toInt64)) 38 4 (.long ((rg_v g 149 1).toInt64))) 38 0 (.long 0)) 38 5 (.long 0)) 148 3 = rg_v g 148 3 from rfl) hm_z
      replace hm_z := rn_if (am_cur_of (i := (106, 3, .ifCond .ne 23, (70, 0, 0), 0)) (by decide +kernel)) hm_z
      rcases hm_z with ⟨b274_z, hm_z⟩ | ⟨b274_z, hm_z⟩
      · replace b274_z : ¬ (rg_v g 148 3) = (0 : Int32) ∧ ¬ (rg_v g 148 3).toInt = (0 : Int32).toInt := b274_z
        have H70 := (wq_65_23_L (r := r) (g' := g') (w := w) (o := o) (x := x)  nst)
        exact wk_t (wk_u rfl (wk_u rfl (wk_u rfl (wk_u rfl (wk_u rfl (wk_u rfl wk_r)))))) (H70 _ _ g1_z g3_z g4_z (wd_b (wk_u rfl (wk_u rfl (wk_u rfl (wk_u rfl (wk_u rfl (wk_u rfl wk_r)))))) T) hm_z)
      · replace b274_z : (rg_v g 148 3) = (0 : Int32) ∧ (rg_v g 148 3).toInt = (0 : Int32).toInt := b274_z
        replace hm_z := rn_aload (am_cur_of (i := (109, 2, .aload 4, (0, 0, 0), 0)) (by decide +kernel)) g4_z hm_z
        replace hm_z := rn_getR (x := 38) (am_cur_of (i := (111, 3, .getfield 66, (2, 7, 174), 0)) (by decide +kernel)) (by decide +kernel) hm_z
        replace hm_z := rn_iconst (w := 0) (am_cur_of (i := (114, 1, .iconst 0, (0, 0, 0), 0)) (by decide +kernel)) (by decide) hm_z
        replace hm_z := rn_aload (am_cur_of (i := (115, 2, .aload 4, (0, 0, 0), 0)) (by decide +kernel)) g4_z hm_z
        replace hm_z := rn_iconst (w := 2) (am_cur_of (i := (117, 1, .iconst 2, (0, 0, 0), 0)) (by decide +kernel)) (by decide) hm_z
        replace hm_z := rn_callV (M' := am_m66) (o := 32) (ar := [.int 2]) (rest := [.int 0, .ref 38]) (L := lv_args 0 [.ref 32, .int 2]) (am_cur_of (i := (118, 3, .invokevirtual 76, (66, 925, 3), 0)) (by decide +kernel)) rfl rfl rfl rfl hm_z
        obtain ⟨r275_z, h276_z, q277_z, hm_z⟩ := hm_z
        have k278_z := wq_66_23 q277_z
        obtain ⟨v279_z, rfl⟩ := fk_long (M := am_m66) rfl q277_z
        replace hm_z : rn _ _ _ _ [.long v279_z, .int 0, .ref 38] _ _ _ := hm_z
        replace hm_z := rn_bipush (w := 99) (am_cur_of (i := (121, 2, .bipush 99, (0, 0, 0), 0)) (by decide +kernel)) (by decide) hm_z
        replace hm_z := rn_iconst (w := 0) (am_cur_of (i := (123, 1, .iconst 0, (0, 0, 0), 0)) (by decide +kernel)) (by decide) hm_z
        replace hm_z := rn_callS (M' := am_m68) (ar := [.int 0, .int 99, .long v279_z]) (rest := [.int 0, .ref 38]) (L := lv_args 0 [.long v279_z, .int 99, .int 0]) (am_cur_of (i := (124, 3, .invokestatic 80, (68, 935, 3), 0)) (by decide +kernel)) rfl rfl rfl rfl hm_z
        obtain ⟨r280_z, h281_z, q282_z, hm_z⟩ := hm_z
        have k283_z := wq_68 q282_z
        obtain ⟨v284_z, rfl⟩ := rn_ret (M := am_m68) rfl (by decide) q282_z
        replace hm_z : rn _ _ _ _ [.int v284_z, .int 0, .ref 38] _ _ _ := hm_z
        replace hm_z := rn_i2l (w := v284_z.toInt64) (am_cur_of (i := (127, 1, .i2l, (0, 0, 0), 0)) (by decide +kernel)) rfl hm_z
        replace hm_z := rn_lastore (N := 6) (q := 0) (am_cur_of (i := (128, 1, .lastore, (0, 0, 0), 0)) (by decide +kernel)) (by decide +kernel) rfl hm_z
        obtain ⟨p285_z, hm_z⟩ := hm_z
        have H70 := (wq_65_23_L (r := r) (g' := g') (w := w) (o := o) (x := x)  nst)
        exact wk_t (wk_u rfl (wk_t (wk_t (wk_u rfl (wk_u rfl (wk_u rfl (wk_u rfl (wk_u rfl (wk_u rfl wk_r)))))) k278_z) k283_z)) (H70 _ _ g1_z g3_z g4_z (wd_b (wk_u rfl (wk_t (wk_t (wk_u rfl (wk_u rfl (wk_u rfl (wk_u rfl (wk_u rfl (wk_u rfl wk_r)))))) k278_z) k283_z)) T) hm_z)
/-- what seconds that go by may change in the class's trial -/
def gB (o k : Nat) : Bool := wB o || (Nat.beq o 149 && Nat.ble k 1) || (Nat.beq o 148 && Nat.beq k 6)
def gk (g g' : am_H) : Prop := ∀ o k, gB o k = false → g' o k = g o k
theorem gk_r {g : am_H} : gk g g := fun _ _ _ => rfl
theorem gk_t {g g' g'' : am_H} (a : gk g g') (b : gk g' g'') : gk g g'' := fun o k e => (b o k e).trans (a o k e)
theorem gk_u {g g' : am_H} {o k : Nat} {v : Value} (hb_z : gB o k = true) (a : gk g g') : gk g (am_up g' o k v) := fun o' k' e => (up_ne (fun q => by rw [q.1, q.2, hb_z] at e; cases e)).trans (a o' k' e)
theorem gB_w {o k : Nat} (h : gB o k = false) : wB o = false := by
  unfold gB at h
  simp only [Bool.or_eq_false_iff] at h
  exact h.1.1
theorem gk_w {g g' : am_H} (a : wk g g') : gk g g' := fun o k e => a o k (gB_w e)
theorem gd_b {g g' : am_H} {p : Nat} (b : gk g g') (T : g 148 0 = .ref p) : g' 148 0 = .ref p := (b 148 0 rfl).trans T
theorem gs_l2 {r : Option Value} {g' : am_H} {m o more : Int32} : ∀ (f k : Nat) (i s : Int32) (ls : am_L) (g : am_H), g 148 0 = .ref 2 → rg_v g 148 5 = 2147483647 → rg_v g 149 1 = s → am_get ls 0 = some (.ref 148) → am_get ls 1 = some (.int m) → am_get ls 2 = some (.int o) → am_get ls 4 = some (.int more) → am_get ls 5 = some (.int i) → i.toInt + k = m.toInt → 0 ≤ s.toInt → s.toInt + k < 2147483647 → rn f am_m75 26 ls [] g r g' → r = some (.int 1) ∧ (rg_v g' 149 1).toInt = s.toInt + k ∧ gk g g' := by
  intro f
  induction f with
  | zero => intro k i s ls g T el es_z g0_z g1_z g2_z g4_z g5_z ik s0_z sk hm_z; exact absurd hm_z rn_0
  | succ f ih_z =>
    intro k i s ls g T el es_z g0_z g1_z g2_z g4_z g5_z ik s0_z sk hm_z
    have z0_z : (0 : Int32).toInt = 0 := by decide
    have z1_z : (1 : Int32).toInt = 1 := by decide
    have z2147483647_z : (2147483647 : Int32).toInt = 2147483647 := by decide
    replace hm_z := rn_iload (am_cur_of (i := (52, 2, .iload 5, (0, 0, 0), 0)) (by decide +kernel)) g5_z hm_z
    replace hm_z := rn_iload_n (am_cur_of (i := (54, 1, .iload_n 1, (0, 0, 0), 0)) (by decide +kernel)) g1_z hm_z
    replace hm_z := rn_cmp (am_cur_of (i := (55, 3, .if_icmp .ge 167, (108, 0, 0), 0)) (by decide +kernel)) hm_z
    rcases hm_z with ⟨b286_z, hm_z⟩ | ⟨b286_z, hm_z⟩
    · replace b286_z : m.toInt ≤ i.toInt := b286_z
      obtain rfl : k = 0 := by omega
      replace hm_z := rn_iconst (w := 1) (am_cur_of (i := (222, 1, .iconst 1, (0, 0, 0), 0)) (by decide +kernel)) (by decide) hm_z
      replace hm_z := rn_iret (am_cur_of (i := (223, 1, .ireturn, (0, 0, 0), 0)) (by decide +kernel)) hm_z
      obtain ⟨e287_z, e288_z⟩ := hm_z
      rw [e288_z]
      exact ⟨e287_z, by rw [es_z]; omega, gk_r⟩
    · replace b286_z : i.toInt < m.toInt := b286_z
      obtain ⟨k, rfl⟩ : ∃ k2_z, k = k2_z + 1 := ⟨k - 1, by omega⟩
      have ci_z := fk_c1 b286_z
      have cs := ab_iadd (x := s) (y := 1) (by omega) (by omega)
      replace hm_z := rn_aload_n (am_cur_of (i := (58, 1, .aload_n 0, (0, 0, 0), 0)) (by decide +kernel)) g0_z hm_z
      replace hm_z := rn_getR (x := 149) (am_cur_of (i := (59, 3, .getfield 12, (8, 1, 569), 0)) (by decide +kernel)) (by decide +kernel) hm_z
      replace hm_z := rn_getI (v := s) (am_cur_of (i := (62, 3, .getfield 59, (5, 1, 470), 0)) (by decide +kernel)) (by decide +kernel) es_z hm_z
      replace hm_z := rn_aload_n (am_cur_of (i := (65, 1, .aload_n 0, (0, 0, 0), 0)) (by decide +kernel)) g0_z hm_z
      replace hm_z := rn_getI (v := 2147483647) (am_cur_of (i := (66, 3, .getfield 43, (8, 5, 580), 0)) (by decide +kernel)) (by decide +kernel) el hm_z
      replace hm_z := rn_cmp (am_cur_of (i := (69, 3, .if_icmp .lt 5, (37, 0, 0), 0)) (by decide +kernel)) hm_z
      rcases hm_z with ⟨b289_z, hm_z⟩ | ⟨b289_z, hm_z⟩
      · replace b289_z : s.toInt < (2147483647 : Int32).toInt := b289_z
        replace hm_z := rn_aload_n (am_cur_of (i := (74, 1, .aload_n 0, (0, 0, 0), 0)) (by decide +kernel)) g0_z hm_z
        replace hm_z := rn_getR (x := 149) (am_cur_of (i := (75, 3, .getfield 12, (8, 1, 569), 0)) (by decide +kernel)) (by decide +kernel) hm_z
        replace hm_z := rn_getI (v := rg_v g 149 0) (am_cur_of (i := (78, 3, .getfield 49, (5, 0, 463), 0)) (by decide +kernel)) (by decide +kernel) rfl hm_z
        replace hm_z := rn_bipush (w := 100) (am_cur_of (i := (81, 2, .bipush 100, (0, 0, 0), 0)) (by decide +kernel)) (by decide) hm_z
        replace hm_z := rn_idiv (w := (rg_v g 149 0) / 100) (am_cur_of (i := (83, 1, .idiv, (0, 0, 0), 0)) (by decide +kernel)) rfl hm_z
        obtain ⟨d290_z, hm_z⟩ := hm_z
        replace hm_z := rn_iload_n (am_cur_of (i := (84, 1, .iload_n 2, (0, 0, 0), 0)) (by decide +kernel)) g2_z hm_z
        replace hm_z := rn_if (am_cur_of (i := (85, 3, .ifCond .eq 8, (46, 0, 0), 0)) (by decide +kernel)) hm_z
        rcases hm_z with ⟨b291_z, hm_z⟩ | ⟨b291_z, hm_z⟩
        · replace b291_z : o = (0 : Int32) ∧ o.toInt = (0 : Int32).toInt := b291_z
          replace hm_z := rn_iconst (w := 0) (am_cur_of (i := (93, 1, .iconst 0, (0, 0, 0), 0)) (by decide +kernel)) (by decide) hm_z
          replace hm_z := rn_iadd (w := ((rg_v g 149 0) / 100) + 0) (am_cur_of (i := (94, 1, .iadd, (0, 0, 0), 0)) (by decide +kernel)) rfl hm_z
          replace hm_z := rn_istore (am_cur_of (i := (95, 2, .istore 6, (0, 0, 0), 0)) (by decide +kernel)) hm_z
          obtain ⟨_, s292_z, s293_z, g6_z, hm_z⟩ := hm_z
          replace g0_z := s292_z 0 _ (by decide) rfl g0_z
          replace g1_z := s292_z 1 _ (by decide) rfl g1_z
          replace g2_z := s292_z 2 _ (by decide) rfl g2_z
          replace g4_z := s292_z 4 _ (by decide) rfl g4_z
          replace g5_z := s292_z 5 _ (by decide) rfl g5_z
          clear s292_z s293_z
          replace hm_z := rn_aload_n (am_cur_of (i := (97, 1, .aload_n 0, (0, 0, 0), 0)) (by decide +kernel)) g0_z hm_z
          replace hm_z := rn_iconst (w := 0) (am_cur_of (i := (98, 1, .iconst 0, (0, 0, 0), 0)) (by decide +kernel)) (by decide) hm_z
          replace hm_z := rn_iload_n (am_cur_of (i := (99, 1, .iload_n 2, (0, 0, 0), 0)) (by decide +kernel)) g2_z hm_z
          replace hm_z := rn_if (am_cur_of (i := (100, 3, .ifCond .eq 7, (55, 0, 0), 0)) (by decide +kernel)) hm_z
          rcases hm_z with ⟨b294_z, hm_z⟩ | ⟨b294_z, hm_z⟩
          · replace b294_z : o = (0 : Int32) ∧ o.toInt = (0 : Int32).toInt := b294_z
            replace hm_z := rn_iconst (w := 0) (am_cur_of (i := (107, 1, .iconst 0, (0, 0, 0), 0)) (by decide +kernel)) (by decide) hm_z
            replace hm_z := rn_iconst (w := 0) (am_cur_of (i := (108, 1, .iconst 0, (0, 0, 0), 0)) (by decide +kernel)) (by decide) hm_z
            replace hm_z := rn_callV (M' := am_m65) (o := 148) (ar := [.int 0, .int 0, .int 0]) (rest := []) (L := lv_args 0 [.ref 148, .int 0, .int 0, .int 0]) (am_cur_of (i := (109, 3, .invokevirtual 94, (65, 973, 3), 0)) (by decide +kernel)) rfl rfl rfl rfl hm_z
            obtain ⟨r295_z, h296_z, q297_z, hm_z⟩ := hm_z
            obtain ⟨v298_z, rfl⟩ := fk_long (M := am_m65) rfl q297_z
            have kw := wq_65_2 T q297_z
            have T2 := wd_b kw T
            have el2_z : rg_v h296_z 148 5 = 2147483647 := by
              unfold rg_v at el ⊢
              rw [kw 148 5 rfl]
              exact el
            have es2_z : rg_v h296_z 149 1 = s := by
              unfold rg_v at es_z ⊢
              rw [kw 149 1 rfl]
              exact es_z
            replace hm_z : rn _ _ _ _ [.long v298_z] _ _ _ := hm_z
            replace hm_z := rn_sipush (w := 999) (am_cur_of (i := (112, 3, .sipush 999, (0, 0, 0), 0)) (by decide +kernel)) (by decide) hm_z
            replace hm_z := rn_iload (am_cur_of (i := (115, 2, .iload 6, (0, 0, 0), 0)) (by decide +kernel)) g6_z hm_z
            replace hm_z := rn_callS (M' := am_m68) (ar := [.int (((rg_v g 149 0) / 100) + 0), .int 999, .long v298_z]) (rest := []) (L := lv_args 0 [.long v298_z, .int 999, .int (((rg_v g 149 0) / 100) + 0)]) (am_cur_of (i := (117, 3, .invokestatic 80, (68, 935, 3), 0)) (by decide +kernel)) rfl rfl rfl rfl hm_z
            obtain ⟨r299_z, h300_z, q301_z, hm_z⟩ := hm_z
            obtain ⟨v302_z, rfl⟩ := rn_ret (M := am_m68) rfl (by decide) q301_z
            have k303_z := wq_68 q301_z
            have T3 := wd_b k303_z T2
            have el3_z : rg_v h300_z 148 5 = 2147483647 := by
              unfold rg_v at el2_z ⊢
              rw [k303_z 148 5 rfl]
              exact el2_z
            have es3_z : rg_v h300_z 149 1 = s := by
              unfold rg_v at es2_z ⊢
              rw [k303_z 149 1 rfl]
              exact es2_z
            have kv := wk_t kw k303_z
            replace hm_z : rn _ _ _ _ [.int v302_z] _ _ _ := hm_z
            replace hm_z := rn_iload (am_cur_of (i := (120, 2, .iload 4, (0, 0, 0), 0)) (by decide +kernel)) g4_z hm_z
            replace hm_z := rn_iadd (w := v302_z + more) (am_cur_of (i := (122, 1, .iadd, (0, 0, 0), 0)) (by decide +kernel)) rfl hm_z
            replace hm_z := rn_istore (am_cur_of (i := (123, 2, .istore 7, (0, 0, 0), 0)) (by decide +kernel)) hm_z
            obtain ⟨_, s304_z, s305_z, g7_z, hm_z⟩ := hm_z
            replace g0_z := s304_z 0 _ (by decide) rfl g0_z
            replace g1_z := s304_z 1 _ (by decide) rfl g1_z
            replace g2_z := s304_z 2 _ (by decide) rfl g2_z
            replace g4_z := s304_z 4 _ (by decide) rfl g4_z
            replace g5_z := s304_z 5 _ (by decide) rfl g5_z
            replace g6_z := s304_z 6 _ (by decide) rfl g6_z
            clear s304_z s305_z
            replace hm_z := rn_aload_n (am_cur_of (i := (125, 1, .aload_n 0, (0, 0, 0), 0)) (by decide +kernel)) g0_z hm_z
            replace hm_z := rn_getR (x := 149) (am_cur_of (i := (126, 3, .getfield 12, (8, 1, 569), 0)) (by decide +kernel)) (by decide +kernel) hm_z
            replace hm_z := rn_aload_n (am_cur_of (i := (129, 1, .aload_n 0, (0, 0, 0), 0)) (by decide +kernel)) g0_z hm_z
            replace hm_z := rn_getR (x := 149) (am_cur_of (i := (130, 3, .getfield 12, (8, 1, 569), 0)) (by decide +kernel)) (by decide +kernel) hm_z
            replace hm_z := rn_getI (v := rg_v h300_z 149 0) (am_cur_of (i := (133, 3, .getfield 49, (5, 0, 463), 0)) (by decide +kernel)) (by decide +kernel) rfl hm_z
            replace hm_z := rn_iload (am_cur_of (i := (136, 2, .iload 7, (0, 0, 0), 0)) (by decide +kernel)) g7_z hm_z
            replace hm_z := rn_isub (w := (rg_v h300_z 149 0) - (v302_z + more)) (am_cur_of (i := (138, 1, .isub, (0, 0, 0), 0)) (by decide +kernel)) rfl hm_z
            replace hm_z := rn_iconst (w := 0) (am_cur_of (i := (139, 1, .iconst 0, (0, 0, 0), 0)) (by decide +kernel)) (by decide) hm_z
            obtain ⟨m306_z, e307_z⟩ : ∃ mq : Int32, (if (rg_v h300_z 149 0) - (v302_z + more) < 0 then 0 else (rg_v h300_z 149 0) - (v302_z + more)) = mq := ⟨_, rfl⟩
            replace hm_z := rn_max (w := m306_z) (am_cur_of (i := (140, 3, .invokestatic 98, (0, 974, 1), 0)) (by decide +kernel)) e307_z hm_z
            replace hm_z := rn_put (am_cur_of (i := (143, 3, .putfield 49, (5, 0, 463), 0)) (by decide +kernel)) (by decide +kernel) hm_z
            replace hm_z := rn_aload_n (am_cur_of (i := (146, 1, .aload_n 0, (0, 0, 0), 0)) (by decide +kernel)) g0_z hm_z
            replace hm_z := rn_getI (v := rg_v h300_z 148 4) (am_cur_of (i := (147, 3, .getfield 37, (8, 4, 577), 0)) (by decide +kernel)) (by decide +kernel) ((rg_v_other (by omega)).trans (rfl)) hm_z
            replace hm_z := rn_if (am_cur_of (i := (150, 3, .ifCond .eq 35, (91, 0, 0), 0)) (by decide +kernel)) hm_z
            rcases hm_z with ⟨b308_z, hm_z⟩ | ⟨b308_z, hm_z⟩
            · replace b308_z : (rg_v h300_z 148 4) = (0 : Int32) ∧ (rg_v h300_z 148 4).toInt = (0 : Int32).toInt := b308_z
              replace hm_z := rn_aload_n (am_cur_of (i := (185, 1, .aload_n 0, (0, 0, 0), 0)) (by decide +kernel)) g0_z hm_z
              replace hm_z := rn_getR (x := 149) (am_cur_of (i := (186, 3, .getfield 12, (8, 1, 569), 0)) (by decide +kernel)) (by decide +kernel) hm_z
              replace hm_z := rn_dup (am_cur_of (i := (189, 1, .dup, (0, 0, 0), 0)) (by decide +kernel)) hm_z
              replace hm_z := rn_getI (v := s) (am_cur_of (i := (190, 3, .getfield 59, (5, 1, 470), 0)) (by decide +kernel)) (by decide +kernel) ((rg_v_other (by omega)).trans (es3_z)) hm_z
              replace hm_z := rn_iconst (w := 1) (am_cur_of (i := (193, 1, .iconst 1, (0, 0, 0), 0)) (by decide +kernel)) (by decide) hm_z
              replace hm_z := rn_iadd (w := s + 1) (am_cur_of (i := (194, 1, .iadd, (0, 0, 0), 0)) (by decide +kernel)) rfl hm_z
              replace hm_z := rn_put (am_cur_of (i := (195, 3, .putfield 59, (5, 1, 470), 0)) (by decide +kernel)) (by decide +kernel) hm_z
              replace hm_z := rn_aload_n (am_cur_of (i := (198, 1, .aload_n 0, (0, 0, 0), 0)) (by decide +kernel)) g0_z hm_z
              replace hm_z := rn_aload_n (am_cur_of (i := (199, 1, .aload_n 0, (0, 0, 0), 0)) (by decide +kernel)) g0_z hm_z
              replace hm_z := rn_getI (v := rg_v h300_z 148 6) (am_cur_of (i := (200, 3, .getfield 46, (8, 6, 581), 0)) (by decide +kernel)) (by decide +kernel) ((rg_v_other (by omega)).trans ((rg_v_other (by omega)).trans (rfl))) hm_z
              replace hm_z := rn_aload_n (am_cur_of (i := (203, 1, .aload_n 0, (0, 0, 0), 0)) (by decide +kernel)) g0_z hm_z
              replace hm_z := rn_getR (x := 149) (am_cur_of (i := (204, 3, .getfield 12, (8, 1, 569), 0)) (by decide +kernel)) (by decide +kernel) hm_z
              replace hm_z := rn_getI (v := m306_z) (am_cur_of (i := (207, 3, .getfield 49, (5, 0, 463), 0)) (by decide +kernel)) (by decide +kernel) ((rg_v_other (by omega)).trans (rg_v_self)) hm_z
              obtain ⟨m309_z, e310_z⟩ : ∃ mq : Int32, (if m306_z < rg_v h300_z 148 6 then m306_z else rg_v h300_z 148 6) = mq := ⟨_, rfl⟩
              replace hm_z := rn_min (w := m309_z) (am_cur_of (i := (210, 3, .invokestatic 107, (0, 975, 2), 0)) (by decide +kernel)) e310_z hm_z
              replace hm_z := rn_put (am_cur_of (i := (213, 3, .putfield 46, (8, 6, 581), 0)) (by decide +kernel)) (by decide +kernel) hm_z
              replace hm_z := rn_iinc (w := i + 1) (am_cur_of (i := (216, 3, .iinc 5 1, (0, 0, 0), 0)) (by decide +kernel)) g5_z rfl hm_z
              obtain ⟨_, s311_z, s312_z, g5_z, hm_z⟩ := hm_z
              replace g0_z := s311_z 0 _ (by decide) rfl g0_z
              replace g1_z := s311_z 1 _ (by decide) rfl g1_z
              replace g2_z := s311_z 2 _ (by decide) rfl g2_z
              replace g4_z := s311_z 4 _ (by decide) rfl g4_z
              replace g6_z := s311_z 6 _ (by decide) rfl g6_z
              replace g7_z := s311_z 7 _ (by decide) rfl g7_z
              clear s311_z s312_z
              replace hm_z := rn_gotoL (am_cur_of (i := (219, 3, .goto (-167), (26, 0, 0), 0)) (by decide +kernel)) hm_z
              have gg : gk g (am_up (am_up (am_up h300_z 149 0 (.int m306_z)) 149 1 (.int (s + 1))) 148 6 (.int m309_z)) := (gk_u rfl (gk_u rfl (gk_u rfl (gk_w kv))))
              obtain ⟨z1_z, z2_z, z3_z⟩ := ih_z k (i + 1) (s + 1) _ _ (gd_b gg T) (((rg_v_other (by omega)).trans ((rg_v_other (by omega)).trans ((rg_v_other (by omega)).trans (el3_z))))) (((rg_v_other (by omega)).trans (rg_v_self))) g0_z g1_z g2_z g4_z g5_z (by omega) (by omega) (by omega) hm_z
              exact ⟨z1_z, by omega, gk_t gg z3_z⟩
            · replace b308_z : ¬ (rg_v h300_z 148 4) = (0 : Int32) ∧ ¬ (rg_v h300_z 148 4).toInt = (0 : Int32).toInt := b308_z
              replace hm_z := rn_aload_n (am_cur_of (i := (153, 1, .aload_n 0, (0, 0, 0), 0)) (by decide +kernel)) g0_z hm_z
              replace hm_z := rn_getR (x := 149) (am_cur_of (i := (154, 3, .getfield 12, (8, 1, 569), 0)) (by decide +kernel)) (by decide +kernel) hm_z
              replace hm_z := rn_aload_n (am_cur_of (i := (157, 1, .aload_n 0, (0, 0, 0), 0)) (by decide +kernel)) g0_z hm_z
              replace hm_z := rn_getR (x := 149) (am_cur_of (i := (158, 3, .getfield 12, (8, 1, 569), 0)) (by decide +kernel)) (by decide +kernel) hm_z
              replace hm_z := rn_getI (v := m306_z) (am_cur_of (i := (161, 3, .getfield 49, (5, 0, 463), 0)) (by decide +kernel)) (by decide +kernel) rg_v_self hm_z
              replace hm_z := rn_aload_n (am_cur_of (i := (164, 1, .aload_n 0, (0, 0, 0), 0)) (by decide +kernel)) g0_z hm_z
              replace hm_z := rn_getM (x := 2) (am_cur_of (i := (165, 3, .getfield 18, (8, 0, 566), 0)) (by decide +kernel)) (show (am_up h300_z 149 0 (.int m306_z)) 148 0 = .ref 2 from T3) hm_z
              replace hm_z := rn_getI (v := rg_v h300_z 2 7) (am_cur_of (i := (168, 3, .getfield 104, (1, 7, 277), 0)) (by decide +kernel)) (by decide +kernel) ((rg_v_other (by omega)).trans (rfl)) hm_z
              replace hm_z := rn_iadd (w := m306_z + (rg_v h300_z 2 7)) (am_cur_of (i := (171, 1, .iadd, (0, 0, 0), 0)) (by decide +kernel)) rfl hm_z
              replace hm_z := rn_aload_n (am_cur_of (i := (172, 1, .aload_n 0, (0, 0, 0), 0)) (by decide +kernel)) g0_z hm_z
              replace hm_z := rn_getM (x := 2) (am_cur_of (i := (173, 3, .getfield 18, (8, 0, 566), 0)) (by decide +kernel)) (show (am_up h300_z 149 0 (.int m306_z)) 148 0 = .ref 2 from T3) hm_z
              replace hm_z := rn_getI (v := rg_v h300_z 2 0) (am_cur_of (i := (176, 3, .getfield 52, (1, 0, 249), 0)) (by decide +kernel)) (by decide +kernel) ((rg_v_other (by omega)).trans (rfl)) hm_z
              obtain ⟨m313_z, e314_z⟩ : ∃ mq : Int32, (if rg_v h300_z 2 0 < m306_z + (rg_v h300_z 2 7) then rg_v h300_z 2 0 else m306_z + (rg_v h300_z 2 7)) = mq := ⟨_, rfl⟩
              replace hm_z := rn_min (w := m313_z) (am_cur_of (i := (179, 3, .invokestatic 107, (0, 975, 2), 0)) (by decide +kernel)) e314_z hm_z
              replace hm_z := rn_put (am_cur_of (i := (182, 3, .putfield 49, (5, 0, 463), 0)) (by decide +kernel)) (by decide +kernel) hm_z
              replace hm_z := rn_aload_n (am_cur_of (i := (185, 1, .aload_n 0, (0, 0, 0), 0)) (by decide +kernel)) g0_z hm_z
              replace hm_z := rn_getR (x := 149) (am_cur_of (i := (186, 3, .getfield 12, (8, 1, 569), 0)) (by decide +kernel)) (by decide +kernel) hm_z
              replace hm_z := rn_dup (am_cur_of (i := (189, 1, .dup, (0, 0, 0), 0)) (by decide +kernel)) hm_z
              replace hm_z := rn_getI (v := s) (am_cur_of (i := (190, 3, .getfield 59, (5, 1, 470), 0)) (by decide +kernel)) (by decide +kernel) ((rg_v_other (by omega)).trans ((rg_v_other (by omega)).trans (es3_z))) hm_z
              replace hm_z := rn_iconst (w := 1) (am_cur_of (i := (193, 1, .iconst 1, (0, 0, 0), 0)) (by decide +kernel)) (by decide) hm_z
              replace hm_z := rn_iadd (w := s + 1) (am_cur_of (i := (194, 1, .iadd, (0, 0, 0), 0)) (by decide +kernel)) rfl hm_z
              replace hm_z := rn_put (am_cur_of (i := (195, 3, .putfield 59, (5, 1, 470), 0)) (by decide +kernel)) (by decide +kernel) hm_z
              replace hm_z := rn_aload_n (am_cur_of (i := (198, 1, .aload_n 0, (0, 0, 0), 0)) (by decide +kernel)) g0_z hm_z
              replace hm_z := rn_aload_n (am_cur_of (i := (199, 1, .aload_n 0, (0, 0, 0), 0)) (by decide +kernel)) g0_z hm_z
              replace hm_z := rn_getI (v := rg_v h300_z 148 6) (am_cur_of (i := (200, 3, .getfield 46, (8, 6, 581), 0)) (by decide +kernel)) (by decide +kernel) ((rg_v_other (by omega)).trans ((rg_v_other (by omega)).trans ((rg_v_other (by omega)).trans (rfl)))) hm_z
              replace hm_z := rn_aload_n (am_cur_of (i := (203, 1, .aload_n 0, (0, 0, 0), 0)) (by decide +kernel)) g0_z hm_z
              replace hm_z := rn_getR (x := 149) (am_cur_of (i := (204, 3, .getfield 12, (8, 1, 569), 0)) (by decide +kernel)) (by decide +kernel) hm_z
              replace hm_z := rn_getI (v := m313_z) (am_cur_of (i := (207, 3, .getfield 49, (5, 0, 463), 0)) (by decide +kernel)) (by decide +kernel) ((rg_v_other (by omega)).trans (rg_v_self)) hm_z
              obtain ⟨m315_z, e316_z⟩ : ∃ mq : Int32, (if m313_z < rg_v h300_z 148 6 then m313_z else rg_v h300_z 148 6) = mq := ⟨_, rfl⟩
              replace hm_z := rn_min (w := m315_z) (am_cur_of (i := (210, 3, .invokestatic 107, (0, 975, 2), 0)) (by decide +kernel)) e316_z hm_z
              replace hm_z := rn_put (am_cur_of (i := (213, 3, .putfield 46, (8, 6, 581), 0)) (by decide +kernel)) (by decide +kernel) hm_z
              replace hm_z := rn_iinc (w := i + 1) (am_cur_of (i := (216, 3, .iinc 5 1, (0, 0, 0), 0)) (by decide +kernel)) g5_z rfl hm_z
              obtain ⟨_, s317_z, s318_z, g5_z, hm_z⟩ := hm_z
              replace g0_z := s317_z 0 _ (by decide) rfl g0_z
              replace g1_z := s317_z 1 _ (by decide) rfl g1_z
              replace g2_z := s317_z 2 _ (by decide) rfl g2_z
              replace g4_z := s317_z 4 _ (by decide) rfl g4_z
              replace g6_z := s317_z 6 _ (by decide) rfl g6_z
              replace g7_z := s317_z 7 _ (by decide) rfl g7_z
              clear s317_z s318_z
              replace hm_z := rn_gotoL (am_cur_of (i := (219, 3, .goto (-167), (26, 0, 0), 0)) (by decide +kernel)) hm_z
              have gg : gk g (am_up (am_up (am_up (am_up h300_z 149 0 (.int m306_z)) 149 0 (.int m313_z)) 149 1 (.int (s + 1))) 148 6 (.int m315_z)) := (gk_u rfl (gk_u rfl (gk_u rfl (gk_u rfl (gk_w kv)))))
              obtain ⟨z1_z, z2_z, z3_z⟩ := ih_z k (i + 1) (s + 1) _ _ (gd_b gg T) (((rg_v_other (by omega)).trans ((rg_v_other (by omega)).trans ((rg_v_other (by omega)).trans ((rg_v_other (by omega)).trans (el3_z)))))) (((rg_v_other (by omega)).trans (rg_v_self))) g0_z g1_z g2_z g4_z g5_z (by omega) (by omega) (by omega) hm_z
              exact ⟨z1_z, by omega, gk_t gg z3_z⟩
          · replace b294_z : ¬ o = (0 : Int32) ∧ ¬ o.toInt = (0 : Int32).toInt := b294_z
            replace hm_z := rn_iconst (w := 1) (am_cur_of (i := (103, 1, .iconst 1, (0, 0, 0), 0)) (by decide +kernel)) (by decide) hm_z
            replace hm_z := rn_goto (am_cur_of (i := (104, 3, .goto 4, (56, 0, 0), 0)) (by decide +kernel)) hm_z
            replace hm_z := rn_iconst (w := 0) (am_cur_of (i := (108, 1, .iconst 0, (0, 0, 0), 0)) (by decide +kernel)) (by decide) hm_z
            replace hm_z := rn_callV (M' := am_m65) (o := 148) (ar := [.int 0, .int 1, .int 0]) (rest := []) (L := lv_args 0 [.ref 148, .int 0, .int 1, .int 0]) (am_cur_of (i := (109, 3, .invokevirtual 94, (65, 973, 3), 0)) (by decide +kernel)) rfl rfl rfl rfl hm_z
            obtain ⟨r319_z, h320_z, q321_z, hm_z⟩ := hm_z
            obtain ⟨v322_z, rfl⟩ := fk_long (M := am_m65) rfl q321_z
            have kw := wq_65_2 T q321_z
            have T2 := wd_b kw T
            have el2_z : rg_v h320_z 148 5 = 2147483647 := by
              unfold rg_v at el ⊢
              rw [kw 148 5 rfl]
              exact el
            have es2_z : rg_v h320_z 149 1 = s := by
              unfold rg_v at es_z ⊢
              rw [kw 149 1 rfl]
              exact es_z
            replace hm_z : rn _ _ _ _ [.long v322_z] _ _ _ := hm_z
            replace hm_z := rn_sipush (w := 999) (am_cur_of (i := (112, 3, .sipush 999, (0, 0, 0), 0)) (by decide +kernel)) (by decide) hm_z
            replace hm_z := rn_iload (am_cur_of (i := (115, 2, .iload 6, (0, 0, 0), 0)) (by decide +kernel)) g6_z hm_z
            replace hm_z := rn_callS (M' := am_m68) (ar := [.int (((rg_v g 149 0) / 100) + 0), .int 999, .long v322_z]) (rest := []) (L := lv_args 0 [.long v322_z, .int 999, .int (((rg_v g 149 0) / 100) + 0)]) (am_cur_of (i := (117, 3, .invokestatic 80, (68, 935, 3), 0)) (by decide +kernel)) rfl rfl rfl rfl hm_z
            obtain ⟨r323_z, h324_z, q325_z, hm_z⟩ := hm_z
            obtain ⟨v326_z, rfl⟩ := rn_ret (M := am_m68) rfl (by decide) q325_z
            have k327_z := wq_68 q325_z
            have T3 := wd_b k327_z T2
            have el3_z : rg_v h324_z 148 5 = 2147483647 := by
              unfold rg_v at el2_z ⊢
              rw [k327_z 148 5 rfl]
              exact el2_z
            have es3_z : rg_v h324_z 149 1 = s := by
              unfold rg_v at es2_z ⊢
              rw [k327_z 149 1 rfl]
              exact es2_z
            have kv := wk_t kw k327_z
            replace hm_z : rn _ _ _ _ [.int v326_z] _ _ _ := hm_z
            replace hm_z := rn_iload (am_cur_of (i := (120, 2, .iload 4, (0, 0, 0), 0)) (by decide +kernel)) g4_z hm_z
            replace hm_z := rn_iadd (w := v326_z + more) (am_cur_of (i := (122, 1, .iadd, (0, 0, 0), 0)) (by decide +kernel)) rfl hm_z
            replace hm_z := rn_istore (am_cur_of (i := (123, 2, .istore 7, (0, 0, 0), 0)) (by decide +kernel)) hm_z
            obtain ⟨_, s328_z, s329_z, g7_z, hm_z⟩ := hm_z
            replace g0_z := s328_z 0 _ (by decide) rfl g0_z
            replace g1_z := s328_z 1 _ (by decide) rfl g1_z
            replace g2_z := s328_z 2 _ (by decide) rfl g2_z
            replace g4_z := s328_z 4 _ (by decide) rfl g4_z
            replace g5_z := s328_z 5 _ (by decide) rfl g5_z
            replace g6_z := s328_z 6 _ (by decide) rfl g6_z
            clear s328_z s329_z
            replace hm_z := rn_aload_n (am_cur_of (i := (125, 1, .aload_n 0, (0, 0, 0), 0)) (by decide +kernel)) g0_z hm_z
            replace hm_z := rn_getR (x := 149) (am_cur_of (i := (126, 3, .getfield 12, (8, 1, 569), 0)) (by decide +kernel)) (by decide +kernel) hm_z
            replace hm_z := rn_aload_n (am_cur_of (i := (129, 1, .aload_n 0, (0, 0, 0), 0)) (by decide +kernel)) g0_z hm_z
            replace hm_z := rn_getR (x := 149) (am_cur_of (i := (130, 3, .getfield 12, (8, 1, 569), 0)) (by decide +kernel)) (by decide +kernel) hm_z
            replace hm_z := rn_getI (v := rg_v h324_z 149 0) (am_cur_of (i := (133, 3, .getfield 49, (5, 0, 463), 0)) (by decide +kernel)) (by decide +kernel) rfl hm_z
            replace hm_z := rn_iload (am_cur_of (i := (136, 2, .iload 7, (0, 0, 0), 0)) (by decide +kernel)) g7_z hm_z
            replace hm_z := rn_isub (w := (rg_v h324_z 149 0) - (v326_z + more)) (am_cur_of (i := (138, 1, .isub, (0, 0, 0), 0)) (by decide +kernel)) rfl hm_z
            replace hm_z := rn_iconst (w := 0) (am_cur_of (i := (139, 1, .iconst 0, (0, 0, 0), 0)) (by decide +kernel)) (by decide) hm_z
            obtain ⟨m330_z, e331_z⟩ : ∃ mq : Int32, (if (rg_v h324_z 149 0) - (v326_z + more) < 0 then 0 else (rg_v h324_z 149 0) - (v326_z + more)) = mq := ⟨_, rfl⟩
            replace hm_z := rn_max (w := m330_z) (am_cur_of (i := (140, 3, .invokestatic 98, (0, 974, 1), 0)) (by decide +kernel)) e331_z hm_z
            replace hm_z := rn_put (am_cur_of (i := (143, 3, .putfield 49, (5, 0, 463), 0)) (by decide +kernel)) (by decide +kernel) hm_z
            replace hm_z := rn_aload_n (am_cur_of (i := (146, 1, .aload_n 0, (0, 0, 0), 0)) (by decide +kernel)) g0_z hm_z
            replace hm_z := rn_getI (v := rg_v h324_z 148 4) (am_cur_of (i := (147, 3, .getfield 37, (8, 4, 577), 0)) (by decide +kernel)) (by decide +kernel) ((rg_v_other (by omega)).trans (rfl)) hm_z
            replace hm_z := rn_if (am_cur_of (i := (150, 3, .ifCond .eq 35, (91, 0, 0), 0)) (by decide +kernel)) hm_z
            rcases hm_z with ⟨b332_z, hm_z⟩ | ⟨b332_z, hm_z⟩
            · replace b332_z : (rg_v h324_z 148 4) = (0 : Int32) ∧ (rg_v h324_z 148 4).toInt = (0 : Int32).toInt := b332_z
              replace hm_z := rn_aload_n (am_cur_of (i := (185, 1, .aload_n 0, (0, 0, 0), 0)) (by decide +kernel)) g0_z hm_z
              replace hm_z := rn_getR (x := 149) (am_cur_of (i := (186, 3, .getfield 12, (8, 1, 569), 0)) (by decide +kernel)) (by decide +kernel) hm_z
              replace hm_z := rn_dup (am_cur_of (i := (189, 1, .dup, (0, 0, 0), 0)) (by decide +kernel)) hm_z
              replace hm_z := rn_getI (v := s) (am_cur_of (i := (190, 3, .getfield 59, (5, 1, 470), 0)) (by decide +kernel)) (by decide +kernel) ((rg_v_other (by omega)).trans (es3_z)) hm_z
              replace hm_z := rn_iconst (w := 1) (am_cur_of (i := (193, 1, .iconst 1, (0, 0, 0), 0)) (by decide +kernel)) (by decide) hm_z
              replace hm_z := rn_iadd (w := s + 1) (am_cur_of (i := (194, 1, .iadd, (0, 0, 0), 0)) (by decide +kernel)) rfl hm_z
              replace hm_z := rn_put (am_cur_of (i := (195, 3, .putfield 59, (5, 1, 470), 0)) (by decide +kernel)) (by decide +kernel) hm_z
              replace hm_z := rn_aload_n (am_cur_of (i := (198, 1, .aload_n 0, (0, 0, 0), 0)) (by decide +kernel)) g0_z hm_z
              replace hm_z := rn_aload_n (am_cur_of (i := (199, 1, .aload_n 0, (0, 0, 0), 0)) (by decide +kernel)) g0_z hm_z
              replace hm_z := rn_getI (v := rg_v h324_z 148 6) (am_cur_of (i := (200, 3, .getfield 46, (8, 6, 581), 0)) (by decide +kernel)) (by decide +kernel) ((rg_v_other (by omega)).trans ((rg_v_other (by omega)).trans (rfl))) hm_z
              replace hm_z := rn_aload_n (am_cur_of (i := (203, 1, .aload_n 0, (0, 0, 0), 0)) (by decide +kernel)) g0_z hm_z
              replace hm_z := rn_getR (x := 149) (am_cur_of (i := (204, 3, .getfield 12, (8, 1, 569), 0)) (by decide +kernel)) (by decide +kernel) hm_z
              replace hm_z := rn_getI (v := m330_z) (am_cur_of (i := (207, 3, .getfield 49, (5, 0, 463), 0)) (by decide +kernel)) (by decide +kernel) ((rg_v_other (by omega)).trans (rg_v_self)) hm_z
              obtain ⟨m333_z, e334_z⟩ : ∃ mq : Int32, (if m330_z < rg_v h324_z 148 6 then m330_z else rg_v h324_z 148 6) = mq := ⟨_, rfl⟩
              replace hm_z := rn_min (w := m333_z) (am_cur_of (i := (210, 3, .invokestatic 107, (0, 975, 2), 0)) (by decide +kernel)) e334_z hm_z
              replace hm_z := rn_put (am_cur_of (i := (213, 3, .putfield 46, (8, 6, 581), 0)) (by decide +kernel)) (by decide +kernel) hm_z
              replace hm_z := rn_iinc (w := i + 1) (am_cur_of (i := (216, 3, .iinc 5 1, (0, 0, 0), 0)) (by decide +kernel)) g5_z rfl hm_z
              obtain ⟨_, s335_z, s336_z, g5_z, hm_z⟩ := hm_z
              replace g0_z := s335_z 0 _ (by decide) rfl g0_z
              replace g1_z := s335_z 1 _ (by decide) rfl g1_z
              replace g2_z := s335_z 2 _ (by decide) rfl g2_z
              replace g4_z := s335_z 4 _ (by decide) rfl g4_z
              replace g6_z := s335_z 6 _ (by decide) rfl g6_z
              replace g7_z := s335_z 7 _ (by decide) rfl g7_z
              clear s335_z s336_z
              replace hm_z := rn_gotoL (am_cur_of (i := (219, 3, .goto (-167), (26, 0, 0), 0)) (by decide +kernel)) hm_z
              have gg : gk g (am_up (am_up (am_up h324_z 149 0 (.int m330_z)) 149 1 (.int (s + 1))) 148 6 (.int m333_z)) := (gk_u rfl (gk_u rfl (gk_u rfl (gk_w kv))))
              obtain ⟨z1_z, z2_z, z3_z⟩ := ih_z k (i + 1) (s + 1) _ _ (gd_b gg T) (((rg_v_other (by omega)).trans ((rg_v_other (by omega)).trans ((rg_v_other (by omega)).trans (el3_z))))) (((rg_v_other (by omega)).trans (rg_v_self))) g0_z g1_z g2_z g4_z g5_z (by omega) (by omega) (by omega) hm_z
              exact ⟨z1_z, by omega, gk_t gg z3_z⟩
            · replace b332_z : ¬ (rg_v h324_z 148 4) = (0 : Int32) ∧ ¬ (rg_v h324_z 148 4).toInt = (0 : Int32).toInt := b332_z
              replace hm_z := rn_aload_n (am_cur_of (i := (153, 1, .aload_n 0, (0, 0, 0), 0)) (by decide +kernel)) g0_z hm_z
              replace hm_z := rn_getR (x := 149) (am_cur_of (i := (154, 3, .getfield 12, (8, 1, 569), 0)) (by decide +kernel)) (by decide +kernel) hm_z
              replace hm_z := rn_aload_n (am_cur_of (i := (157, 1, .aload_n 0, (0, 0, 0), 0)) (by decide +kernel)) g0_z hm_z
              replace hm_z := rn_getR (x := 149) (am_cur_of (i := (158, 3, .getfield 12, (8, 1, 569), 0)) (by decide +kernel)) (by decide +kernel) hm_z
              replace hm_z := rn_getI (v := m330_z) (am_cur_of (i := (161, 3, .getfield 49, (5, 0, 463), 0)) (by decide +kernel)) (by decide +kernel) rg_v_self hm_z
              replace hm_z := rn_aload_n (am_cur_of (i := (164, 1, .aload_n 0, (0, 0, 0), 0)) (by decide +kernel)) g0_z hm_z
              replace hm_z := rn_getM (x := 2) (am_cur_of (i := (165, 3, .getfield 18, (8, 0, 566), 0)) (by decide +kernel)) (show (am_up h324_z 149 0 (.int m330_z)) 148 0 = .ref 2 from T3) hm_z
              replace hm_z := rn_getI (v := rg_v h324_z 2 7) (am_cur_of (i := (168, 3, .getfield 104, (1, 7, 277), 0)) (by decide +kernel)) (by decide +kernel) ((rg_v_other (by omega)).trans (rfl)) hm_z
              replace hm_z := rn_iadd (w := m330_z + (rg_v h324_z 2 7)) (am_cur_of (i := (171, 1, .iadd, (0, 0, 0), 0)) (by decide +kernel)) rfl hm_z
              replace hm_z := rn_aload_n (am_cur_of (i := (172, 1, .aload_n 0, (0, 0, 0), 0)) (by decide +kernel)) g0_z hm_z
              replace hm_z := rn_getM (x := 2) (am_cur_of (i := (173, 3, .getfield 18, (8, 0, 566), 0)) (by decide +kernel)) (show (am_up h324_z 149 0 (.int m330_z)) 148 0 = .ref 2 from T3) hm_z
              replace hm_z := rn_getI (v := rg_v h324_z 2 0) (am_cur_of (i := (176, 3, .getfield 52, (1, 0, 249), 0)) (by decide +kernel)) (by decide +kernel) ((rg_v_other (by omega)).trans (rfl)) hm_z
              obtain ⟨m337_z, e338_z⟩ : ∃ mq : Int32, (if rg_v h324_z 2 0 < m330_z + (rg_v h324_z 2 7) then rg_v h324_z 2 0 else m330_z + (rg_v h324_z 2 7)) = mq := ⟨_, rfl⟩
              replace hm_z := rn_min (w := m337_z) (am_cur_of (i := (179, 3, .invokestatic 107, (0, 975, 2), 0)) (by decide +kernel)) e338_z hm_z
              replace hm_z := rn_put (am_cur_of (i := (182, 3, .putfield 49, (5, 0, 463), 0)) (by decide +kernel)) (by decide +kernel) hm_z
              replace hm_z := rn_aload_n (am_cur_of (i := (185, 1, .aload_n 0, (0, 0, 0), 0)) (by decide +kernel)) g0_z hm_z
              replace hm_z := rn_getR (x := 149) (am_cur_of (i := (186, 3, .getfield 12, (8, 1, 569), 0)) (by decide +kernel)) (by decide +kernel) hm_z
              replace hm_z := rn_dup (am_cur_of (i := (189, 1, .dup, (0, 0, 0), 0)) (by decide +kernel)) hm_z
              replace hm_z := rn_getI (v := s) (am_cur_of (i := (190, 3, .getfield 59, (5, 1, 470), 0)) (by decide +kernel)) (by decide +kernel) ((rg_v_other (by omega)).trans ((rg_v_other (by omega)).trans (es3_z))) hm_z
              replace hm_z := rn_iconst (w := 1) (am_cur_of (i := (193, 1, .iconst 1, (0, 0, 0), 0)) (by decide +kernel)) (by decide) hm_z
              replace hm_z := rn_iadd (w := s + 1) (am_cur_of (i := (194, 1, .iadd, (0, 0, 0), 0)) (by decide +kernel)) rfl hm_z
              replace hm_z := rn_put (am_cur_of (i := (195, 3, .putfield 59, (5, 1, 470), 0)) (by decide +kernel)) (by decide +kernel) hm_z
              replace hm_z := rn_aload_n (am_cur_of (i := (198, 1, .aload_n 0, (0, 0, 0), 0)) (by decide +kernel)) g0_z hm_z
              replace hm_z := rn_aload_n (am_cur_of (i := (199, 1, .aload_n 0, (0, 0, 0), 0)) (by decide +kernel)) g0_z hm_z
              replace hm_z := rn_getI (v := rg_v h324_z 148 6) (am_cur_of (i := (200, 3, .getfield 46, (8, 6, 581), 0)) (by decide +kernel)) (by decide +kernel) ((rg_v_other (by omega)).trans ((rg_v_other (by omega)).trans ((rg_v_other (by omega)).trans (rfl)))) hm_z
              replace hm_z := rn_aload_n (am_cur_of (i := (203, 1, .aload_n 0, (0, 0, 0), 0)) (by decide +kernel)) g0_z hm_z
              replace hm_z := rn_getR (x := 149) (am_cur_of (i := (204, 3, .getfield 12, (8, 1, 569), 0)) (by decide +kernel)) (by decide +kernel) hm_z
              replace hm_z := rn_getI (v := m337_z) (am_cur_of (i := (207, 3, .getfield 49, (5, 0, 463), 0)) (by decide +kernel)) (by decide +kernel) ((rg_v_other (by omega)).trans (rg_v_self)) hm_z
              obtain ⟨m339_z, e340_z⟩ : ∃ mq : Int32, (if m337_z < rg_v h324_z 148 6 then m337_z else rg_v h324_z 148 6) = mq := ⟨_, rfl⟩
              replace hm_z := rn_min (w := m339_z) (am_cur_of (i := (210, 3, .invokestatic 107, (0, 975, 2), 0)) (by decide +kernel)) e340_z hm_z
              replace hm_z := rn_put (am_cur_of (i := (213, 3, .putfield 46, (8, 6, 581), 0)) (by decide +kernel)) (by decide +kernel) hm_z
              replace hm_z := rn_iinc (w := i + 1) (am_cur_of (i := (216, 3, .iinc 5 1, (0, 0, 0), 0)) (by decide +kernel)) g5_z rfl hm_z
              obtain ⟨_, s341_z, s342_z, g5_z, hm_z⟩ := hm_z
              replace g0_z := s341_z 0 _ (by decide) rfl g0_z
              replace g1_z := s341_z 1 _ (by decide) rfl g1_z
              replace g2_z := s341_z 2 _ (by decide) rfl g2_z
              replace g4_z := s341_z 4 _ (by decide) rfl g4_z
              replace g6_z := s341_z 6 _ (by decide) rfl g6_z
              replace g7_z := s341_z 7 _ (by decide) rfl g7_z
              clear s341_z s342_z
              replace hm_z := rn_gotoL (am_cur_of (i := (219, 3, .goto (-167), (26, 0, 0), 0)) (by decide +kernel)) hm_z
              have gg : gk g (am_up (am_up (am_up (am_up h324_z 149 0 (.int m330_z)) 149 0 (.int m337_z)) 149 1 (.int (s + 1))) 148 6 (.int m339_z)) := (gk_u rfl (gk_u rfl (gk_u rfl (gk_u rfl (gk_w kv)))))
              obtain ⟨z1_z, z2_z, z3_z⟩ := ih_z k (i + 1) (s + 1) _ _ (gd_b gg T) (((rg_v_other (by omega)).trans ((rg_v_other (by omega)).trans ((rg_v_other (by omega)).trans ((rg_v_other (by omega)).trans (el3_z)))))) (((rg_v_other (by omega)).trans (rg_v_self))) g0_z g1_z g2_z g4_z g5_z (by omega) (by omega) (by omega) hm_z
              exact ⟨z1_z, by omega, gk_t gg z3_z⟩
        · replace b291_z : ¬ o = (0 : Int32) ∧ ¬ o.toInt = (0 : Int32).toInt := b291_z
          replace hm_z := rn_bipush (w := 20) (am_cur_of (i := (88, 2, .bipush 20, (0, 0, 0), 0)) (by decide +kernel)) (by decide) hm_z
          replace hm_z := rn_goto (am_cur_of (i := (90, 3, .goto 4, (47, 0, 0), 0)) (by decide +kernel)) hm_z
          replace hm_z := rn_iadd (w := ((rg_v g 149 0) / 100) + 20) (am_cur_of (i := (94, 1, .iadd, (0, 0, 0), 0)) (by decide +kernel)) rfl hm_z
          replace hm_z := rn_istore (am_cur_of (i := (95, 2, .istore 6, (0, 0, 0), 0)) (by decide +kernel)) hm_z
          obtain ⟨_, s343_z, s344_z, g6_z, hm_z⟩ := hm_z
          replace g0_z := s343_z 0 _ (by decide) rfl g0_z
          replace g1_z := s343_z 1 _ (by decide) rfl g1_z
          replace g2_z := s343_z 2 _ (by decide) rfl g2_z
          replace g4_z := s343_z 4 _ (by decide) rfl g4_z
          replace g5_z := s343_z 5 _ (by decide) rfl g5_z
          clear s343_z s344_z
          replace hm_z := rn_aload_n (am_cur_of (i := (97, 1, .aload_n 0, (0, 0, 0), 0)) (by decide +kernel)) g0_z hm_z
          replace hm_z := rn_iconst (w := 0) (am_cur_of (i := (98, 1, .iconst 0, (0, 0, 0), 0)) (by decide +kernel)) (by decide) hm_z
          replace hm_z := rn_iload_n (am_cur_of (i := (99, 1, .iload_n 2, (0, 0, 0), 0)) (by decide +kernel)) g2_z hm_z
          replace hm_z := rn_if (am_cur_of (i := (100, 3, .ifCond .eq 7, (55, 0, 0), 0)) (by decide +kernel)) hm_z
          rcases hm_z with ⟨b345_z, hm_z⟩ | ⟨b345_z, hm_z⟩
          · replace b345_z : o = (0 : Int32) ∧ o.toInt = (0 : Int32).toInt := b345_z
            replace hm_z := rn_iconst (w := 0) (am_cur_of (i := (107, 1, .iconst 0, (0, 0, 0), 0)) (by decide +kernel)) (by decide) hm_z
            replace hm_z := rn_iconst (w := 0) (am_cur_of (i := (108, 1, .iconst 0, (0, 0, 0), 0)) (by decide +kernel)) (by decide) hm_z
            replace hm_z := rn_callV (M' := am_m65) (o := 148) (ar := [.int 0, .int 0, .int 0]) (rest := []) (L := lv_args 0 [.ref 148, .int 0, .int 0, .int 0]) (am_cur_of (i := (109, 3, .invokevirtual 94, (65, 973, 3), 0)) (by decide +kernel)) rfl rfl rfl rfl hm_z
            obtain ⟨r346_z, h347_z, q348_z, hm_z⟩ := hm_z
            obtain ⟨v349_z, rfl⟩ := fk_long (M := am_m65) rfl q348_z
            have kw := wq_65_2 T q348_z
            have T2 := wd_b kw T
            have el2_z : rg_v h347_z 148 5 = 2147483647 := by
              unfold rg_v at el ⊢
              rw [kw 148 5 rfl]
              exact el
            have es2_z : rg_v h347_z 149 1 = s := by
              unfold rg_v at es_z ⊢
              rw [kw 149 1 rfl]
              exact es_z
            replace hm_z : rn _ _ _ _ [.long v349_z] _ _ _ := hm_z
            replace hm_z := rn_sipush (w := 999) (am_cur_of (i := (112, 3, .sipush 999, (0, 0, 0), 0)) (by decide +kernel)) (by decide) hm_z
            replace hm_z := rn_iload (am_cur_of (i := (115, 2, .iload 6, (0, 0, 0), 0)) (by decide +kernel)) g6_z hm_z
            replace hm_z := rn_callS (M' := am_m68) (ar := [.int (((rg_v g 149 0) / 100) + 20), .int 999, .long v349_z]) (rest := []) (L := lv_args 0 [.long v349_z, .int 999, .int (((rg_v g 149 0) / 100) + 20)]) (am_cur_of (i := (117, 3, .invokestatic 80, (68, 935, 3), 0)) (by decide +kernel)) rfl rfl rfl rfl hm_z
            obtain ⟨r350_z, h351_z, q352_z, hm_z⟩ := hm_z
            obtain ⟨v353_z, rfl⟩ := rn_ret (M := am_m68) rfl (by decide) q352_z
            have k354_z := wq_68 q352_z
            have T3 := wd_b k354_z T2
            have el3_z : rg_v h351_z 148 5 = 2147483647 := by
              unfold rg_v at el2_z ⊢
              rw [k354_z 148 5 rfl]
              exact el2_z
            have es3_z : rg_v h351_z 149 1 = s := by
              unfold rg_v at es2_z ⊢
              rw [k354_z 149 1 rfl]
              exact es2_z
            have kv := wk_t kw k354_z
            replace hm_z : rn _ _ _ _ [.int v353_z] _ _ _ := hm_z
            replace hm_z := rn_iload (am_cur_of (i := (120, 2, .iload 4, (0, 0, 0), 0)) (by decide +kernel)) g4_z hm_z
            replace hm_z := rn_iadd (w := v353_z + more) (am_cur_of (i := (122, 1, .iadd, (0, 0, 0), 0)) (by decide +kernel)) rfl hm_z
            replace hm_z := rn_istore (am_cur_of (i := (123, 2, .istore 7, (0, 0, 0), 0)) (by decide +kernel)) hm_z
            obtain ⟨_, s355_z, s356_z, g7_z, hm_z⟩ := hm_z
            replace g0_z := s355_z 0 _ (by decide) rfl g0_z
            replace g1_z := s355_z 1 _ (by decide) rfl g1_z
            replace g2_z := s355_z 2 _ (by decide) rfl g2_z
            replace g4_z := s355_z 4 _ (by decide) rfl g4_z
            replace g5_z := s355_z 5 _ (by decide) rfl g5_z
            replace g6_z := s355_z 6 _ (by decide) rfl g6_z
            clear s355_z s356_z
            replace hm_z := rn_aload_n (am_cur_of (i := (125, 1, .aload_n 0, (0, 0, 0), 0)) (by decide +kernel)) g0_z hm_z
            replace hm_z := rn_getR (x := 149) (am_cur_of (i := (126, 3, .getfield 12, (8, 1, 569), 0)) (by decide +kernel)) (by decide +kernel) hm_z
            replace hm_z := rn_aload_n (am_cur_of (i := (129, 1, .aload_n 0, (0, 0, 0), 0)) (by decide +kernel)) g0_z hm_z
            replace hm_z := rn_getR (x := 149) (am_cur_of (i := (130, 3, .getfield 12, (8, 1, 569), 0)) (by decide +kernel)) (by decide +kernel) hm_z
            replace hm_z := rn_getI (v := rg_v h351_z 149 0) (am_cur_of (i := (133, 3, .getfield 49, (5, 0, 463), 0)) (by decide +kernel)) (by decide +kernel) rfl hm_z
            replace hm_z := rn_iload (am_cur_of (i := (136, 2, .iload 7, (0, 0, 0), 0)) (by decide +kernel)) g7_z hm_z
            replace hm_z := rn_isub (w := (rg_v h351_z 149 0) - (v353_z + more)) (am_cur_of (i := (138, 1, .isub, (0, 0, 0), 0)) (by decide +kernel)) rfl hm_z
            replace hm_z := rn_iconst (w := 0) (am_cur_of (i := (139, 1, .iconst 0, (0, 0, 0), 0)) (by decide +kernel)) (by decide) hm_z
            obtain ⟨m357_z, e358_z⟩ : ∃ mq : Int32, (if (rg_v h351_z 149 0) - (v353_z + more) < 0 then 0 else (rg_v h351_z 149 0) - (v353_z + more)) = mq := ⟨_, rfl⟩
            replace hm_z := rn_max (w := m357_z) (am_cur_of (i := (140, 3, .invokestatic 98, (0, 974, 1), 0)) (by decide +kernel)) e358_z hm_z
            replace hm_z := rn_put (am_cur_of (i := (143, 3, .putfield 49, (5, 0, 463), 0)) (by decide +kernel)) (by decide +kernel) hm_z
            replace hm_z := rn_aload_n (am_cur_of (i := (146, 1, .aload_n 0, (0, 0, 0), 0)) (by decide +kernel)) g0_z hm_z
            replace hm_z := rn_getI (v := rg_v h351_z 148 4) (am_cur_of (i := (147, 3, .getfield 37, (8, 4, 577), 0)) (by decide +kernel)) (by decide +kernel) ((rg_v_other (by omega)).trans (rfl)) hm_z
            replace hm_z := rn_if (am_cur_of (i := (150, 3, .ifCond .eq 35, (91, 0, 0), 0)) (by decide +kernel)) hm_z
            rcases hm_z with ⟨b359_z, hm_z⟩ | ⟨b359_z, hm_z⟩
            · replace b359_z : (rg_v h351_z 148 4) = (0 : Int32) ∧ (rg_v h351_z 148 4).toInt = (0 : Int32).toInt := b359_z
              replace hm_z := rn_aload_n (am_cur_of (i := (185, 1, .aload_n 0, (0, 0, 0), 0)) (by decide +kernel)) g0_z hm_z
              replace hm_z := rn_getR (x := 149) (am_cur_of (i := (186, 3, .getfield 12, (8, 1, 569), 0)) (by decide +kernel)) (by decide +kernel) hm_z
              replace hm_z := rn_dup (am_cur_of (i := (189, 1, .dup, (0, 0, 0), 0)) (by decide +kernel)) hm_z
              replace hm_z := rn_getI (v := s) (am_cur_of (i := (190, 3, .getfield 59, (5, 1, 470), 0)) (by decide +kernel)) (by decide +kernel) ((rg_v_other (by omega)).trans (es3_z)) hm_z
              replace hm_z := rn_iconst (w := 1) (am_cur_of (i := (193, 1, .iconst 1, (0, 0, 0), 0)) (by decide +kernel)) (by decide) hm_z
              replace hm_z := rn_iadd (w := s + 1) (am_cur_of (i := (194, 1, .iadd, (0, 0, 0), 0)) (by decide +kernel)) rfl hm_z
              replace hm_z := rn_put (am_cur_of (i := (195, 3, .putfield 59, (5, 1, 470), 0)) (by decide +kernel)) (by decide +kernel) hm_z
              replace hm_z := rn_aload_n (am_cur_of (i := (198, 1, .aload_n 0, (0, 0, 0), 0)) (by decide +kernel)) g0_z hm_z
              replace hm_z := rn_aload_n (am_cur_of (i := (199, 1, .aload_n 0, (0, 0, 0), 0)) (by decide +kernel)) g0_z hm_z
              replace hm_z := rn_getI (v := rg_v h351_z 148 6) (am_cur_of (i := (200, 3, .getfield 46, (8, 6, 581), 0)) (by decide +kernel)) (by decide +kernel) ((rg_v_other (by omega)).trans ((rg_v_other (by omega)).trans (rfl))) hm_z
              replace hm_z := rn_aload_n (am_cur_of (i := (203, 1, .aload_n 0, (0, 0, 0), 0)) (by decide +kernel)) g0_z hm_z
              replace hm_z := rn_getR (x := 149) (am_cur_of (i := (204, 3, .getfield 12, (8, 1, 569), 0)) (by decide +kernel)) (by decide +kernel) hm_z
              replace hm_z := rn_getI (v := m357_z) (am_cur_of (i := (207, 3, .getfield 49, (5, 0, 463), 0)) (by decide +kernel)) (by decide +kernel) ((rg_v_other (by omega)).trans (rg_v_self)) hm_z
              obtain ⟨m360_z, e361_z⟩ : ∃ mq : Int32, (if m357_z < rg_v h351_z 148 6 then m357_z else rg_v h351_z 148 6) = mq := ⟨_, rfl⟩
              replace hm_z := rn_min (w := m360_z) (am_cur_of (i := (210, 3, .invokestatic 107, (0, 975, 2), 0)) (by decide +kernel)) e361_z hm_z
              replace hm_z := rn_put (am_cur_of (i := (213, 3, .putfield 46, (8, 6, 581), 0)) (by decide +kernel)) (by decide +kernel) hm_z
              replace hm_z := rn_iinc (w := i + 1) (am_cur_of (i := (216, 3, .iinc 5 1, (0, 0, 0), 0)) (by decide +kernel)) g5_z rfl hm_z
              obtain ⟨_, s362_z, s363_z, g5_z, hm_z⟩ := hm_z
              replace g0_z := s362_z 0 _ (by decide) rfl g0_z
              replace g1_z := s362_z 1 _ (by decide) rfl g1_z
              replace g2_z := s362_z 2 _ (by decide) rfl g2_z
              replace g4_z := s362_z 4 _ (by decide) rfl g4_z
              replace g6_z := s362_z 6 _ (by decide) rfl g6_z
              replace g7_z := s362_z 7 _ (by decide) rfl g7_z
              clear s362_z s363_z
              replace hm_z := rn_gotoL (am_cur_of (i := (219, 3, .goto (-167), (26, 0, 0), 0)) (by decide +kernel)) hm_z
              have gg : gk g (am_up (am_up (am_up h351_z 149 0 (.int m357_z)) 149 1 (.int (s + 1))) 148 6 (.int m360_z)) := (gk_u rfl (gk_u rfl (gk_u rfl (gk_w kv))))
              obtain ⟨z1_z, z2_z, z3_z⟩ := ih_z k (i + 1) (s + 1) _ _ (gd_b gg T) (((rg_v_other (by omega)).trans ((rg_v_other (by omega)).trans ((rg_v_other (by omega)).trans (el3_z))))) (((rg_v_other (by omega)).trans (rg_v_self))) g0_z g1_z g2_z g4_z g5_z (by omega) (by omega) (by omega) hm_z
              exact ⟨z1_z, by omega, gk_t gg z3_z⟩
            · replace b359_z : ¬ (rg_v h351_z 148 4) = (0 : Int32) ∧ ¬ (rg_v h351_z 148 4).toInt = (0 : Int32).toInt := b359_z
              replace hm_z := rn_aload_n (am_cur_of (i := (153, 1, .aload_n 0, (0, 0, 0), 0)) (by decide +kernel)) g0_z hm_z
              replace hm_z := rn_getR (x := 149) (am_cur_of (i := (154, 3, .getfield 12, (8, 1, 569), 0)) (by decide +kernel)) (by decide +kernel) hm_z
              replace hm_z := rn_aload_n (am_cur_of (i := (157, 1, .aload_n 0, (0, 0, 0), 0)) (by decide +kernel)) g0_z hm_z
              replace hm_z := rn_getR (x := 149) (am_cur_of (i := (158, 3, .getfield 12, (8, 1, 569), 0)) (by decide +kernel)) (by decide +kernel) hm_z
              replace hm_z := rn_getI (v := m357_z) (am_cur_of (i := (161, 3, .getfield 49, (5, 0, 463), 0)) (by decide +kernel)) (by decide +kernel) rg_v_self hm_z
              replace hm_z := rn_aload_n (am_cur_of (i := (164, 1, .aload_n 0, (0, 0, 0), 0)) (by decide +kernel)) g0_z hm_z
              replace hm_z := rn_getM (x := 2) (am_cur_of (i := (165, 3, .getfield 18, (8, 0, 566), 0)) (by decide +kernel)) (show (am_up h351_z 149 0 (.int m357_z)) 148 0 = .ref 2 from T3) hm_z
              replace hm_z := rn_getI (v := rg_v h351_z 2 7) (am_cur_of (i := (168, 3, .getfield 104, (1, 7, 277), 0)) (by decide +kernel)) (by decide +kernel) ((rg_v_other (by omega)).trans (rfl)) hm_z
              replace hm_z := rn_iadd (w := m357_z + (rg_v h351_z 2 7)) (am_cur_of (i := (171, 1, .iadd, (0, 0, 0), 0)) (by decide +kernel)) rfl hm_z
              replace hm_z := rn_aload_n (am_cur_of (i := (172, 1, .aload_n 0, (0, 0, 0), 0)) (by decide +kernel)) g0_z hm_z
              replace hm_z := rn_getM (x := 2) (am_cur_of (i := (173, 3, .getfield 18, (8, 0, 566), 0)) (by decide +kernel)) (show (am_up h351_z 149 0 (.int m357_z)) 148 0 = .ref 2 from T3) hm_z
              replace hm_z := rn_getI (v := rg_v h351_z 2 0) (am_cur_of (i := (176, 3, .getfield 52, (1, 0, 249), 0)) (by decide +kernel)) (by decide +kernel) ((rg_v_other (by omega)).trans (rfl)) hm_z
              obtain ⟨m364_z, e365_z⟩ : ∃ mq : Int32, (if rg_v h351_z 2 0 < m357_z + (rg_v h351_z 2 7) then rg_v h351_z 2 0 else m357_z + (rg_v h351_z 2 7)) = mq := ⟨_, rfl⟩
              replace hm_z := rn_min (w := m364_z) (am_cur_of (i := (179, 3, .invokestatic 107, (0, 975, 2), 0)) (by decide +kernel)) e365_z hm_z
              replace hm_z := rn_put (am_cur_of (i := (182, 3, .putfield 49, (5, 0, 463), 0)) (by decide +kernel)) (by decide +kernel) hm_z
              replace hm_z := rn_aload_n (am_cur_of (i := (185, 1, .aload_n 0, (0, 0, 0), 0)) (by decide +kernel)) g0_z hm_z
              replace hm_z := rn_getR (x := 149) (am_cur_of (i := (186, 3, .getfield 12, (8, 1, 569), 0)) (by decide +kernel)) (by decide +kernel) hm_z
              replace hm_z := rn_dup (am_cur_of (i := (189, 1, .dup, (0, 0, 0), 0)) (by decide +kernel)) hm_z
              replace hm_z := rn_getI (v := s) (am_cur_of (i := (190, 3, .getfield 59, (5, 1, 470), 0)) (by decide +kernel)) (by decide +kernel) ((rg_v_other (by omega)).trans ((rg_v_other (by omega)).trans (es3_z))) hm_z
              replace hm_z := rn_iconst (w := 1) (am_cur_of (i := (193, 1, .iconst 1, (0, 0, 0), 0)) (by decide +kernel)) (by decide) hm_z
              replace hm_z := rn_iadd (w := s + 1) (am_cur_of (i := (194, 1, .iadd, (0, 0, 0), 0)) (by decide +kernel)) rfl hm_z
              replace hm_z := rn_put (am_cur_of (i := (195, 3, .putfield 59, (5, 1, 470), 0)) (by decide +kernel)) (by decide +kernel) hm_z
              replace hm_z := rn_aload_n (am_cur_of (i := (198, 1, .aload_n 0, (0, 0, 0), 0)) (by decide +kernel)) g0_z hm_z
              replace hm_z := rn_aload_n (am_cur_of (i := (199, 1, .aload_n 0, (0, 0, 0), 0)) (by decide +kernel)) g0_z hm_z
              replace hm_z := rn_getI (v := rg_v h351_z 148 6) (am_cur_of (i := (200, 3, .getfield 46, (8, 6, 581), 0)) (by decide +kernel)) (by decide +kernel) ((rg_v_other (by omega)).trans ((rg_v_other (by omega)).trans ((rg_v_other (by omega)).trans (rfl)))) hm_z
              replace hm_z := rn_aload_n (am_cur_of (i := (203, 1, .aload_n 0, (0, 0, 0), 0)) (by decide +kernel)) g0_z hm_z
              replace hm_z := rn_getR (x := 149) (am_cur_of (i := (204, 3, .getfield 12, (8, 1, 569), 0)) (by decide +kernel)) (by decide +kernel) hm_z
              replace hm_z := rn_getI (v := m364_z) (am_cur_of (i := (207, 3, .getfield 49, (5, 0, 463), 0)) (by decide +kernel)) (by decide +kernel) ((rg_v_other (by omega)).trans (rg_v_self)) hm_z
              obtain ⟨m366_z, e367_z⟩ : ∃ mq : Int32, (if m364_z < rg_v h351_z 148 6 then m364_z else rg_v h351_z 148 6) = mq := ⟨_, rfl⟩
              replace hm_z := rn_min (w := m366_z) (am_cur_of (i := (210, 3, .invokestatic 107, (0, 975, 2), 0)) (by decide +kernel)) e367_z hm_z
              replace hm_z := rn_put (am_cur_of (i := (213, 3, .putfield 46, (8, 6, 581), 0)) (by decide +kernel)) (by decide +kernel) hm_z
              replace hm_z := rn_iinc (w := i + 1) (am_cur_of (i := (216, 3, .iinc 5 1, (0, 0, 0), 0)) (by decide +kernel)) g5_z rfl hm_z
              obtain ⟨_, s368_z, s369_z, g5_z, hm_z⟩ := hm_z
              replace g0_z := s368_z 0 _ (by decide) rfl g0_z
              replace g1_z := s368_z 1 _ (by decide) rfl g1_z
              replace g2_z := s368_z 2 _ (by decide) rfl g2_z
              replace g4_z := s368_z 4 _ (by decide) rfl g4_z
              replace g6_z := s368_z 6 _ (by decide) rfl g6_z
              replace g7_z := s368_z 7 _ (by decide) rfl g7_z
              clear s368_z s369_z
              replace hm_z := rn_gotoL (am_cur_of (i := (219, 3, .goto (-167), (26, 0, 0), 0)) (by decide +kernel)) hm_z
              have gg : gk g (am_up (am_up (am_up (am_up h351_z 149 0 (.int m357_z)) 149 0 (.int m364_z)) 149 1 (.int (s + 1))) 148 6 (.int m366_z)) := (gk_u rfl (gk_u rfl (gk_u rfl (gk_u rfl (gk_w kv)))))
              obtain ⟨z1_z, z2_z, z3_z⟩ := ih_z k (i + 1) (s + 1) _ _ (gd_b gg T) (((rg_v_other (by omega)).trans ((rg_v_other (by omega)).trans ((rg_v_other (by omega)).trans ((rg_v_other (by omega)).trans (el3_z)))))) (((rg_v_other (by omega)).trans (rg_v_self))) g0_z g1_z g2_z g4_z g5_z (by omega) (by omega) (by omega) hm_z
              exact ⟨z1_z, by omega, gk_t gg z3_z⟩
          · replace b345_z : ¬ o = (0 : Int32) ∧ ¬ o.toInt = (0 : Int32).toInt := b345_z
            replace hm_z := rn_iconst (w := 1) (am_cur_of (i := (103, 1, .iconst 1, (0, 0, 0), 0)) (by decide +kernel)) (by decide) hm_z
            replace hm_z := rn_goto (am_cur_of (i := (104, 3, .goto 4, (56, 0, 0), 0)) (by decide +kernel)) hm_z
            replace hm_z := rn_iconst (w := 0) (am_cur_of (i := (108, 1, .iconst 0, (0, 0, 0), 0)) (by decide +kernel)) (by decide) hm_z
            replace hm_z := rn_callV (M' := am_m65) (o := 148) (ar := [.int 0, .int 1, .int 0]) (rest := []) (L := lv_args 0 [.ref 148, .int 0, .int 1, .int 0]) (am_cur_of (i := (109, 3, .invokevirtual 94, (65, 973, 3), 0)) (by decide +kernel)) rfl rfl rfl rfl hm_z
            obtain ⟨r370_z, h371_z, q372_z, hm_z⟩ := hm_z
            obtain ⟨v373_z, rfl⟩ := fk_long (M := am_m65) rfl q372_z
            have kw := wq_65_2 T q372_z
            have T2 := wd_b kw T
            have el2_z : rg_v h371_z 148 5 = 2147483647 := by
              unfold rg_v at el ⊢
              rw [kw 148 5 rfl]
              exact el
            have es2_z : rg_v h371_z 149 1 = s := by
              unfold rg_v at es_z ⊢
              rw [kw 149 1 rfl]
              exact es_z
            replace hm_z : rn _ _ _ _ [.long v373_z] _ _ _ := hm_z
            replace hm_z := rn_sipush (w := 999) (am_cur_of (i := (112, 3, .sipush 999, (0, 0, 0), 0)) (by decide +kernel)) (by decide) hm_z
            replace hm_z := rn_iload (am_cur_of (i := (115, 2, .iload 6, (0, 0, 0), 0)) (by decide +kernel)) g6_z hm_z
            replace hm_z := rn_callS (M' := am_m68) (ar := [.int (((rg_v g 149 0) / 100) + 20), .int 999, .long v373_z]) (rest := []) (L := lv_args 0 [.long v373_z, .int 999, .int (((rg_v g 149 0) / 100) + 20)]) (am_cur_of (i := (117, 3, .invokestatic 80, (68, 935, 3), 0)) (by decide +kernel)) rfl rfl rfl rfl hm_z
            obtain ⟨r374_z, h375_z, q376_z, hm_z⟩ := hm_z
            obtain ⟨v377_z, rfl⟩ := rn_ret (M := am_m68) rfl (by decide) q376_z
            have k378_z := wq_68 q376_z
            have T3 := wd_b k378_z T2
            have el3_z : rg_v h375_z 148 5 = 2147483647 := by
              unfold rg_v at el2_z ⊢
              rw [k378_z 148 5 rfl]
              exact el2_z
            have es3_z : rg_v h375_z 149 1 = s := by
              unfold rg_v at es2_z ⊢
              rw [k378_z 149 1 rfl]
              exact es2_z
            have kv := wk_t kw k378_z
            replace hm_z : rn _ _ _ _ [.int v377_z] _ _ _ := hm_z
            replace hm_z := rn_iload (am_cur_of (i := (120, 2, .iload 4, (0, 0, 0), 0)) (by decide +kernel)) g4_z hm_z
            replace hm_z := rn_iadd (w := v377_z + more) (am_cur_of (i := (122, 1, .iadd, (0, 0, 0), 0)) (by decide +kernel)) rfl hm_z
            replace hm_z := rn_istore (am_cur_of (i := (123, 2, .istore 7, (0, 0, 0), 0)) (by decide +kernel)) hm_z
            obtain ⟨_, s379_z, s380_z, g7_z, hm_z⟩ := hm_z
            replace g0_z := s379_z 0 _ (by decide) rfl g0_z
            replace g1_z := s379_z 1 _ (by decide) rfl g1_z
            replace g2_z := s379_z 2 _ (by decide) rfl g2_z
            replace g4_z := s379_z 4 _ (by decide) rfl g4_z
            replace g5_z := s379_z 5 _ (by decide) rfl g5_z
            replace g6_z := s379_z 6 _ (by decide) rfl g6_z
            clear s379_z s380_z
            replace hm_z := rn_aload_n (am_cur_of (i := (125, 1, .aload_n 0, (0, 0, 0), 0)) (by decide +kernel)) g0_z hm_z
            replace hm_z := rn_getR (x := 149) (am_cur_of (i := (126, 3, .getfield 12, (8, 1, 569), 0)) (by decide +kernel)) (by decide +kernel) hm_z
            replace hm_z := rn_aload_n (am_cur_of (i := (129, 1, .aload_n 0, (0, 0, 0), 0)) (by decide +kernel)) g0_z hm_z
            replace hm_z := rn_getR (x := 149) (am_cur_of (i := (130, 3, .getfield 12, (8, 1, 569), 0)) (by decide +kernel)) (by decide +kernel) hm_z
            replace hm_z := rn_getI (v := rg_v h375_z 149 0) (am_cur_of (i := (133, 3, .getfield 49, (5, 0, 463), 0)) (by decide +kernel)) (by decide +kernel) rfl hm_z
            replace hm_z := rn_iload (am_cur_of (i := (136, 2, .iload 7, (0, 0, 0), 0)) (by decide +kernel)) g7_z hm_z
            replace hm_z := rn_isub (w := (rg_v h375_z 149 0) - (v377_z + more)) (am_cur_of (i := (138, 1, .isub, (0, 0, 0), 0)) (by decide +kernel)) rfl hm_z
            replace hm_z := rn_iconst (w := 0) (am_cur_of (i := (139, 1, .iconst 0, (0, 0, 0), 0)) (by decide +kernel)) (by decide) hm_z
            obtain ⟨m381_z, e382_z⟩ : ∃ mq : Int32, (if (rg_v h375_z 149 0) - (v377_z + more) < 0 then 0 else (rg_v h375_z 149 0) - (v377_z + more)) = mq := ⟨_, rfl⟩
            replace hm_z := rn_max (w := m381_z) (am_cur_of (i := (140, 3, .invokestatic 98, (0, 974, 1), 0)) (by decide +kernel)) e382_z hm_z
            replace hm_z := rn_put (am_cur_of (i := (143, 3, .putfield 49, (5, 0, 463), 0)) (by decide +kernel)) (by decide +kernel) hm_z
            replace hm_z := rn_aload_n (am_cur_of (i := (146, 1, .aload_n 0, (0, 0, 0), 0)) (by decide +kernel)) g0_z hm_z
            replace hm_z := rn_getI (v := rg_v h375_z 148 4) (am_cur_of (i := (147, 3, .getfield 37, (8, 4, 577), 0)) (by decide +kernel)) (by decide +kernel) ((rg_v_other (by omega)).trans (rfl)) hm_z
            replace hm_z := rn_if (am_cur_of (i := (150, 3, .ifCond .eq 35, (91, 0, 0), 0)) (by decide +kernel)) hm_z
            rcases hm_z with ⟨b383_z, hm_z⟩ | ⟨b383_z, hm_z⟩
            · replace b383_z : (rg_v h375_z 148 4) = (0 : Int32) ∧ (rg_v h375_z 148 4).toInt = (0 : Int32).toInt := b383_z
              replace hm_z := rn_aload_n (am_cur_of (i := (185, 1, .aload_n 0, (0, 0, 0), 0)) (by decide +kernel)) g0_z hm_z
              replace hm_z := rn_getR (x := 149) (am_cur_of (i := (186, 3, .getfield 12, (8, 1, 569), 0)) (by decide +kernel)) (by decide +kernel) hm_z
              replace hm_z := rn_dup (am_cur_of (i := (189, 1, .dup, (0, 0, 0), 0)) (by decide +kernel)) hm_z
              replace hm_z := rn_getI (v := s) (am_cur_of (i := (190, 3, .getfield 59, (5, 1, 470), 0)) (by decide +kernel)) (by decide +kernel) ((rg_v_other (by omega)).trans (es3_z)) hm_z
              replace hm_z := rn_iconst (w := 1) (am_cur_of (i := (193, 1, .iconst 1, (0, 0, 0), 0)) (by decide +kernel)) (by decide) hm_z
              replace hm_z := rn_iadd (w := s + 1) (am_cur_of (i := (194, 1, .iadd, (0, 0, 0), 0)) (by decide +kernel)) rfl hm_z
              replace hm_z := rn_put (am_cur_of (i := (195, 3, .putfield 59, (5, 1, 470), 0)) (by decide +kernel)) (by decide +kernel) hm_z
              replace hm_z := rn_aload_n (am_cur_of (i := (198, 1, .aload_n 0, (0, 0, 0), 0)) (by decide +kernel)) g0_z hm_z
              replace hm_z := rn_aload_n (am_cur_of (i := (199, 1, .aload_n 0, (0, 0, 0), 0)) (by decide +kernel)) g0_z hm_z
              replace hm_z := rn_getI (v := rg_v h375_z 148 6) (am_cur_of (i := (200, 3, .getfield 46, (8, 6, 581), 0)) (by decide +kernel)) (by decide +kernel) ((rg_v_other (by omega)).trans ((rg_v_other (by omega)).trans (rfl))) hm_z
              replace hm_z := rn_aload_n (am_cur_of (i := (203, 1, .aload_n 0, (0, 0, 0), 0)) (by decide +kernel)) g0_z hm_z
              replace hm_z := rn_getR (x := 149) (am_cur_of (i := (204, 3, .getfield 12, (8, 1, 569), 0)) (by decide +kernel)) (by decide +kernel) hm_z
              replace hm_z := rn_getI (v := m381_z) (am_cur_of (i := (207, 3, .getfield 49, (5, 0, 463), 0)) (by decide +kernel)) (by decide +kernel) ((rg_v_other (by omega)).trans (rg_v_self)) hm_z
              obtain ⟨m384_z, e385_z⟩ : ∃ mq : Int32, (if m381_z < rg_v h375_z 148 6 then m381_z else rg_v h375_z 148 6) = mq := ⟨_, rfl⟩
              replace hm_z := rn_min (w := m384_z) (am_cur_of (i := (210, 3, .invokestatic 107, (0, 975, 2), 0)) (by decide +kernel)) e385_z hm_z
              replace hm_z := rn_put (am_cur_of (i := (213, 3, .putfield 46, (8, 6, 581), 0)) (by decide +kernel)) (by decide +kernel) hm_z
              replace hm_z := rn_iinc (w := i + 1) (am_cur_of (i := (216, 3, .iinc 5 1, (0, 0, 0), 0)) (by decide +kernel)) g5_z rfl hm_z
              obtain ⟨_, s386_z, s387_z, g5_z, hm_z⟩ := hm_z
              replace g0_z := s386_z 0 _ (by decide) rfl g0_z
              replace g1_z := s386_z 1 _ (by decide) rfl g1_z
              replace g2_z := s386_z 2 _ (by decide) rfl g2_z
              replace g4_z := s386_z 4 _ (by decide) rfl g4_z
              replace g6_z := s386_z 6 _ (by decide) rfl g6_z
              replace g7_z := s386_z 7 _ (by decide) rfl g7_z
              clear s386_z s387_z
              replace hm_z := rn_gotoL (am_cur_of (i := (219, 3, .goto (-167), (26, 0, 0), 0)) (by decide +kernel)) hm_z
              have gg : gk g (am_up (am_up (am_up h375_z 149 0 (.int m381_z)) 149 1 (.int (s + 1))) 148 6 (.int m384_z)) := (gk_u rfl (gk_u rfl (gk_u rfl (gk_w kv))))
              obtain ⟨z1_z, z2_z, z3_z⟩ := ih_z k (i + 1) (s + 1) _ _ (gd_b gg T) (((rg_v_other (by omega)).trans ((rg_v_other (by omega)).trans ((rg_v_other (by omega)).trans (el3_z))))) (((rg_v_other (by omega)).trans (rg_v_self))) g0_z g1_z g2_z g4_z g5_z (by omega) (by omega) (by omega) hm_z
              exact ⟨z1_z, by omega, gk_t gg z3_z⟩
            · replace b383_z : ¬ (rg_v h375_z 148 4) = (0 : Int32) ∧ ¬ (rg_v h375_z 148 4).toInt = (0 : Int32).toInt := b383_z
              replace hm_z := rn_aload_n (am_cur_of (i := (153, 1, .aload_n 0, (0, 0, 0), 0)) (by decide +kernel)) g0_z hm_z
              replace hm_z := rn_getR (x := 149) (am_cur_of (i := (154, 3, .getfield 12, (8, 1, 569), 0)) (by decide +kernel)) (by decide +kernel) hm_z
              replace hm_z := rn_aload_n (am_cur_of (i := (157, 1, .aload_n 0, (0, 0, 0), 0)) (by decide +kernel)) g0_z hm_z
              replace hm_z := rn_getR (x := 149) (am_cur_of (i := (158, 3, .getfield 12, (8, 1, 569), 0)) (by decide +kernel)) (by decide +kernel) hm_z
              replace hm_z := rn_getI (v := m381_z) (am_cur_of (i := (161, 3, .getfield 49, (5, 0, 463), 0)) (by decide +kernel)) (by decide +kernel) rg_v_self hm_z
              replace hm_z := rn_aload_n (am_cur_of (i := (164, 1, .aload_n 0, (0, 0, 0), 0)) (by decide +kernel)) g0_z hm_z
              replace hm_z := rn_getM (x := 2) (am_cur_of (i := (165, 3, .getfield 18, (8, 0, 566), 0)) (by decide +kernel)) (show (am_up h375_z 149 0 (.int m381_z)) 148 0 = .ref 2 from T3) hm_z
              replace hm_z := rn_getI (v := rg_v h375_z 2 7) (am_cur_of (i := (168, 3, .getfield 104, (1, 7, 277), 0)) (by decide +kernel)) (by decide +kernel) ((rg_v_other (by omega)).trans (rfl)) hm_z
              replace hm_z := rn_iadd (w := m381_z + (rg_v h375_z 2 7)) (am_cur_of (i := (171, 1, .iadd, (0, 0, 0), 0)) (by decide +kernel)) rfl hm_z
              replace hm_z := rn_aload_n (am_cur_of (i := (172, 1, .aload_n 0, (0, 0, 0), 0)) (by decide +kernel)) g0_z hm_z
              replace hm_z := rn_getM (x := 2) (am_cur_of (i := (173, 3, .getfield 18, (8, 0, 566), 0)) (by decide +kernel)) (show (am_up h375_z 149 0 (.int m381_z)) 148 0 = .ref 2 from T3) hm_z
              replace hm_z := rn_getI (v := rg_v h375_z 2 0) (am_cur_of (i := (176, 3, .getfield 52, (1, 0, 249), 0)) (by decide +kernel)) (by decide +kernel) ((rg_v_other (by omega)).trans (rfl)) hm_z
              obtain ⟨m388_z, e389_z⟩ : ∃ mq : Int32, (if rg_v h375_z 2 0 < m381_z + (rg_v h375_z 2 7) then rg_v h375_z 2 0 else m381_z + (rg_v h375_z 2 7)) = mq := ⟨_, rfl⟩
              replace hm_z := rn_min (w := m388_z) (am_cur_of (i := (179, 3, .invokestatic 107, (0, 975, 2), 0)) (by decide +kernel)) e389_z hm_z
              replace hm_z := rn_put (am_cur_of (i := (182, 3, .putfield 49, (5, 0, 463), 0)) (by decide +kernel)) (by decide +kernel) hm_z
              replace hm_z := rn_aload_n (am_cur_of (i := (185, 1, .aload_n 0, (0, 0, 0), 0)) (by decide +kernel)) g0_z hm_z
              replace hm_z := rn_getR (x := 149) (am_cur_of (i := (186, 3, .getfield 12, (8, 1, 569), 0)) (by decide +kernel)) (by decide +kernel) hm_z
              replace hm_z := rn_dup (am_cur_of (i := (189, 1, .dup, (0, 0, 0), 0)) (by decide +kernel)) hm_z
              replace hm_z := rn_getI (v := s) (am_cur_of (i := (190, 3, .getfield 59, (5, 1, 470), 0)) (by decide +kernel)) (by decide +kernel) ((rg_v_other (by omega)).trans ((rg_v_other (by omega)).trans (es3_z))) hm_z
              replace hm_z := rn_iconst (w := 1) (am_cur_of (i := (193, 1, .iconst 1, (0, 0, 0), 0)) (by decide +kernel)) (by decide) hm_z
              replace hm_z := rn_iadd (w := s + 1) (am_cur_of (i := (194, 1, .iadd, (0, 0, 0), 0)) (by decide +kernel)) rfl hm_z
              replace hm_z := rn_put (am_cur_of (i := (195, 3, .putfield 59, (5, 1, 470), 0)) (by decide +kernel)) (by decide +kernel) hm_z
              replace hm_z := rn_aload_n (am_cur_of (i := (198, 1, .aload_n 0, (0, 0, 0), 0)) (by decide +kernel)) g0_z hm_z
              replace hm_z := rn_aload_n (am_cur_of (i := (199, 1, .aload_n 0, (0, 0, 0), 0)) (by decide +kernel)) g0_z hm_z
              replace hm_z := rn_getI (v := rg_v h375_z 148 6) (am_cur_of (i := (200, 3, .getfield 46, (8, 6, 581), 0)) (by decide +kernel)) (by decide +kernel) ((rg_v_other (by omega)).trans ((rg_v_other (by omega)).trans ((rg_v_other (by omega)).trans (rfl)))) hm_z
              replace hm_z := rn_aload_n (am_cur_of (i := (203, 1, .aload_n 0, (0, 0, 0), 0)) (by decide +kernel)) g0_z hm_z
              replace hm_z := rn_getR (x := 149) (am_cur_of (i := (204, 3, .getfield 12, (8, 1, 569), 0)) (by decide +kernel)) (by decide +kernel) hm_z
              replace hm_z := rn_getI (v := m388_z) (am_cur_of (i := (207, 3, .getfield 49, (5, 0, 463), 0)) (by decide +kernel)) (by decide +kernel) ((rg_v_other (by omega)).trans (rg_v_self)) hm_z
              obtain ⟨m390_z, e391_z⟩ : ∃ mq : Int32, (if m388_z < rg_v h375_z 148 6 then m388_z else rg_v h375_z 148 6) = mq := ⟨_, rfl⟩
              replace hm_z := rn_min (w := m390_z) (am_cur_of (i := (210, 3, .invokestatic 107, (0, 975, 2), 0)) (by decide +kernel)) e391_z hm_z
              replace hm_z := rn_put (am_cur_of (i := (213, 3, .putfield 46, (8, 6, 581), 0)) (by decide +kernel)) (by decide +kernel) hm_z
              replace hm_z := rn_iinc (w := i + 1) (am_cur_of (i := (216, 3, .iinc 5 1, (0, 0, 0), 0)) (by decide +kernel)) g5_z rfl hm_z
              obtain ⟨_, s392_z, s393_z, g5_z, hm_z⟩ := hm_z
              replace g0_z := s392_z 0 _ (by decide) rfl g0_z
              replace g1_z := s392_z 1 _ (by decide) rfl g1_z
              replace g2_z := s392_z 2 _ (by decide) rfl g2_z
              replace g4_z := s392_z 4 _ (by decide) rfl g4_z
              replace g6_z := s392_z 6 _ (by decide) rfl g6_z
              replace g7_z := s392_z 7 _ (by decide) rfl g7_z
              clear s392_z s393_z
              replace hm_z := rn_gotoL (am_cur_of (i := (219, 3, .goto (-167), (26, 0, 0), 0)) (by decide +kernel)) hm_z
              have gg : gk g (am_up (am_up (am_up (am_up h375_z 149 0 (.int m381_z)) 149 0 (.int m388_z)) 149 1 (.int (s + 1))) 148 6 (.int m390_z)) := (gk_u rfl (gk_u rfl (gk_u rfl (gk_u rfl (gk_w kv)))))
              obtain ⟨z1_z, z2_z, z3_z⟩ := ih_z k (i + 1) (s + 1) _ _ (gd_b gg T) (((rg_v_other (by omega)).trans ((rg_v_other (by omega)).trans ((rg_v_other (by omega)).trans ((rg_v_other (by omega)).trans (el3_z)))))) (((rg_v_other (by omega)).trans (rg_v_self))) g0_z g1_z g2_z g4_z g5_z (by omega) (by omega) (by omega) hm_z
              exact ⟨z1_z, by omega, gk_t gg z3_z⟩
      · replace b289_z : (2147483647 : Int32).toInt ≤ s.toInt := b289_z
        omega
theorem gs_75_2 {n : Nat} {r : Option Value} {g g' : am_H} {m o s : Int32} (T : g 148 0 = .ref 2) (el : rg_v g 148 5 = 2147483647) (es_z : rg_v g 149 1 = s) (s0_z : 0 ≤ s.toInt) (m0_z : 0 ≤ m.toInt) (sm : s.toInt + m.toInt < 2147483647) (hm_z : rn n am_m75 0 (lv_args 0 [.ref 148, .int m, .int o]) [] g r g') : r = some (.int 1) ∧ (rg_v g' 149 1).toInt = s.toInt + m.toInt ∧ gk g g' := by
  have z0_z : (0 : Int32).toInt = 0 := by decide
  have g0_z : am_get (lv_args 0 [.ref 148, .int m, .int o]) 0 = some (.ref 148) := rfl
  have g1_z : am_get (lv_args 0 [.ref 148, .int m, .int o]) 1 = some (.int m) := rfl
  have g2_z : am_get (lv_args 0 [.ref 148, .int m, .int o]) 2 = some (.int o) := rfl
  replace hm_z := rn_aload_n (am_cur_of (i := (0, 1, .aload_n 0, (0, 0, 0), 0)) (by decide +kernel)) g0_z hm_z
  replace hm_z := rn_getI (v := rg_v g 148 2) (am_cur_of (i := (1, 3, .getfield 32, (8, 2, 573), 0)) (by decide +kernel)) (by decide +kernel) rfl hm_z
  replace hm_z := rn_if (am_cur_of (i := (4, 3, .ifCond .lt 21, (11, 0, 0), 0)) (by decide +kernel)) hm_z
  rcases hm_z with ⟨b394_z, hm_z⟩ | ⟨b394_z, hm_z⟩
  · replace b394_z : (rg_v g 148 2).toInt < (0 : Int32).toInt := b394_z
    replace hm_z := rn_iconst (w := 0) (am_cur_of (i := (25, 1, .iconst 0, (0, 0, 0), 0)) (by decide +kernel)) (by decide) hm_z
    replace hm_z := rn_istore_n (am_cur_of (i := (26, 1, .istore_n 3, (0, 0, 0), 0)) (by decide +kernel)) hm_z
    obtain ⟨_, s395_z, s396_z, g3_z, hm_z⟩ := hm_z
    replace g0_z := s395_z 0 _ (by decide) rfl g0_z
    replace g1_z := s395_z 1 _ (by decide) rfl g1_z
    replace g2_z := s395_z 2 _ (by decide) rfl g2_z
    clear s395_z s396_z
    replace hm_z := rn_iload_n (am_cur_of (i := (27, 1, .iload_n 3, (0, 0, 0), 0)) (by decide +kernel)) g3_z hm_z
    replace hm_z := rn_ifT (am_cur_of (i := (28, 3, .ifCond .eq 18, (22, 0, 0), 0)) (by decide +kernel)) (by decide) hm_z
    replace hm_z := rn_iconst (w := 0) (am_cur_of (i := (46, 1, .iconst 0, (0, 0, 0), 0)) (by decide +kernel)) (by decide) hm_z
    replace hm_z := rn_istore (am_cur_of (i := (47, 2, .istore 4, (0, 0, 0), 0)) (by decide +kernel)) hm_z
    obtain ⟨_, s397_z, s398_z, g4_z, hm_z⟩ := hm_z
    replace g0_z := s397_z 0 _ (by decide) rfl g0_z
    replace g1_z := s397_z 1 _ (by decide) rfl g1_z
    replace g2_z := s397_z 2 _ (by decide) rfl g2_z
    replace g3_z := s397_z 3 _ (by decide) rfl g3_z
    clear s397_z s398_z
    replace hm_z := rn_iconst (w := 0) (am_cur_of (i := (49, 1, .iconst 0, (0, 0, 0), 0)) (by decide +kernel)) (by decide) hm_z
    replace hm_z := rn_istore (am_cur_of (i := (50, 2, .istore 5, (0, 0, 0), 0)) (by decide +kernel)) hm_z
    obtain ⟨_, s399_z, s400_z, g5_z, hm_z⟩ := hm_z
    replace g0_z := s399_z 0 _ (by decide) rfl g0_z
    replace g1_z := s399_z 1 _ (by decide) rfl g1_z
    replace g2_z := s399_z 2 _ (by decide) rfl g2_z
    replace g3_z := s399_z 3 _ (by decide) rfl g3_z
    replace g4_z := s399_z 4 _ (by decide) rfl g4_z
    clear s399_z s400_z
    obtain ⟨z1_z, z2_z, z3_z⟩ := gs_l2 _ m.toInt.toNat 0 s _ _ T el es_z g0_z g1_z g2_z g4_z g5_z (by rw [show (0 : Int32).toInt = 0 by decide]; omega) s0_z (by omega) hm_z
    exact ⟨z1_z, by omega, z3_z⟩
  · replace b394_z : (0 : Int32).toInt ≤ (rg_v g 148 2).toInt := b394_z
    replace hm_z := rn_aload_n (am_cur_of (i := (7, 1, .aload_n 0, (0, 0, 0), 0)) (by decide +kernel)) g0_z hm_z
    replace hm_z := rn_getR (x := 149) (am_cur_of (i := (8, 3, .getfield 12, (8, 1, 569), 0)) (by decide +kernel)) (by decide +kernel) hm_z
    replace hm_z := rn_aload_n (am_cur_of (i := (11, 1, .aload_n 0, (0, 0, 0), 0)) (by decide +kernel)) g0_z hm_z
    replace hm_z := rn_getI (v := rg_v g 148 2) (am_cur_of (i := (12, 3, .getfield 32, (8, 2, 573), 0)) (by decide +kernel)) (by decide +kernel) rfl hm_z
    replace hm_z := rn_callV (M' := am_m76) (o := 149) (ar := [.int (rg_v g 148 2)]) (rest := []) (L := lv_args 0 [.ref 149, .int (rg_v g 148 2)]) (am_cur_of (i := (15, 3, .invokevirtual 86, (76, 969, 3), 0)) (by decide +kernel)) rfl rfl rfl rfl hm_z
    obtain ⟨r401_z, h402_z, q403_z, hm_z⟩ := hm_z
    obtain ⟨v404_z, rfl⟩ := rn_ret (M := am_m76) rfl (by decide) q403_z
    have k405_z := wq_76 q403_z
    have T2 := wd_b k405_z T
    replace hm_z : rn _ _ _ _ [.int v404_z] _ _ _ := hm_z
    replace hm_z := rn_if (am_cur_of (i := (18, 3, .ifCond .ne 7, (11, 0, 0), 0)) (by decide +kernel)) hm_z
    rcases hm_z with ⟨b406_z, hm_z⟩ | ⟨b406_z, hm_z⟩
    · replace b406_z : ¬ v404_z = (0 : Int32) ∧ ¬ v404_z.toInt = (0 : Int32).toInt := b406_z
      replace hm_z := rn_iconst (w := 0) (am_cur_of (i := (25, 1, .iconst 0, (0, 0, 0), 0)) (by decide +kernel)) (by decide) hm_z
      replace hm_z := rn_istore_n (am_cur_of (i := (26, 1, .istore_n 3, (0, 0, 0), 0)) (by decide +kernel)) hm_z
      obtain ⟨_, s407_z, s408_z, g3_z, hm_z⟩ := hm_z
      replace g0_z := s407_z 0 _ (by decide) rfl g0_z
      replace g1_z := s407_z 1 _ (by decide) rfl g1_z
      replace g2_z := s407_z 2 _ (by decide) rfl g2_z
      clear s407_z s408_z
      replace hm_z := rn_iload_n (am_cur_of (i := (27, 1, .iload_n 3, (0, 0, 0), 0)) (by decide +kernel)) g3_z hm_z
      replace hm_z := rn_ifT (am_cur_of (i := (28, 3, .ifCond .eq 18, (22, 0, 0), 0)) (by decide +kernel)) (by decide) hm_z
      replace hm_z := rn_iconst (w := 0) (am_cur_of (i := (46, 1, .iconst 0, (0, 0, 0), 0)) (by decide +kernel)) (by decide) hm_z
      replace hm_z := rn_istore (am_cur_of (i := (47, 2, .istore 4, (0, 0, 0), 0)) (by decide +kernel)) hm_z
      obtain ⟨_, s409_z, s410_z, g4_z, hm_z⟩ := hm_z
      replace g0_z := s409_z 0 _ (by decide) rfl g0_z
      replace g1_z := s409_z 1 _ (by decide) rfl g1_z
      replace g2_z := s409_z 2 _ (by decide) rfl g2_z
      replace g3_z := s409_z 3 _ (by decide) rfl g3_z
      clear s409_z s410_z
      replace hm_z := rn_iconst (w := 0) (am_cur_of (i := (49, 1, .iconst 0, (0, 0, 0), 0)) (by decide +kernel)) (by decide) hm_z
      replace hm_z := rn_istore (am_cur_of (i := (50, 2, .istore 5, (0, 0, 0), 0)) (by decide +kernel)) hm_z
      obtain ⟨_, s411_z, s412_z, g5_z, hm_z⟩ := hm_z
      replace g0_z := s411_z 0 _ (by decide) rfl g0_z
      replace g1_z := s411_z 1 _ (by decide) rfl g1_z
      replace g2_z := s411_z 2 _ (by decide) rfl g2_z
      replace g3_z := s411_z 3 _ (by decide) rfl g3_z
      replace g4_z := s411_z 4 _ (by decide) rfl g4_z
      clear s411_z s412_z
      obtain ⟨z1_z, z2_z, z3_z⟩ := gs_l2 _ m.toInt.toNat 0 s _ _ T2 (by unfold rg_v at el ⊢; rw [k405_z 148 5 rfl]; exact el) (by unfold rg_v at es_z ⊢; rw [k405_z 149 1 rfl]; exact es_z) g0_z g1_z g2_z g4_z g5_z (by rw [show (0 : Int32).toInt = 0 by decide]; omega) s0_z (by omega) hm_z
      exact ⟨z1_z, by omega, gk_t (gk_w k405_z) z3_z⟩
    · replace b406_z : v404_z = (0 : Int32) ∧ v404_z.toInt = (0 : Int32).toInt := b406_z
      replace hm_z := rn_iconst (w := 1) (am_cur_of (i := (21, 1, .iconst 1, (0, 0, 0), 0)) (by decide +kernel)) (by decide) hm_z
      replace hm_z := rn_goto (am_cur_of (i := (22, 3, .goto 4, (12, 0, 0), 0)) (by decide +kernel)) hm_z
      replace hm_z := rn_istore_n (am_cur_of (i := (26, 1, .istore_n 3, (0, 0, 0), 0)) (by decide +kernel)) hm_z
      obtain ⟨_, s413_z, s414_z, g3_z, hm_z⟩ := hm_z
      replace g0_z := s413_z 0 _ (by decide) rfl g0_z
      replace g1_z := s413_z 1 _ (by decide) rfl g1_z
      replace g2_z := s413_z 2 _ (by decide) rfl g2_z
      clear s413_z s414_z
      replace hm_z := rn_iload_n (am_cur_of (i := (27, 1, .iload_n 3, (0, 0, 0), 0)) (by decide +kernel)) g3_z hm_z
      replace hm_z := rn_ifF (am_cur_of (i := (28, 3, .ifCond .eq 18, (22, 0, 0), 0)) (by decide +kernel)) (by decide) hm_z
      replace hm_z := rn_aload_n (am_cur_of (i := (31, 1, .aload_n 0, (0, 0, 0), 0)) (by decide +kernel)) g0_z hm_z
      replace hm_z := rn_getM (x := 2) (am_cur_of (i := (32, 3, .getfield 18, (8, 0, 566), 0)) (by decide +kernel)) T2 hm_z
      replace hm_z := rn_getR (x := 7) (am_cur_of (i := (35, 3, .getfield 90, (1, 11, 292), 0)) (by decide +kernel)) (by decide +kernel) hm_z
      replace hm_z := rn_aload_n (am_cur_of (i := (38, 1, .aload_n 0, (0, 0, 0), 0)) (by decide +kernel)) g0_z hm_z
      replace hm_z := rn_getI (v := rg_v h402_z 148 2) (am_cur_of (i := (39, 3, .getfield 32, (8, 2, 573), 0)) (by decide +kernel)) (by decide +kernel) rfl hm_z
      replace hm_z := rn_iaload (N := 6) (q := (rg_v h402_z 148 2).toNatClampNeg) (v := rg_v h402_z 7 ((rg_v h402_z 148 2).toNatClampNeg)) (am_cur_of (i := (42, 1, .iaload, (0, 0, 0), 0)) (by decide +kernel)) (by decide +kernel) rfl rfl hm_z
      obtain ⟨p415_z, hm_z⟩ := hm_z
      replace hm_z := rn_goto (am_cur_of (i := (43, 3, .goto 4, (23, 0, 0), 0)) (by decide +kernel)) hm_z
      replace hm_z := rn_istore (am_cur_of (i := (47, 2, .istore 4, (0, 0, 0), 0)) (by decide +kernel)) hm_z
      obtain ⟨_, s416_z, s417_z, g4_z, hm_z⟩ := hm_z
      replace g0_z := s416_z 0 _ (by decide) rfl g0_z
      replace g1_z := s416_z 1 _ (by decide) rfl g1_z
      replace g2_z := s416_z 2 _ (by decide) rfl g2_z
      replace g3_z := s416_z 3 _ (by decide) rfl g3_z
      clear s416_z s417_z
      replace hm_z := rn_iconst (w := 0) (am_cur_of (i := (49, 1, .iconst 0, (0, 0, 0), 0)) (by decide +kernel)) (by decide) hm_z
      replace hm_z := rn_istore (am_cur_of (i := (50, 2, .istore 5, (0, 0, 0), 0)) (by decide +kernel)) hm_z
      obtain ⟨_, s418_z, s419_z, g5_z, hm_z⟩ := hm_z
      replace g0_z := s418_z 0 _ (by decide) rfl g0_z
      replace g1_z := s418_z 1 _ (by decide) rfl g1_z
      replace g2_z := s418_z 2 _ (by decide) rfl g2_z
      replace g3_z := s418_z 3 _ (by decide) rfl g3_z
      replace g4_z := s418_z 4 _ (by decide) rfl g4_z
      clear s418_z s419_z
      obtain ⟨z1_z, z2_z, z3_z⟩ := gs_l2 _ m.toInt.toNat 0 s _ _ T2 (by unfold rg_v at el ⊢; rw [k405_z 148 5 rfl]; exact el) (by unfold rg_v at es_z ⊢; rw [k405_z 149 1 rfl]; exact es_z) g0_z g1_z g2_z g4_z g5_z (by rw [show (0 : Int32).toInt = 0 by decide]; omega) s0_z (by omega) hm_z
      exact ⟨z1_z, by omega, gk_t (gk_w k405_z) z3_z⟩
theorem gs_l23 {r : Option Value} {g' : am_H} {m o more : Int32} : ∀ (f k : Nat) (i s : Int32) (ls : am_L) (g : am_H), g 148 0 = .ref 23 → rg_v g 148 5 = 2147483647 → rg_v g 149 1 = s → am_get ls 0 = some (.ref 148) → am_get ls 1 = some (.int m) → am_get ls 2 = some (.int o) → am_get ls 4 = some (.int more) → am_get ls 5 = some (.int i) → i.toInt + k = m.toInt → 0 ≤ s.toInt → s.toInt + k < 2147483647 → rn f am_m75 26 ls [] g r g' → r = some (.int 1) ∧ (rg_v g' 149 1).toInt = s.toInt + k ∧ gk g g' := by
  intro f
  induction f with
  | zero => intro k i s ls g T el es_z g0_z g1_z g2_z g4_z g5_z ik s0_z sk hm_z; exact absurd hm_z rn_0
  | succ f ih_z =>
    intro k i s ls g T el es_z g0_z g1_z g2_z g4_z g5_z ik s0_z sk hm_z
    have z0_z : (0 : Int32).toInt = 0 := by decide
    have z1_z : (1 : Int32).toInt = 1 := by decide
    have z2147483647_z : (2147483647 : Int32).toInt = 2147483647 := by decide
    replace hm_z := rn_iload (am_cur_of (i := (52, 2, .iload 5, (0, 0, 0), 0)) (by decide +kernel)) g5_z hm_z
    replace hm_z := rn_iload_n (am_cur_of (i := (54, 1, .iload_n 1, (0, 0, 0), 0)) (by decide +kernel)) g1_z hm_z
    replace hm_z := rn_cmp (am_cur_of (i := (55, 3, .if_icmp .ge 167, (108, 0, 0), 0)) (by decide +kernel)) hm_z
    rcases hm_z with ⟨b420_z, hm_z⟩ | ⟨b420_z, hm_z⟩
    · replace b420_z : m.toInt ≤ i.toInt := b420_z
      obtain rfl : k = 0 := by omega
      replace hm_z := rn_iconst (w := 1) (am_cur_of (i := (222, 1, .iconst 1, (0, 0, 0), 0)) (by decide +kernel)) (by decide) hm_z
      replace hm_z := rn_iret (am_cur_of (i := (223, 1, .ireturn, (0, 0, 0), 0)) (by decide +kernel)) hm_z
      obtain ⟨e421_z, e422_z⟩ := hm_z
      rw [e422_z]
      exact ⟨e421_z, by rw [es_z]; omega, gk_r⟩
    · replace b420_z : i.toInt < m.toInt := b420_z
      obtain ⟨k, rfl⟩ : ∃ k2_z, k = k2_z + 1 := ⟨k - 1, by omega⟩
      have ci_z := fk_c1 b420_z
      have cs := ab_iadd (x := s) (y := 1) (by omega) (by omega)
      replace hm_z := rn_aload_n (am_cur_of (i := (58, 1, .aload_n 0, (0, 0, 0), 0)) (by decide +kernel)) g0_z hm_z
      replace hm_z := rn_getR (x := 149) (am_cur_of (i := (59, 3, .getfield 12, (8, 1, 569), 0)) (by decide +kernel)) (by decide +kernel) hm_z
      replace hm_z := rn_getI (v := s) (am_cur_of (i := (62, 3, .getfield 59, (5, 1, 470), 0)) (by decide +kernel)) (by decide +kernel) es_z hm_z
      replace hm_z := rn_aload_n (am_cur_of (i := (65, 1, .aload_n 0, (0, 0, 0), 0)) (by decide +kernel)) g0_z hm_z
      replace hm_z := rn_getI (v := 2147483647) (am_cur_of (i := (66, 3, .getfield 43, (8, 5, 580), 0)) (by decide +kernel)) (by decide +kernel) el hm_z
      replace hm_z := rn_cmp (am_cur_of (i := (69, 3, .if_icmp .lt 5, (37, 0, 0), 0)) (by decide +kernel)) hm_z
      rcases hm_z with ⟨b423_z, hm_z⟩ | ⟨b423_z, hm_z⟩
      · replace b423_z : s.toInt < (2147483647 : Int32).toInt := b423_z
        replace hm_z := rn_aload_n (am_cur_of (i := (74, 1, .aload_n 0, (0, 0, 0), 0)) (by decide +kernel)) g0_z hm_z
        replace hm_z := rn_getR (x := 149) (am_cur_of (i := (75, 3, .getfield 12, (8, 1, 569), 0)) (by decide +kernel)) (by decide +kernel) hm_z
        replace hm_z := rn_getI (v := rg_v g 149 0) (am_cur_of (i := (78, 3, .getfield 49, (5, 0, 463), 0)) (by decide +kernel)) (by decide +kernel) rfl hm_z
        replace hm_z := rn_bipush (w := 100) (am_cur_of (i := (81, 2, .bipush 100, (0, 0, 0), 0)) (by decide +kernel)) (by decide) hm_z
        replace hm_z := rn_idiv (w := (rg_v g 149 0) / 100) (am_cur_of (i := (83, 1, .idiv, (0, 0, 0), 0)) (by decide +kernel)) rfl hm_z
        obtain ⟨d424_z, hm_z⟩ := hm_z
        replace hm_z := rn_iload_n (am_cur_of (i := (84, 1, .iload_n 2, (0, 0, 0), 0)) (by decide +kernel)) g2_z hm_z
        replace hm_z := rn_if (am_cur_of (i := (85, 3, .ifCond .eq 8, (46, 0, 0), 0)) (by decide +kernel)) hm_z
        rcases hm_z with ⟨b425_z, hm_z⟩ | ⟨b425_z, hm_z⟩
        · replace b425_z : o = (0 : Int32) ∧ o.toInt = (0 : Int32).toInt := b425_z
          replace hm_z := rn_iconst (w := 0) (am_cur_of (i := (93, 1, .iconst 0, (0, 0, 0), 0)) (by decide +kernel)) (by decide) hm_z
          replace hm_z := rn_iadd (w := ((rg_v g 149 0) / 100) + 0) (am_cur_of (i := (94, 1, .iadd, (0, 0, 0), 0)) (by decide +kernel)) rfl hm_z
          replace hm_z := rn_istore (am_cur_of (i := (95, 2, .istore 6, (0, 0, 0), 0)) (by decide +kernel)) hm_z
          obtain ⟨_, s426_z, s427_z, g6_z, hm_z⟩ := hm_z
          replace g0_z := s426_z 0 _ (by decide) rfl g0_z
          replace g1_z := s426_z 1 _ (by decide) rfl g1_z
          replace g2_z := s426_z 2 _ (by decide) rfl g2_z
          replace g4_z := s426_z 4 _ (by decide) rfl g4_z
          replace g5_z := s426_z 5 _ (by decide) rfl g5_z
          clear s426_z s427_z
          replace hm_z := rn_aload_n (am_cur_of (i := (97, 1, .aload_n 0, (0, 0, 0), 0)) (by decide +kernel)) g0_z hm_z
          replace hm_z := rn_iconst (w := 0) (am_cur_of (i := (98, 1, .iconst 0, (0, 0, 0), 0)) (by decide +kernel)) (by decide) hm_z
          replace hm_z := rn_iload_n (am_cur_of (i := (99, 1, .iload_n 2, (0, 0, 0), 0)) (by decide +kernel)) g2_z hm_z
          replace hm_z := rn_if (am_cur_of (i := (100, 3, .ifCond .eq 7, (55, 0, 0), 0)) (by decide +kernel)) hm_z
          rcases hm_z with ⟨b428_z, hm_z⟩ | ⟨b428_z, hm_z⟩
          · replace b428_z : o = (0 : Int32) ∧ o.toInt = (0 : Int32).toInt := b428_z
            replace hm_z := rn_iconst (w := 0) (am_cur_of (i := (107, 1, .iconst 0, (0, 0, 0), 0)) (by decide +kernel)) (by decide) hm_z
            replace hm_z := rn_iconst (w := 0) (am_cur_of (i := (108, 1, .iconst 0, (0, 0, 0), 0)) (by decide +kernel)) (by decide) hm_z
            replace hm_z := rn_callV (M' := am_m65) (o := 148) (ar := [.int 0, .int 0, .int 0]) (rest := []) (L := lv_args 0 [.ref 148, .int 0, .int 0, .int 0]) (am_cur_of (i := (109, 3, .invokevirtual 94, (65, 973, 3), 0)) (by decide +kernel)) rfl rfl rfl rfl hm_z
            obtain ⟨r429_z, h430_z, q431_z, hm_z⟩ := hm_z
            obtain ⟨v432_z, rfl⟩ := fk_long (M := am_m65) rfl q431_z
            have kw := wq_65_23 T q431_z
            have T2 := wd_b kw T
            have el2_z : rg_v h430_z 148 5 = 2147483647 := by
              unfold rg_v at el ⊢
              rw [kw 148 5 rfl]
              exact el
            have es2_z : rg_v h430_z 149 1 = s := by
              unfold rg_v at es_z ⊢
              rw [kw 149 1 rfl]
              exact es_z
            replace hm_z : rn _ _ _ _ [.long v432_z] _ _ _ := hm_z
            replace hm_z := rn_sipush (w := 999) (am_cur_of (i := (112, 3, .sipush 999, (0, 0, 0), 0)) (by decide +kernel)) (by decide) hm_z
            replace hm_z := rn_iload (am_cur_of (i := (115, 2, .iload 6, (0, 0, 0), 0)) (by decide +kernel)) g6_z hm_z
            replace hm_z := rn_callS (M' := am_m68) (ar := [.int (((rg_v g 149 0) / 100) + 0), .int 999, .long v432_z]) (rest := []) (L := lv_args 0 [.long v432_z, .int 999, .int (((rg_v g 149 0) / 100) + 0)]) (am_cur_of (i := (117, 3, .invokestatic 80, (68, 935, 3), 0)) (by decide +kernel)) rfl rfl rfl rfl hm_z
            obtain ⟨r433_z, h434_z, q435_z, hm_z⟩ := hm_z
            obtain ⟨v436_z, rfl⟩ := rn_ret (M := am_m68) rfl (by decide) q435_z
            have k437_z := wq_68 q435_z
            have T3 := wd_b k437_z T2
            have el3_z : rg_v h434_z 148 5 = 2147483647 := by
              unfold rg_v at el2_z ⊢
              rw [k437_z 148 5 rfl]
              exact el2_z
            have es3_z : rg_v h434_z 149 1 = s := by
              unfold rg_v at es2_z ⊢
              rw [k437_z 149 1 rfl]
              exact es2_z
            have kv := wk_t kw k437_z
            replace hm_z : rn _ _ _ _ [.int v436_z] _ _ _ := hm_z
            replace hm_z := rn_iload (am_cur_of (i := (120, 2, .iload 4, (0, 0, 0), 0)) (by decide +kernel)) g4_z hm_z
            replace hm_z := rn_iadd (w := v436_z + more) (am_cur_of (i := (122, 1, .iadd, (0, 0, 0), 0)) (by decide +kernel)) rfl hm_z
            replace hm_z := rn_istore (am_cur_of (i := (123, 2, .istore 7, (0, 0, 0), 0)) (by decide +kernel)) hm_z
            obtain ⟨_, s438_z, s439_z, g7_z, hm_z⟩ := hm_z
            replace g0_z := s438_z 0 _ (by decide) rfl g0_z
            replace g1_z := s438_z 1 _ (by decide) rfl g1_z
            replace g2_z := s438_z 2 _ (by decide) rfl g2_z
            replace g4_z := s438_z 4 _ (by decide) rfl g4_z
            replace g5_z := s438_z 5 _ (by decide) rfl g5_z
            replace g6_z := s438_z 6 _ (by decide) rfl g6_z
            clear s438_z s439_z
            replace hm_z := rn_aload_n (am_cur_of (i := (125, 1, .aload_n 0, (0, 0, 0), 0)) (by decide +kernel)) g0_z hm_z
            replace hm_z := rn_getR (x := 149) (am_cur_of (i := (126, 3, .getfield 12, (8, 1, 569), 0)) (by decide +kernel)) (by decide +kernel) hm_z
            replace hm_z := rn_aload_n (am_cur_of (i := (129, 1, .aload_n 0, (0, 0, 0), 0)) (by decide +kernel)) g0_z hm_z
            replace hm_z := rn_getR (x := 149) (am_cur_of (i := (130, 3, .getfield 12, (8, 1, 569), 0)) (by decide +kernel)) (by decide +kernel) hm_z
            replace hm_z := rn_getI (v := rg_v h434_z 149 0) (am_cur_of (i := (133, 3, .getfield 49, (5, 0, 463), 0)) (by decide +kernel)) (by decide +kernel) rfl hm_z
            replace hm_z := rn_iload (am_cur_of (i := (136, 2, .iload 7, (0, 0, 0), 0)) (by decide +kernel)) g7_z hm_z
            replace hm_z := rn_isub (w := (rg_v h434_z 149 0) - (v436_z + more)) (am_cur_of (i := (138, 1, .isub, (0, 0, 0), 0)) (by decide +kernel)) rfl hm_z
            replace hm_z := rn_iconst (w := 0) (am_cur_of (i := (139, 1, .iconst 0, (0, 0, 0), 0)) (by decide +kernel)) (by decide) hm_z
            obtain ⟨m440_z, e441_z⟩ : ∃ mq : Int32, (if (rg_v h434_z 149 0) - (v436_z + more) < 0 then 0 else (rg_v h434_z 149 0) - (v436_z + more)) = mq := ⟨_, rfl⟩
            replace hm_z := rn_max (w := m440_z) (am_cur_of (i := (140, 3, .invokestatic 98, (0, 974, 1), 0)) (by decide +kernel)) e441_z hm_z
            replace hm_z := rn_put (am_cur_of (i := (143, 3, .putfield 49, (5, 0, 463), 0)) (by decide +kernel)) (by decide +kernel) hm_z
            replace hm_z := rn_aload_n (am_cur_of (i := (146, 1, .aload_n 0, (0, 0, 0), 0)) (by decide +kernel)) g0_z hm_z
            replace hm_z := rn_getI (v := rg_v h434_z 148 4) (am_cur_of (i := (147, 3, .getfield 37, (8, 4, 577), 0)) (by decide +kernel)) (by decide +kernel) ((rg_v_other (by omega)).trans (rfl)) hm_z
            replace hm_z := rn_if (am_cur_of (i := (150, 3, .ifCond .eq 35, (91, 0, 0), 0)) (by decide +kernel)) hm_z
            rcases hm_z with ⟨b442_z, hm_z⟩ | ⟨b442_z, hm_z⟩
            · replace b442_z : (rg_v h434_z 148 4) = (0 : Int32) ∧ (rg_v h434_z 148 4).toInt = (0 : Int32).toInt := b442_z
              replace hm_z := rn_aload_n (am_cur_of (i := (185, 1, .aload_n 0, (0, 0, 0), 0)) (by decide +kernel)) g0_z hm_z
              replace hm_z := rn_getR (x := 149) (am_cur_of (i := (186, 3, .getfield 12, (8, 1, 569), 0)) (by decide +kernel)) (by decide +kernel) hm_z
              replace hm_z := rn_dup (am_cur_of (i := (189, 1, .dup, (0, 0, 0), 0)) (by decide +kernel)) hm_z
              replace hm_z := rn_getI (v := s) (am_cur_of (i := (190, 3, .getfield 59, (5, 1, 470), 0)) (by decide +kernel)) (by decide +kernel) ((rg_v_other (by omega)).trans (es3_z)) hm_z
              replace hm_z := rn_iconst (w := 1) (am_cur_of (i := (193, 1, .iconst 1, (0, 0, 0), 0)) (by decide +kernel)) (by decide) hm_z
              replace hm_z := rn_iadd (w := s + 1) (am_cur_of (i := (194, 1, .iadd, (0, 0, 0), 0)) (by decide +kernel)) rfl hm_z
              replace hm_z := rn_put (am_cur_of (i := (195, 3, .putfield 59, (5, 1, 470), 0)) (by decide +kernel)) (by decide +kernel) hm_z
              replace hm_z := rn_aload_n (am_cur_of (i := (198, 1, .aload_n 0, (0, 0, 0), 0)) (by decide +kernel)) g0_z hm_z
              replace hm_z := rn_aload_n (am_cur_of (i := (199, 1, .aload_n 0, (0, 0, 0), 0)) (by decide +kernel)) g0_z hm_z
              replace hm_z := rn_getI (v := rg_v h434_z 148 6) (am_cur_of (i := (200, 3, .getfield 46, (8, 6, 581), 0)) (by decide +kernel)) (by decide +kernel) ((rg_v_other (by omega)).trans ((rg_v_other (by omega)).trans (rfl))) hm_z
              replace hm_z := rn_aload_n (am_cur_of (i := (203, 1, .aload_n 0, (0, 0, 0), 0)) (by decide +kernel)) g0_z hm_z
              replace hm_z := rn_getR (x := 149) (am_cur_of (i := (204, 3, .getfield 12, (8, 1, 569), 0)) (by decide +kernel)) (by decide +kernel) hm_z
              replace hm_z := rn_getI (v := m440_z) (am_cur_of (i := (207, 3, .getfield 49, (5, 0, 463), 0)) (by decide +kernel)) (by decide +kernel) ((rg_v_other (by omega)).trans (rg_v_self)) hm_z
              obtain ⟨m443_z, e444_z⟩ : ∃ mq : Int32, (if m440_z < rg_v h434_z 148 6 then m440_z else rg_v h434_z 148 6) = mq := ⟨_, rfl⟩
              replace hm_z := rn_min (w := m443_z) (am_cur_of (i := (210, 3, .invokestatic 107, (0, 975, 2), 0)) (by decide +kernel)) e444_z hm_z
              replace hm_z := rn_put (am_cur_of (i := (213, 3, .putfield 46, (8, 6, 581), 0)) (by decide +kernel)) (by decide +kernel) hm_z
              replace hm_z := rn_iinc (w := i + 1) (am_cur_of (i := (216, 3, .iinc 5 1, (0, 0, 0), 0)) (by decide +kernel)) g5_z rfl hm_z
              obtain ⟨_, s445_z, s446_z, g5_z, hm_z⟩ := hm_z
              replace g0_z := s445_z 0 _ (by decide) rfl g0_z
              replace g1_z := s445_z 1 _ (by decide) rfl g1_z
              replace g2_z := s445_z 2 _ (by decide) rfl g2_z
              replace g4_z := s445_z 4 _ (by decide) rfl g4_z
              replace g6_z := s445_z 6 _ (by decide) rfl g6_z
              replace g7_z := s445_z 7 _ (by decide) rfl g7_z
              clear s445_z s446_z
              replace hm_z := rn_gotoL (am_cur_of (i := (219, 3, .goto (-167), (26, 0, 0), 0)) (by decide +kernel)) hm_z
              have gg : gk g (am_up (am_up (am_up h434_z 149 0 (.int m440_z)) 149 1 (.int (s + 1))) 148 6 (.int m443_z)) := (gk_u rfl (gk_u rfl (gk_u rfl (gk_w kv))))
              obtain ⟨z1_z, z2_z, z3_z⟩ := ih_z k (i + 1) (s + 1) _ _ (gd_b gg T) (((rg_v_other (by omega)).trans ((rg_v_other (by omega)).trans ((rg_v_other (by omega)).trans (el3_z))))) (((rg_v_other (by omega)).trans (rg_v_self))) g0_z g1_z g2_z g4_z g5_z (by omega) (by omega) (by omega) hm_z
              exact ⟨z1_z, by omega, gk_t gg z3_z⟩
            · replace b442_z : ¬ (rg_v h434_z 148 4) = (0 : Int32) ∧ ¬ (rg_v h434_z 148 4).toInt = (0 : Int32).toInt := b442_z
              replace hm_z := rn_aload_n (am_cur_of (i := (153, 1, .aload_n 0, (0, 0, 0), 0)) (by decide +kernel)) g0_z hm_z
              replace hm_z := rn_getR (x := 149) (am_cur_of (i := (154, 3, .getfield 12, (8, 1, 569), 0)) (by decide +kernel)) (by decide +kernel) hm_z
              replace hm_z := rn_aload_n (am_cur_of (i := (157, 1, .aload_n 0, (0, 0, 0), 0)) (by decide +kernel)) g0_z hm_z
              replace hm_z := rn_getR (x := 149) (am_cur_of (i := (158, 3, .getfield 12, (8, 1, 569), 0)) (by decide +kernel)) (by decide +kernel) hm_z
              replace hm_z := rn_getI (v := m440_z) (am_cur_of (i := (161, 3, .getfield 49, (5, 0, 463), 0)) (by decide +kernel)) (by decide +kernel) rg_v_self hm_z
              replace hm_z := rn_aload_n (am_cur_of (i := (164, 1, .aload_n 0, (0, 0, 0), 0)) (by decide +kernel)) g0_z hm_z
              replace hm_z := rn_getM (x := 23) (am_cur_of (i := (165, 3, .getfield 18, (8, 0, 566), 0)) (by decide +kernel)) (show (am_up h434_z 149 0 (.int m440_z)) 148 0 = .ref 23 from T3) hm_z
              replace hm_z := rn_getI (v := rg_v h434_z 23 7) (am_cur_of (i := (168, 3, .getfield 104, (1, 7, 277), 0)) (by decide +kernel)) (by decide +kernel) ((rg_v_other (by omega)).trans (rfl)) hm_z
              replace hm_z := rn_iadd (w := m440_z + (rg_v h434_z 23 7)) (am_cur_of (i := (171, 1, .iadd, (0, 0, 0), 0)) (by decide +kernel)) rfl hm_z
              replace hm_z := rn_aload_n (am_cur_of (i := (172, 1, .aload_n 0, (0, 0, 0), 0)) (by decide +kernel)) g0_z hm_z
              replace hm_z := rn_getM (x := 23) (am_cur_of (i := (173, 3, .getfield 18, (8, 0, 566), 0)) (by decide +kernel)) (show (am_up h434_z 149 0 (.int m440_z)) 148 0 = .ref 23 from T3) hm_z
              replace hm_z := rn_getI (v := rg_v h434_z 23 0) (am_cur_of (i := (176, 3, .getfield 52, (1, 0, 249), 0)) (by decide +kernel)) (by decide +kernel) ((rg_v_other (by omega)).trans (rfl)) hm_z
              obtain ⟨m447_z, e448_z⟩ : ∃ mq : Int32, (if rg_v h434_z 23 0 < m440_z + (rg_v h434_z 23 7) then rg_v h434_z 23 0 else m440_z + (rg_v h434_z 23 7)) = mq := ⟨_, rfl⟩
              replace hm_z := rn_min (w := m447_z) (am_cur_of (i := (179, 3, .invokestatic 107, (0, 975, 2), 0)) (by decide +kernel)) e448_z hm_z
              replace hm_z := rn_put (am_cur_of (i := (182, 3, .putfield 49, (5, 0, 463), 0)) (by decide +kernel)) (by decide +kernel) hm_z
              replace hm_z := rn_aload_n (am_cur_of (i := (185, 1, .aload_n 0, (0, 0, 0), 0)) (by decide +kernel)) g0_z hm_z
              replace hm_z := rn_getR (x := 149) (am_cur_of (i := (186, 3, .getfield 12, (8, 1, 569), 0)) (by decide +kernel)) (by decide +kernel) hm_z
              replace hm_z := rn_dup (am_cur_of (i := (189, 1, .dup, (0, 0, 0), 0)) (by decide +kernel)) hm_z
              replace hm_z := rn_getI (v := s) (am_cur_of (i := (190, 3, .getfield 59, (5, 1, 470), 0)) (by decide +kernel)) (by decide +kernel) ((rg_v_other (by omega)).trans ((rg_v_other (by omega)).trans (es3_z))) hm_z
              replace hm_z := rn_iconst (w := 1) (am_cur_of (i := (193, 1, .iconst 1, (0, 0, 0), 0)) (by decide +kernel)) (by decide) hm_z
              replace hm_z := rn_iadd (w := s + 1) (am_cur_of (i := (194, 1, .iadd, (0, 0, 0), 0)) (by decide +kernel)) rfl hm_z
              replace hm_z := rn_put (am_cur_of (i := (195, 3, .putfield 59, (5, 1, 470), 0)) (by decide +kernel)) (by decide +kernel) hm_z
              replace hm_z := rn_aload_n (am_cur_of (i := (198, 1, .aload_n 0, (0, 0, 0), 0)) (by decide +kernel)) g0_z hm_z
              replace hm_z := rn_aload_n (am_cur_of (i := (199, 1, .aload_n 0, (0, 0, 0), 0)) (by decide +kernel)) g0_z hm_z
              replace hm_z := rn_getI (v := rg_v h434_z 148 6) (am_cur_of (i := (200, 3, .getfield 46, (8, 6, 581), 0)) (by decide +kernel)) (by decide +kernel) ((rg_v_other (by omega)).trans ((rg_v_other (by omega)).trans ((rg_v_other (by omega)).trans (rfl)))) hm_z
              replace hm_z := rn_aload_n (am_cur_of (i := (203, 1, .aload_n 0, (0, 0, 0), 0)) (by decide +kernel)) g0_z hm_z
              replace hm_z := rn_getR (x := 149) (am_cur_of (i := (204, 3, .getfield 12, (8, 1, 569), 0)) (by decide +kernel)) (by decide +kernel) hm_z
              replace hm_z := rn_getI (v := m447_z) (am_cur_of (i := (207, 3, .getfield 49, (5, 0, 463), 0)) (by decide +kernel)) (by decide +kernel) ((rg_v_other (by omega)).trans (rg_v_self)) hm_z
              obtain ⟨m449_z, e450_z⟩ : ∃ mq : Int32, (if m447_z < rg_v h434_z 148 6 then m447_z else rg_v h434_z 148 6) = mq := ⟨_, rfl⟩
              replace hm_z := rn_min (w := m449_z) (am_cur_of (i := (210, 3, .invokestatic 107, (0, 975, 2), 0)) (by decide +kernel)) e450_z hm_z
              replace hm_z := rn_put (am_cur_of (i := (213, 3, .putfield 46, (8, 6, 581), 0)) (by decide +kernel)) (by decide +kernel) hm_z
              replace hm_z := rn_iinc (w := i + 1) (am_cur_of (i := (216, 3, .iinc 5 1, (0, 0, 0), 0)) (by decide +kernel)) g5_z rfl hm_z
              obtain ⟨_, s451_z, s452_z, g5_z, hm_z⟩ := hm_z
              replace g0_z := s451_z 0 _ (by decide) rfl g0_z
              replace g1_z := s451_z 1 _ (by decide) rfl g1_z
              replace g2_z := s451_z 2 _ (by decide) rfl g2_z
              replace g4_z := s451_z 4 _ (by decide) rfl g4_z
              replace g6_z := s451_z 6 _ (by decide) rfl g6_z
              replace g7_z := s451_z 7 _ (by decide) rfl g7_z
              clear s451_z s452_z
              replace hm_z := rn_gotoL (am_cur_of (i := (219, 3, .goto (-167), (26, 0, 0), 0)) (by decide +kernel)) hm_z
              have gg : gk g (am_up (am_up (am_up (am_up h434_z 149 0 (.int m440_z)) 149 0 (.int m447_z)) 149 1 (.int (s + 1))) 148 6 (.int m449_z)) := (gk_u rfl (gk_u rfl (gk_u rfl (gk_u rfl (gk_w kv)))))
              obtain ⟨z1_z, z2_z, z3_z⟩ := ih_z k (i + 1) (s + 1) _ _ (gd_b gg T) (((rg_v_other (by omega)).trans ((rg_v_other (by omega)).trans ((rg_v_other (by omega)).trans ((rg_v_other (by omega)).trans (el3_z)))))) (((rg_v_other (by omega)).trans (rg_v_self))) g0_z g1_z g2_z g4_z g5_z (by omega) (by omega) (by omega) hm_z
              exact ⟨z1_z, by omega, gk_t gg z3_z⟩
          · replace b428_z : ¬ o = (0 : Int32) ∧ ¬ o.toInt = (0 : Int32).toInt := b428_z
            replace hm_z := rn_iconst (w := 1) (am_cur_of (i := (103, 1, .iconst 1, (0, 0, 0), 0)) (by decide +kernel)) (by decide) hm_z
            replace hm_z := rn_goto (am_cur_of (i := (104, 3, .goto 4, (56, 0, 0), 0)) (by decide +kernel)) hm_z
            replace hm_z := rn_iconst (w := 0) (am_cur_of (i := (108, 1, .iconst 0, (0, 0, 0), 0)) (by decide +kernel)) (by decide) hm_z
            replace hm_z := rn_callV (M' := am_m65) (o := 148) (ar := [.int 0, .int 1, .int 0]) (rest := []) (L := lv_args 0 [.ref 148, .int 0, .int 1, .int 0]) (am_cur_of (i := (109, 3, .invokevirtual 94, (65, 973, 3), 0)) (by decide +kernel)) rfl rfl rfl rfl hm_z
            obtain ⟨r453_z, h454_z, q455_z, hm_z⟩ := hm_z
            obtain ⟨v456_z, rfl⟩ := fk_long (M := am_m65) rfl q455_z
            have kw := wq_65_23 T q455_z
            have T2 := wd_b kw T
            have el2_z : rg_v h454_z 148 5 = 2147483647 := by
              unfold rg_v at el ⊢
              rw [kw 148 5 rfl]
              exact el
            have es2_z : rg_v h454_z 149 1 = s := by
              unfold rg_v at es_z ⊢
              rw [kw 149 1 rfl]
              exact es_z
            replace hm_z : rn _ _ _ _ [.long v456_z] _ _ _ := hm_z
            replace hm_z := rn_sipush (w := 999) (am_cur_of (i := (112, 3, .sipush 999, (0, 0, 0), 0)) (by decide +kernel)) (by decide) hm_z
            replace hm_z := rn_iload (am_cur_of (i := (115, 2, .iload 6, (0, 0, 0), 0)) (by decide +kernel)) g6_z hm_z
            replace hm_z := rn_callS (M' := am_m68) (ar := [.int (((rg_v g 149 0) / 100) + 0), .int 999, .long v456_z]) (rest := []) (L := lv_args 0 [.long v456_z, .int 999, .int (((rg_v g 149 0) / 100) + 0)]) (am_cur_of (i := (117, 3, .invokestatic 80, (68, 935, 3), 0)) (by decide +kernel)) rfl rfl rfl rfl hm_z
            obtain ⟨r457_z, h458_z, q459_z, hm_z⟩ := hm_z
            obtain ⟨v460_z, rfl⟩ := rn_ret (M := am_m68) rfl (by decide) q459_z
            have k461_z := wq_68 q459_z
            have T3 := wd_b k461_z T2
            have el3_z : rg_v h458_z 148 5 = 2147483647 := by
              unfold rg_v at el2_z ⊢
              rw [k461_z 148 5 rfl]
              exact el2_z
            have es3_z : rg_v h458_z 149 1 = s := by
              unfold rg_v at es2_z ⊢
              rw [k461_z 149 1 rfl]
              exact es2_z
            have kv := wk_t kw k461_z
            replace hm_z : rn _ _ _ _ [.int v460_z] _ _ _ := hm_z
            replace hm_z := rn_iload (am_cur_of (i := (120, 2, .iload 4, (0, 0, 0), 0)) (by decide +kernel)) g4_z hm_z
            replace hm_z := rn_iadd (w := v460_z + more) (am_cur_of (i := (122, 1, .iadd, (0, 0, 0), 0)) (by decide +kernel)) rfl hm_z
            replace hm_z := rn_istore (am_cur_of (i := (123, 2, .istore 7, (0, 0, 0), 0)) (by decide +kernel)) hm_z
            obtain ⟨_, s462_z, s463_z, g7_z, hm_z⟩ := hm_z
            replace g0_z := s462_z 0 _ (by decide) rfl g0_z
            replace g1_z := s462_z 1 _ (by decide) rfl g1_z
            replace g2_z := s462_z 2 _ (by decide) rfl g2_z
            replace g4_z := s462_z 4 _ (by decide) rfl g4_z
            replace g5_z := s462_z 5 _ (by decide) rfl g5_z
            replace g6_z := s462_z 6 _ (by decide) rfl g6_z
            clear s462_z s463_z
            replace hm_z := rn_aload_n (am_cur_of (i := (125, 1, .aload_n 0, (0, 0, 0), 0)) (by decide +kernel)) g0_z hm_z
            replace hm_z := rn_getR (x := 149) (am_cur_of (i := (126, 3, .getfield 12, (8, 1, 569), 0)) (by decide +kernel)) (by decide +kernel) hm_z
            replace hm_z := rn_aload_n (am_cur_of (i := (129, 1, .aload_n 0, (0, 0, 0), 0)) (by decide +kernel)) g0_z hm_z
            replace hm_z := rn_getR (x := 149) (am_cur_of (i := (130, 3, .getfield 12, (8, 1, 569), 0)) (by decide +kernel)) (by decide +kernel) hm_z
            replace hm_z := rn_getI (v := rg_v h458_z 149 0) (am_cur_of (i := (133, 3, .getfield 49, (5, 0, 463), 0)) (by decide +kernel)) (by decide +kernel) rfl hm_z
            replace hm_z := rn_iload (am_cur_of (i := (136, 2, .iload 7, (0, 0, 0), 0)) (by decide +kernel)) g7_z hm_z
            replace hm_z := rn_isub (w := (rg_v h458_z 149 0) - (v460_z + more)) (am_cur_of (i := (138, 1, .isub, (0, 0, 0), 0)) (by decide +kernel)) rfl hm_z
            replace hm_z := rn_iconst (w := 0) (am_cur_of (i := (139, 1, .iconst 0, (0, 0, 0), 0)) (by decide +kernel)) (by decide) hm_z
            obtain ⟨m464_z, e465_z⟩ : ∃ mq : Int32, (if (rg_v h458_z 149 0) - (v460_z + more) < 0 then 0 else (rg_v h458_z 149 0) - (v460_z + more)) = mq := ⟨_, rfl⟩
            replace hm_z := rn_max (w := m464_z) (am_cur_of (i := (140, 3, .invokestatic 98, (0, 974, 1), 0)) (by decide +kernel)) e465_z hm_z
            replace hm_z := rn_put (am_cur_of (i := (143, 3, .putfield 49, (5, 0, 463), 0)) (by decide +kernel)) (by decide +kernel) hm_z
            replace hm_z := rn_aload_n (am_cur_of (i := (146, 1, .aload_n 0, (0, 0, 0), 0)) (by decide +kernel)) g0_z hm_z
            replace hm_z := rn_getI (v := rg_v h458_z 148 4) (am_cur_of (i := (147, 3, .getfield 37, (8, 4, 577), 0)) (by decide +kernel)) (by decide +kernel) ((rg_v_other (by omega)).trans (rfl)) hm_z
            replace hm_z := rn_if (am_cur_of (i := (150, 3, .ifCond .eq 35, (91, 0, 0), 0)) (by decide +kernel)) hm_z
            rcases hm_z with ⟨b466_z, hm_z⟩ | ⟨b466_z, hm_z⟩
            · replace b466_z : (rg_v h458_z 148 4) = (0 : Int32) ∧ (rg_v h458_z 148 4).toInt = (0 : Int32).toInt := b466_z
              replace hm_z := rn_aload_n (am_cur_of (i := (185, 1, .aload_n 0, (0, 0, 0), 0)) (by decide +kernel)) g0_z hm_z
              replace hm_z := rn_getR (x := 149) (am_cur_of (i := (186, 3, .getfield 12, (8, 1, 569), 0)) (by decide +kernel)) (by decide +kernel) hm_z
              replace hm_z := rn_dup (am_cur_of (i := (189, 1, .dup, (0, 0, 0), 0)) (by decide +kernel)) hm_z
              replace hm_z := rn_getI (v := s) (am_cur_of (i := (190, 3, .getfield 59, (5, 1, 470), 0)) (by decide +kernel)) (by decide +kernel) ((rg_v_other (by omega)).trans (es3_z)) hm_z
              replace hm_z := rn_iconst (w := 1) (am_cur_of (i := (193, 1, .iconst 1, (0, 0, 0), 0)) (by decide +kernel)) (by decide) hm_z
              replace hm_z := rn_iadd (w := s + 1) (am_cur_of (i := (194, 1, .iadd, (0, 0, 0), 0)) (by decide +kernel)) rfl hm_z
              replace hm_z := rn_put (am_cur_of (i := (195, 3, .putfield 59, (5, 1, 470), 0)) (by decide +kernel)) (by decide +kernel) hm_z
              replace hm_z := rn_aload_n (am_cur_of (i := (198, 1, .aload_n 0, (0, 0, 0), 0)) (by decide +kernel)) g0_z hm_z
              replace hm_z := rn_aload_n (am_cur_of (i := (199, 1, .aload_n 0, (0, 0, 0), 0)) (by decide +kernel)) g0_z hm_z
              replace hm_z := rn_getI (v := rg_v h458_z 148 6) (am_cur_of (i := (200, 3, .getfield 46, (8, 6, 581), 0)) (by decide +kernel)) (by decide +kernel) ((rg_v_other (by omega)).trans ((rg_v_other (by omega)).trans (rfl))) hm_z
              replace hm_z := rn_aload_n (am_cur_of (i := (203, 1, .aload_n 0, (0, 0, 0), 0)) (by decide +kernel)) g0_z hm_z
              replace hm_z := rn_getR (x := 149) (am_cur_of (i := (204, 3, .getfield 12, (8, 1, 569), 0)) (by decide +kernel)) (by decide +kernel) hm_z
              replace hm_z := rn_getI (v := m464_z) (am_cur_of (i := (207, 3, .getfield 49, (5, 0, 463), 0)) (by decide +kernel)) (by decide +kernel) ((rg_v_other (by omega)).trans (rg_v_self)) hm_z
              obtain ⟨m467_z, e468_z⟩ : ∃ mq : Int32, (if m464_z < rg_v h458_z 148 6 then m464_z else rg_v h458_z 148 6) = mq := ⟨_, rfl⟩
              replace hm_z := rn_min (w := m467_z) (am_cur_of (i := (210, 3, .invokestatic 107, (0, 975, 2), 0)) (by decide +kernel)) e468_z hm_z
              replace hm_z := rn_put (am_cur_of (i := (213, 3, .putfield 46, (8, 6, 581), 0)) (by decide +kernel)) (by decide +kernel) hm_z
              replace hm_z := rn_iinc (w := i + 1) (am_cur_of (i := (216, 3, .iinc 5 1, (0, 0, 0), 0)) (by decide +kernel)) g5_z rfl hm_z
              obtain ⟨_, s469_z, s470_z, g5_z, hm_z⟩ := hm_z
              replace g0_z := s469_z 0 _ (by decide) rfl g0_z
              replace g1_z := s469_z 1 _ (by decide) rfl g1_z
              replace g2_z := s469_z 2 _ (by decide) rfl g2_z
              replace g4_z := s469_z 4 _ (by decide) rfl g4_z
              replace g6_z := s469_z 6 _ (by decide) rfl g6_z
              replace g7_z := s469_z 7 _ (by decide) rfl g7_z
              clear s469_z s470_z
              replace hm_z := rn_gotoL (am_cur_of (i := (219, 3, .goto (-167), (26, 0, 0), 0)) (by decide +kernel)) hm_z
              have gg : gk g (am_up (am_up (am_up h458_z 149 0 (.int m464_z)) 149 1 (.int (s + 1))) 148 6 (.int m467_z)) := (gk_u rfl (gk_u rfl (gk_u rfl (gk_w kv))))
              obtain ⟨z1_z, z2_z, z3_z⟩ := ih_z k (i + 1) (s + 1) _ _ (gd_b gg T) (((rg_v_other (by omega)).trans ((rg_v_other (by omega)).trans ((rg_v_other (by omega)).trans (el3_z))))) (((rg_v_other (by omega)).trans (rg_v_self))) g0_z g1_z g2_z g4_z g5_z (by omega) (by omega) (by omega) hm_z
              exact ⟨z1_z, by omega, gk_t gg z3_z⟩
            · replace b466_z : ¬ (rg_v h458_z 148 4) = (0 : Int32) ∧ ¬ (rg_v h458_z 148 4).toInt = (0 : Int32).toInt := b466_z
              replace hm_z := rn_aload_n (am_cur_of (i := (153, 1, .aload_n 0, (0, 0, 0), 0)) (by decide +kernel)) g0_z hm_z
              replace hm_z := rn_getR (x := 149) (am_cur_of (i := (154, 3, .getfield 12, (8, 1, 569), 0)) (by decide +kernel)) (by decide +kernel) hm_z
              replace hm_z := rn_aload_n (am_cur_of (i := (157, 1, .aload_n 0, (0, 0, 0), 0)) (by decide +kernel)) g0_z hm_z
              replace hm_z := rn_getR (x := 149) (am_cur_of (i := (158, 3, .getfield 12, (8, 1, 569), 0)) (by decide +kernel)) (by decide +kernel) hm_z
              replace hm_z := rn_getI (v := m464_z) (am_cur_of (i := (161, 3, .getfield 49, (5, 0, 463), 0)) (by decide +kernel)) (by decide +kernel) rg_v_self hm_z
              replace hm_z := rn_aload_n (am_cur_of (i := (164, 1, .aload_n 0, (0, 0, 0), 0)) (by decide +kernel)) g0_z hm_z
              replace hm_z := rn_getM (x := 23) (am_cur_of (i := (165, 3, .getfield 18, (8, 0, 566), 0)) (by decide +kernel)) (show (am_up h458_z 149 0 (.int m464_z)) 148 0 = .ref 23 from T3) hm_z
              replace hm_z := rn_getI (v := rg_v h458_z 23 7) (am_cur_of (i := (168, 3, .getfield 104, (1, 7, 277), 0)) (by decide +kernel)) (by decide +kernel) ((rg_v_other (by omega)).trans (rfl)) hm_z
              replace hm_z := rn_iadd (w := m464_z + (rg_v h458_z 23 7)) (am_cur_of (i := (171, 1, .iadd, (0, 0, 0), 0)) (by decide +kernel)) rfl hm_z
              replace hm_z := rn_aload_n (am_cur_of (i := (172, 1, .aload_n 0, (0, 0, 0), 0)) (by decide +kernel)) g0_z hm_z
              replace hm_z := rn_getM (x := 23) (am_cur_of (i := (173, 3, .getfield 18, (8, 0, 566), 0)) (by decide +kernel)) (show (am_up h458_z 149 0 (.int m464_z)) 148 0 = .ref 23 from T3) hm_z
              replace hm_z := rn_getI (v := rg_v h458_z 23 0) (am_cur_of (i := (176, 3, .getfield 52, (1, 0, 249), 0)) (by decide +kernel)) (by decide +kernel) ((rg_v_other (by omega)).trans (rfl)) hm_z
              obtain ⟨m471_z, e472_z⟩ : ∃ mq : Int32, (if rg_v h458_z 23 0 < m464_z + (rg_v h458_z 23 7) then rg_v h458_z 23 0 else m464_z + (rg_v h458_z 23 7)) = mq := ⟨_, rfl⟩
              replace hm_z := rn_min (w := m471_z) (am_cur_of (i := (179, 3, .invokestatic 107, (0, 975, 2), 0)) (by decide +kernel)) e472_z hm_z
              replace hm_z := rn_put (am_cur_of (i := (182, 3, .putfield 49, (5, 0, 463), 0)) (by decide +kernel)) (by decide +kernel) hm_z
              replace hm_z := rn_aload_n (am_cur_of (i := (185, 1, .aload_n 0, (0, 0, 0), 0)) (by decide +kernel)) g0_z hm_z
              replace hm_z := rn_getR (x := 149) (am_cur_of (i := (186, 3, .getfield 12, (8, 1, 569), 0)) (by decide +kernel)) (by decide +kernel) hm_z
              replace hm_z := rn_dup (am_cur_of (i := (189, 1, .dup, (0, 0, 0), 0)) (by decide +kernel)) hm_z
              replace hm_z := rn_getI (v := s) (am_cur_of (i := (190, 3, .getfield 59, (5, 1, 470), 0)) (by decide +kernel)) (by decide +kernel) ((rg_v_other (by omega)).trans ((rg_v_other (by omega)).trans (es3_z))) hm_z
              replace hm_z := rn_iconst (w := 1) (am_cur_of (i := (193, 1, .iconst 1, (0, 0, 0), 0)) (by decide +kernel)) (by decide) hm_z
              replace hm_z := rn_iadd (w := s + 1) (am_cur_of (i := (194, 1, .iadd, (0, 0, 0), 0)) (by decide +kernel)) rfl hm_z
              replace hm_z := rn_put (am_cur_of (i := (195, 3, .putfield 59, (5, 1, 470), 0)) (by decide +kernel)) (by decide +kernel) hm_z
              replace hm_z := rn_aload_n (am_cur_of (i := (198, 1, .aload_n 0, (0, 0, 0), 0)) (by decide +kernel)) g0_z hm_z
              replace hm_z := rn_aload_n (am_cur_of (i := (199, 1, .aload_n 0, (0, 0, 0), 0)) (by decide +kernel)) g0_z hm_z
              replace hm_z := rn_getI (v := rg_v h458_z 148 6) (am_cur_of (i := (200, 3, .getfield 46, (8, 6, 581), 0)) (by decide +kernel)) (by decide +kernel) ((rg_v_other (by omega)).trans ((rg_v_other (by omega)).trans ((rg_v_other (by omega)).trans (rfl)))) hm_z
              replace hm_z := rn_aload_n (am_cur_of (i := (203, 1, .aload_n 0, (0, 0, 0), 0)) (by decide +kernel)) g0_z hm_z
              replace hm_z := rn_getR (x := 149) (am_cur_of (i := (204, 3, .getfield 12, (8, 1, 569), 0)) (by decide +kernel)) (by decide +kernel) hm_z
              replace hm_z := rn_getI (v := m471_z) (am_cur_of (i := (207, 3, .getfield 49, (5, 0, 463), 0)) (by decide +kernel)) (by decide +kernel) ((rg_v_other (by omega)).trans (rg_v_self)) hm_z
              obtain ⟨m473_z, e474_z⟩ : ∃ mq : Int32, (if m471_z < rg_v h458_z 148 6 then m471_z else rg_v h458_z 148 6) = mq := ⟨_, rfl⟩
              replace hm_z := rn_min (w := m473_z) (am_cur_of (i := (210, 3, .invokestatic 107, (0, 975, 2), 0)) (by decide +kernel)) e474_z hm_z
              replace hm_z := rn_put (am_cur_of (i := (213, 3, .putfield 46, (8, 6, 581), 0)) (by decide +kernel)) (by decide +kernel) hm_z
              replace hm_z := rn_iinc (w := i + 1) (am_cur_of (i := (216, 3, .iinc 5 1, (0, 0, 0), 0)) (by decide +kernel)) g5_z rfl hm_z
              obtain ⟨_, s475_z, s476_z, g5_z, hm_z⟩ := hm_z
              replace g0_z := s475_z 0 _ (by decide) rfl g0_z
              replace g1_z := s475_z 1 _ (by decide) rfl g1_z
              replace g2_z := s475_z 2 _ (by decide) rfl g2_z
              replace g4_z := s475_z 4 _ (by decide) rfl g4_z
              replace g6_z := s475_z 6 _ (by decide) rfl g6_z
              replace g7_z := s475_z 7 _ (by decide) rfl g7_z
              clear s475_z s476_z
              replace hm_z := rn_gotoL (am_cur_of (i := (219, 3, .goto (-167), (26, 0, 0), 0)) (by decide +kernel)) hm_z
              have gg : gk g (am_up (am_up (am_up (am_up h458_z 149 0 (.int m464_z)) 149 0 (.int m471_z)) 149 1 (.int (s + 1))) 148 6 (.int m473_z)) := (gk_u rfl (gk_u rfl (gk_u rfl (gk_u rfl (gk_w kv)))))
              obtain ⟨z1_z, z2_z, z3_z⟩ := ih_z k (i + 1) (s + 1) _ _ (gd_b gg T) (((rg_v_other (by omega)).trans ((rg_v_other (by omega)).trans ((rg_v_other (by omega)).trans ((rg_v_other (by omega)).trans (el3_z)))))) (((rg_v_other (by omega)).trans (rg_v_self))) g0_z g1_z g2_z g4_z g5_z (by omega) (by omega) (by omega) hm_z
              exact ⟨z1_z, by omega, gk_t gg z3_z⟩
        · replace b425_z : ¬ o = (0 : Int32) ∧ ¬ o.toInt = (0 : Int32).toInt := b425_z
          replace hm_z := rn_bipush (w := 20) (am_cur_of (i := (88, 2, .bipush 20, (0, 0, 0), 0)) (by decide +kernel)) (by decide) hm_z
          replace hm_z := rn_goto (am_cur_of (i := (90, 3, .goto 4, (47, 0, 0), 0)) (by decide +kernel)) hm_z
          replace hm_z := rn_iadd (w := ((rg_v g 149 0) / 100) + 20) (am_cur_of (i := (94, 1, .iadd, (0, 0, 0), 0)) (by decide +kernel)) rfl hm_z
          replace hm_z := rn_istore (am_cur_of (i := (95, 2, .istore 6, (0, 0, 0), 0)) (by decide +kernel)) hm_z
          obtain ⟨_, s477_z, s478_z, g6_z, hm_z⟩ := hm_z
          replace g0_z := s477_z 0 _ (by decide) rfl g0_z
          replace g1_z := s477_z 1 _ (by decide) rfl g1_z
          replace g2_z := s477_z 2 _ (by decide) rfl g2_z
          replace g4_z := s477_z 4 _ (by decide) rfl g4_z
          replace g5_z := s477_z 5 _ (by decide) rfl g5_z
          clear s477_z s478_z
          replace hm_z := rn_aload_n (am_cur_of (i := (97, 1, .aload_n 0, (0, 0, 0), 0)) (by decide +kernel)) g0_z hm_z
          replace hm_z := rn_iconst (w := 0) (am_cur_of (i := (98, 1, .iconst 0, (0, 0, 0), 0)) (by decide +kernel)) (by decide) hm_z
          replace hm_z := rn_iload_n (am_cur_of (i := (99, 1, .iload_n 2, (0, 0, 0), 0)) (by decide +kernel)) g2_z hm_z
          replace hm_z := rn_if (am_cur_of (i := (100, 3, .ifCond .eq 7, (55, 0, 0), 0)) (by decide +kernel)) hm_z
          rcases hm_z with ⟨b479_z, hm_z⟩ | ⟨b479_z, hm_z⟩
          · replace b479_z : o = (0 : Int32) ∧ o.toInt = (0 : Int32).toInt := b479_z
            replace hm_z := rn_iconst (w := 0) (am_cur_of (i := (107, 1, .iconst 0, (0, 0, 0), 0)) (by decide +kernel)) (by decide) hm_z
            replace hm_z := rn_iconst (w := 0) (am_cur_of (i := (108, 1, .iconst 0, (0, 0, 0), 0)) (by decide +kernel)) (by decide) hm_z
            replace hm_z := rn_callV (M' := am_m65) (o := 148) (ar := [.int 0, .int 0, .int 0]) (rest := []) (L := lv_args 0 [.ref 148, .int 0, .int 0, .int 0]) (am_cur_of (i := (109, 3, .invokevirtual 94, (65, 973, 3), 0)) (by decide +kernel)) rfl rfl rfl rfl hm_z
            obtain ⟨r480_z, h481_z, q482_z, hm_z⟩ := hm_z
            obtain ⟨v483_z, rfl⟩ := fk_long (M := am_m65) rfl q482_z
            have kw := wq_65_23 T q482_z
            have T2 := wd_b kw T
            have el2_z : rg_v h481_z 148 5 = 2147483647 := by
              unfold rg_v at el ⊢
              rw [kw 148 5 rfl]
              exact el
            have es2_z : rg_v h481_z 149 1 = s := by
              unfold rg_v at es_z ⊢
              rw [kw 149 1 rfl]
              exact es_z
            replace hm_z : rn _ _ _ _ [.long v483_z] _ _ _ := hm_z
            replace hm_z := rn_sipush (w := 999) (am_cur_of (i := (112, 3, .sipush 999, (0, 0, 0), 0)) (by decide +kernel)) (by decide) hm_z
            replace hm_z := rn_iload (am_cur_of (i := (115, 2, .iload 6, (0, 0, 0), 0)) (by decide +kernel)) g6_z hm_z
            replace hm_z := rn_callS (M' := am_m68) (ar := [.int (((rg_v g 149 0) / 100) + 20), .int 999, .long v483_z]) (rest := []) (L := lv_args 0 [.long v483_z, .int 999, .int (((rg_v g 149 0) / 100) + 20)]) (am_cur_of (i := (117, 3, .invokestatic 80, (68, 935, 3), 0)) (by decide +kernel)) rfl rfl rfl rfl hm_z
            obtain ⟨r484_z, h485_z, q486_z, hm_z⟩ := hm_z
            obtain ⟨v487_z, rfl⟩ := rn_ret (M := am_m68) rfl (by decide) q486_z
            have k488_z := wq_68 q486_z
            have T3 := wd_b k488_z T2
            have el3_z : rg_v h485_z 148 5 = 2147483647 := by
              unfold rg_v at el2_z ⊢
              rw [k488_z 148 5 rfl]
              exact el2_z
            have es3_z : rg_v h485_z 149 1 = s := by
              unfold rg_v at es2_z ⊢
              rw [k488_z 149 1 rfl]
              exact es2_z
            have kv := wk_t kw k488_z
            replace hm_z : rn _ _ _ _ [.int v487_z] _ _ _ := hm_z
            replace hm_z := rn_iload (am_cur_of (i := (120, 2, .iload 4, (0, 0, 0), 0)) (by decide +kernel)) g4_z hm_z
            replace hm_z := rn_iadd (w := v487_z + more) (am_cur_of (i := (122, 1, .iadd, (0, 0, 0), 0)) (by decide +kernel)) rfl hm_z
            replace hm_z := rn_istore (am_cur_of (i := (123, 2, .istore 7, (0, 0, 0), 0)) (by decide +kernel)) hm_z
            obtain ⟨_, s489_z, s490_z, g7_z, hm_z⟩ := hm_z
            replace g0_z := s489_z 0 _ (by decide) rfl g0_z
            replace g1_z := s489_z 1 _ (by decide) rfl g1_z
            replace g2_z := s489_z 2 _ (by decide) rfl g2_z
            replace g4_z := s489_z 4 _ (by decide) rfl g4_z
            replace g5_z := s489_z 5 _ (by decide) rfl g5_z
            replace g6_z := s489_z 6 _ (by decide) rfl g6_z
            clear s489_z s490_z
            replace hm_z := rn_aload_n (am_cur_of (i := (125, 1, .aload_n 0, (0, 0, 0), 0)) (by decide +kernel)) g0_z hm_z
            replace hm_z := rn_getR (x := 149) (am_cur_of (i := (126, 3, .getfield 12, (8, 1, 569), 0)) (by decide +kernel)) (by decide +kernel) hm_z
            replace hm_z := rn_aload_n (am_cur_of (i := (129, 1, .aload_n 0, (0, 0, 0), 0)) (by decide +kernel)) g0_z hm_z
            replace hm_z := rn_getR (x := 149) (am_cur_of (i := (130, 3, .getfield 12, (8, 1, 569), 0)) (by decide +kernel)) (by decide +kernel) hm_z
            replace hm_z := rn_getI (v := rg_v h485_z 149 0) (am_cur_of (i := (133, 3, .getfield 49, (5, 0, 463), 0)) (by decide +kernel)) (by decide +kernel) rfl hm_z
            replace hm_z := rn_iload (am_cur_of (i := (136, 2, .iload 7, (0, 0, 0), 0)) (by decide +kernel)) g7_z hm_z
            replace hm_z := rn_isub (w := (rg_v h485_z 149 0) - (v487_z + more)) (am_cur_of (i := (138, 1, .isub, (0, 0, 0), 0)) (by decide +kernel)) rfl hm_z
            replace hm_z := rn_iconst (w := 0) (am_cur_of (i := (139, 1, .iconst 0, (0, 0, 0), 0)) (by decide +kernel)) (by decide) hm_z
            obtain ⟨m491_z, e492_z⟩ : ∃ mq : Int32, (if (rg_v h485_z 149 0) - (v487_z + more) < 0 then 0 else (rg_v h485_z 149 0) - (v487_z + more)) = mq := ⟨_, rfl⟩
            replace hm_z := rn_max (w := m491_z) (am_cur_of (i := (140, 3, .invokestatic 98, (0, 974, 1), 0)) (by decide +kernel)) e492_z hm_z
            replace hm_z := rn_put (am_cur_of (i := (143, 3, .putfield 49, (5, 0, 463), 0)) (by decide +kernel)) (by decide +kernel) hm_z
            replace hm_z := rn_aload_n (am_cur_of (i := (146, 1, .aload_n 0, (0, 0, 0), 0)) (by decide +kernel)) g0_z hm_z
            replace hm_z := rn_getI (v := rg_v h485_z 148 4) (am_cur_of (i := (147, 3, .getfield 37, (8, 4, 577), 0)) (by decide +kernel)) (by decide +kernel) ((rg_v_other (by omega)).trans (rfl)) hm_z
            replace hm_z := rn_if (am_cur_of (i := (150, 3, .ifCond .eq 35, (91, 0, 0), 0)) (by decide +kernel)) hm_z
            rcases hm_z with ⟨b493_z, hm_z⟩ | ⟨b493_z, hm_z⟩
            · replace b493_z : (rg_v h485_z 148 4) = (0 : Int32) ∧ (rg_v h485_z 148 4).toInt = (0 : Int32).toInt := b493_z
              replace hm_z := rn_aload_n (am_cur_of (i := (185, 1, .aload_n 0, (0, 0, 0), 0)) (by decide +kernel)) g0_z hm_z
              replace hm_z := rn_getR (x := 149) (am_cur_of (i := (186, 3, .getfield 12, (8, 1, 569), 0)) (by decide +kernel)) (by decide +kernel) hm_z
              replace hm_z := rn_dup (am_cur_of (i := (189, 1, .dup, (0, 0, 0), 0)) (by decide +kernel)) hm_z
              replace hm_z := rn_getI (v := s) (am_cur_of (i := (190, 3, .getfield 59, (5, 1, 470), 0)) (by decide +kernel)) (by decide +kernel) ((rg_v_other (by omega)).trans (es3_z)) hm_z
              replace hm_z := rn_iconst (w := 1) (am_cur_of (i := (193, 1, .iconst 1, (0, 0, 0), 0)) (by decide +kernel)) (by decide) hm_z
              replace hm_z := rn_iadd (w := s + 1) (am_cur_of (i := (194, 1, .iadd, (0, 0, 0), 0)) (by decide +kernel)) rfl hm_z
              replace hm_z := rn_put (am_cur_of (i := (195, 3, .putfield 59, (5, 1, 470), 0)) (by decide +kernel)) (by decide +kernel) hm_z
              replace hm_z := rn_aload_n (am_cur_of (i := (198, 1, .aload_n 0, (0, 0, 0), 0)) (by decide +kernel)) g0_z hm_z
              replace hm_z := rn_aload_n (am_cur_of (i := (199, 1, .aload_n 0, (0, 0, 0), 0)) (by decide +kernel)) g0_z hm_z
              replace hm_z := rn_getI (v := rg_v h485_z 148 6) (am_cur_of (i := (200, 3, .getfield 46, (8, 6, 581), 0)) (by decide +kernel)) (by decide +kernel) ((rg_v_other (by omega)).trans ((rg_v_other (by omega)).trans (rfl))) hm_z
              replace hm_z := rn_aload_n (am_cur_of (i := (203, 1, .aload_n 0, (0, 0, 0), 0)) (by decide +kernel)) g0_z hm_z
              replace hm_z := rn_getR (x := 149) (am_cur_of (i := (204, 3, .getfield 12, (8, 1, 569), 0)) (by decide +kernel)) (by decide +kernel) hm_z
              replace hm_z := rn_getI (v := m491_z) (am_cur_of (i := (207, 3, .getfield 49, (5, 0, 463), 0)) (by decide +kernel)) (by decide +kernel) ((rg_v_other (by omega)).trans (rg_v_self)) hm_z
              obtain ⟨m494_z, e495_z⟩ : ∃ mq : Int32, (if m491_z < rg_v h485_z 148 6 then m491_z else rg_v h485_z 148 6) = mq := ⟨_, rfl⟩
              replace hm_z := rn_min (w := m494_z) (am_cur_of (i := (210, 3, .invokestatic 107, (0, 975, 2), 0)) (by decide +kernel)) e495_z hm_z
              replace hm_z := rn_put (am_cur_of (i := (213, 3, .putfield 46, (8, 6, 581), 0)) (by decide +kernel)) (by decide +kernel) hm_z
              replace hm_z := rn_iinc (w := i + 1) (am_cur_of (i := (216, 3, .iinc 5 1, (0, 0, 0), 0)) (by decide +kernel)) g5_z rfl hm_z
              obtain ⟨_, s496_z, s497_z, g5_z, hm_z⟩ := hm_z
              replace g0_z := s496_z 0 _ (by decide) rfl g0_z
              replace g1_z := s496_z 1 _ (by decide) rfl g1_z
              replace g2_z := s496_z 2 _ (by decide) rfl g2_z
              replace g4_z := s496_z 4 _ (by decide) rfl g4_z
              replace g6_z := s496_z 6 _ (by decide) rfl g6_z
              replace g7_z := s496_z 7 _ (by decide) rfl g7_z
              clear s496_z s497_z
              replace hm_z := rn_gotoL (am_cur_of (i := (219, 3, .goto (-167), (26, 0, 0), 0)) (by decide +kernel)) hm_z
              have gg : gk g (am_up (am_up (am_up h485_z 149 0 (.int m491_z)) 149 1 (.int (s + 1))) 148 6 (.int m494_z)) := (gk_u rfl (gk_u rfl (gk_u rfl (gk_w kv))))
              obtain ⟨z1_z, z2_z, z3_z⟩ := ih_z k (i + 1) (s + 1) _ _ (gd_b gg T) (((rg_v_other (by omega)).trans ((rg_v_other (by omega)).trans ((rg_v_other (by omega)).trans (el3_z))))) (((rg_v_other (by omega)).trans (rg_v_self))) g0_z g1_z g2_z g4_z g5_z (by omega) (by omega) (by omega) hm_z
              exact ⟨z1_z, by omega, gk_t gg z3_z⟩
            · replace b493_z : ¬ (rg_v h485_z 148 4) = (0 : Int32) ∧ ¬ (rg_v h485_z 148 4).toInt = (0 : Int32).toInt := b493_z
              replace hm_z := rn_aload_n (am_cur_of (i := (153, 1, .aload_n 0, (0, 0, 0), 0)) (by decide +kernel)) g0_z hm_z
              replace hm_z := rn_getR (x := 149) (am_cur_of (i := (154, 3, .getfield 12, (8, 1, 569), 0)) (by decide +kernel)) (by decide +kernel) hm_z
              replace hm_z := rn_aload_n (am_cur_of (i := (157, 1, .aload_n 0, (0, 0, 0), 0)) (by decide +kernel)) g0_z hm_z
              replace hm_z := rn_getR (x := 149) (am_cur_of (i := (158, 3, .getfield 12, (8, 1, 569), 0)) (by decide +kernel)) (by decide +kernel) hm_z
              replace hm_z := rn_getI (v := m491_z) (am_cur_of (i := (161, 3, .getfield 49, (5, 0, 463), 0)) (by decide +kernel)) (by decide +kernel) rg_v_self hm_z
              replace hm_z := rn_aload_n (am_cur_of (i := (164, 1, .aload_n 0, (0, 0, 0), 0)) (by decide +kernel)) g0_z hm_z
              replace hm_z := rn_getM (x := 23) (am_cur_of (i := (165, 3, .getfield 18, (8, 0, 566), 0)) (by decide +kernel)) (show (am_up h485_z 149 0 (.int m491_z)) 148 0 = .ref 23 from T3) hm_z
              replace hm_z := rn_getI (v := rg_v h485_z 23 7) (am_cur_of (i := (168, 3, .getfield 104, (1, 7, 277), 0)) (by decide +kernel)) (by decide +kernel) ((rg_v_other (by omega)).trans (rfl)) hm_z
              replace hm_z := rn_iadd (w := m491_z + (rg_v h485_z 23 7)) (am_cur_of (i := (171, 1, .iadd, (0, 0, 0), 0)) (by decide +kernel)) rfl hm_z
              replace hm_z := rn_aload_n (am_cur_of (i := (172, 1, .aload_n 0, (0, 0, 0), 0)) (by decide +kernel)) g0_z hm_z
              replace hm_z := rn_getM (x := 23) (am_cur_of (i := (173, 3, .getfield 18, (8, 0, 566), 0)) (by decide +kernel)) (show (am_up h485_z 149 0 (.int m491_z)) 148 0 = .ref 23 from T3) hm_z
              replace hm_z := rn_getI (v := rg_v h485_z 23 0) (am_cur_of (i := (176, 3, .getfield 52, (1, 0, 249), 0)) (by decide +kernel)) (by decide +kernel) ((rg_v_other (by omega)).trans (rfl)) hm_z
              obtain ⟨m498_z, e499_z⟩ : ∃ mq : Int32, (if rg_v h485_z 23 0 < m491_z + (rg_v h485_z 23 7) then rg_v h485_z 23 0 else m491_z + (rg_v h485_z 23 7)) = mq := ⟨_, rfl⟩
              replace hm_z := rn_min (w := m498_z) (am_cur_of (i := (179, 3, .invokestatic 107, (0, 975, 2), 0)) (by decide +kernel)) e499_z hm_z
              replace hm_z := rn_put (am_cur_of (i := (182, 3, .putfield 49, (5, 0, 463), 0)) (by decide +kernel)) (by decide +kernel) hm_z
              replace hm_z := rn_aload_n (am_cur_of (i := (185, 1, .aload_n 0, (0, 0, 0), 0)) (by decide +kernel)) g0_z hm_z
              replace hm_z := rn_getR (x := 149) (am_cur_of (i := (186, 3, .getfield 12, (8, 1, 569), 0)) (by decide +kernel)) (by decide +kernel) hm_z
              replace hm_z := rn_dup (am_cur_of (i := (189, 1, .dup, (0, 0, 0), 0)) (by decide +kernel)) hm_z
              replace hm_z := rn_getI (v := s) (am_cur_of (i := (190, 3, .getfield 59, (5, 1, 470), 0)) (by decide +kernel)) (by decide +kernel) ((rg_v_other (by omega)).trans ((rg_v_other (by omega)).trans (es3_z))) hm_z
              replace hm_z := rn_iconst (w := 1) (am_cur_of (i := (193, 1, .iconst 1, (0, 0, 0), 0)) (by decide +kernel)) (by decide) hm_z
              replace hm_z := rn_iadd (w := s + 1) (am_cur_of (i := (194, 1, .iadd, (0, 0, 0), 0)) (by decide +kernel)) rfl hm_z
              replace hm_z := rn_put (am_cur_of (i := (195, 3, .putfield 59, (5, 1, 470), 0)) (by decide +kernel)) (by decide +kernel) hm_z
              replace hm_z := rn_aload_n (am_cur_of (i := (198, 1, .aload_n 0, (0, 0, 0), 0)) (by decide +kernel)) g0_z hm_z
              replace hm_z := rn_aload_n (am_cur_of (i := (199, 1, .aload_n 0, (0, 0, 0), 0)) (by decide +kernel)) g0_z hm_z
              replace hm_z := rn_getI (v := rg_v h485_z 148 6) (am_cur_of (i := (200, 3, .getfield 46, (8, 6, 581), 0)) (by decide +kernel)) (by decide +kernel) ((rg_v_other (by omega)).trans ((rg_v_other (by omega)).trans ((rg_v_other (by omega)).trans (rfl)))) hm_z
              replace hm_z := rn_aload_n (am_cur_of (i := (203, 1, .aload_n 0, (0, 0, 0), 0)) (by decide +kernel)) g0_z hm_z
              replace hm_z := rn_getR (x := 149) (am_cur_of (i := (204, 3, .getfield 12, (8, 1, 569), 0)) (by decide +kernel)) (by decide +kernel) hm_z
              replace hm_z := rn_getI (v := m498_z) (am_cur_of (i := (207, 3, .getfield 49, (5, 0, 463), 0)) (by decide +kernel)) (by decide +kernel) ((rg_v_other (by omega)).trans (rg_v_self)) hm_z
              obtain ⟨m500_z, e501_z⟩ : ∃ mq : Int32, (if m498_z < rg_v h485_z 148 6 then m498_z else rg_v h485_z 148 6) = mq := ⟨_, rfl⟩
              replace hm_z := rn_min (w := m500_z) (am_cur_of (i := (210, 3, .invokestatic 107, (0, 975, 2), 0)) (by decide +kernel)) e501_z hm_z
              replace hm_z := rn_put (am_cur_of (i := (213, 3, .putfield 46, (8, 6, 581), 0)) (by decide +kernel)) (by decide +kernel) hm_z
              replace hm_z := rn_iinc (w := i + 1) (am_cur_of (i := (216, 3, .iinc 5 1, (0, 0, 0), 0)) (by decide +kernel)) g5_z rfl hm_z
              obtain ⟨_, s502_z, s503_z, g5_z, hm_z⟩ := hm_z
              replace g0_z := s502_z 0 _ (by decide) rfl g0_z
              replace g1_z := s502_z 1 _ (by decide) rfl g1_z
              replace g2_z := s502_z 2 _ (by decide) rfl g2_z
              replace g4_z := s502_z 4 _ (by decide) rfl g4_z
              replace g6_z := s502_z 6 _ (by decide) rfl g6_z
              replace g7_z := s502_z 7 _ (by decide) rfl g7_z
              clear s502_z s503_z
              replace hm_z := rn_gotoL (am_cur_of (i := (219, 3, .goto (-167), (26, 0, 0), 0)) (by decide +kernel)) hm_z
              have gg : gk g (am_up (am_up (am_up (am_up h485_z 149 0 (.int m491_z)) 149 0 (.int m498_z)) 149 1 (.int (s + 1))) 148 6 (.int m500_z)) := (gk_u rfl (gk_u rfl (gk_u rfl (gk_u rfl (gk_w kv)))))
              obtain ⟨z1_z, z2_z, z3_z⟩ := ih_z k (i + 1) (s + 1) _ _ (gd_b gg T) (((rg_v_other (by omega)).trans ((rg_v_other (by omega)).trans ((rg_v_other (by omega)).trans ((rg_v_other (by omega)).trans (el3_z)))))) (((rg_v_other (by omega)).trans (rg_v_self))) g0_z g1_z g2_z g4_z g5_z (by omega) (by omega) (by omega) hm_z
              exact ⟨z1_z, by omega, gk_t gg z3_z⟩
          · replace b479_z : ¬ o = (0 : Int32) ∧ ¬ o.toInt = (0 : Int32).toInt := b479_z
            replace hm_z := rn_iconst (w := 1) (am_cur_of (i := (103, 1, .iconst 1, (0, 0, 0), 0)) (by decide +kernel)) (by decide) hm_z
            replace hm_z := rn_goto (am_cur_of (i := (104, 3, .goto 4, (56, 0, 0), 0)) (by decide +kernel)) hm_z
            replace hm_z := rn_iconst (w := 0) (am_cur_of (i := (108, 1, .iconst 0, (0, 0, 0), 0)) (by decide +kernel)) (by decide) hm_z
            replace hm_z := rn_callV (M' := am_m65) (o := 148) (ar := [.int 0, .int 1, .int 0]) (rest := []) (L := lv_args 0 [.ref 148, .int 0, .int 1, .int 0]) (am_cur_of (i := (109, 3, .invokevirtual 94, (65, 973, 3), 0)) (by decide +kernel)) rfl rfl rfl rfl hm_z
            obtain ⟨r504_z, h505_z, q506_z, hm_z⟩ := hm_z
            obtain ⟨v507_z, rfl⟩ := fk_long (M := am_m65) rfl q506_z
            have kw := wq_65_23 T q506_z
            have T2 := wd_b kw T
            have el2_z : rg_v h505_z 148 5 = 2147483647 := by
              unfold rg_v at el ⊢
              rw [kw 148 5 rfl]
              exact el
            have es2_z : rg_v h505_z 149 1 = s := by
              unfold rg_v at es_z ⊢
              rw [kw 149 1 rfl]
              exact es_z
            replace hm_z : rn _ _ _ _ [.long v507_z] _ _ _ := hm_z
            replace hm_z := rn_sipush (w := 999) (am_cur_of (i := (112, 3, .sipush 999, (0, 0, 0), 0)) (by decide +kernel)) (by decide) hm_z
            replace hm_z := rn_iload (am_cur_of (i := (115, 2, .iload 6, (0, 0, 0), 0)) (by decide +kernel)) g6_z hm_z
            replace hm_z := rn_callS (M' := am_m68) (ar := [.int (((rg_v g 149 0) / 100) + 20), .int 999, .long v507_z]) (rest := []) (L := lv_args 0 [.long v507_z, .int 999, .int (((rg_v g 149 0) / 100) + 20)]) (am_cur_of (i := (117, 3, .invokestatic 80, (68, 935, 3), 0)) (by decide +kernel)) rfl rfl rfl rfl hm_z
            obtain ⟨r508_z, h509_z, q510_z, hm_z⟩ := hm_z
            obtain ⟨v511_z, rfl⟩ := rn_ret (M := am_m68) rfl (by decide) q510_z
            have k512_z := wq_68 q510_z
            have T3 := wd_b k512_z T2
            have el3_z : rg_v h509_z 148 5 = 2147483647 := by
              unfold rg_v at el2_z ⊢
              rw [k512_z 148 5 rfl]
              exact el2_z
            have es3_z : rg_v h509_z 149 1 = s := by
              unfold rg_v at es2_z ⊢
              rw [k512_z 149 1 rfl]
              exact es2_z
            have kv := wk_t kw k512_z
            replace hm_z : rn _ _ _ _ [.int v511_z] _ _ _ := hm_z
            replace hm_z := rn_iload (am_cur_of (i := (120, 2, .iload 4, (0, 0, 0), 0)) (by decide +kernel)) g4_z hm_z
            replace hm_z := rn_iadd (w := v511_z + more) (am_cur_of (i := (122, 1, .iadd, (0, 0, 0), 0)) (by decide +kernel)) rfl hm_z
            replace hm_z := rn_istore (am_cur_of (i := (123, 2, .istore 7, (0, 0, 0), 0)) (by decide +kernel)) hm_z
            obtain ⟨_, s513_z, s514_z, g7_z, hm_z⟩ := hm_z
            replace g0_z := s513_z 0 _ (by decide) rfl g0_z
            replace g1_z := s513_z 1 _ (by decide) rfl g1_z
            replace g2_z := s513_z 2 _ (by decide) rfl g2_z
            replace g4_z := s513_z 4 _ (by decide) rfl g4_z
            replace g5_z := s513_z 5 _ (by decide) rfl g5_z
            replace g6_z := s513_z 6 _ (by decide) rfl g6_z
            clear s513_z s514_z
            replace hm_z := rn_aload_n (am_cur_of (i := (125, 1, .aload_n 0, (0, 0, 0), 0)) (by decide +kernel)) g0_z hm_z
            replace hm_z := rn_getR (x := 149) (am_cur_of (i := (126, 3, .getfield 12, (8, 1, 569), 0)) (by decide +kernel)) (by decide +kernel) hm_z
            replace hm_z := rn_aload_n (am_cur_of (i := (129, 1, .aload_n 0, (0, 0, 0), 0)) (by decide +kernel)) g0_z hm_z
            replace hm_z := rn_getR (x := 149) (am_cur_of (i := (130, 3, .getfield 12, (8, 1, 569), 0)) (by decide +kernel)) (by decide +kernel) hm_z
            replace hm_z := rn_getI (v := rg_v h509_z 149 0) (am_cur_of (i := (133, 3, .getfield 49, (5, 0, 463), 0)) (by decide +kernel)) (by decide +kernel) rfl hm_z
            replace hm_z := rn_iload (am_cur_of (i := (136, 2, .iload 7, (0, 0, 0), 0)) (by decide +kernel)) g7_z hm_z
            replace hm_z := rn_isub (w := (rg_v h509_z 149 0) - (v511_z + more)) (am_cur_of (i := (138, 1, .isub, (0, 0, 0), 0)) (by decide +kernel)) rfl hm_z
            replace hm_z := rn_iconst (w := 0) (am_cur_of (i := (139, 1, .iconst 0, (0, 0, 0), 0)) (by decide +kernel)) (by decide) hm_z
            obtain ⟨m515_z, e516_z⟩ : ∃ mq : Int32, (if (rg_v h509_z 149 0) - (v511_z + more) < 0 then 0 else (rg_v h509_z 149 0) - (v511_z + more)) = mq := ⟨_, rfl⟩
            replace hm_z := rn_max (w := m515_z) (am_cur_of (i := (140, 3, .invokestatic 98, (0, 974, 1), 0)) (by decide +kernel)) e516_z hm_z
            replace hm_z := rn_put (am_cur_of (i := (143, 3, .putfield 49, (5, 0, 463), 0)) (by decide +kernel)) (by decide +kernel) hm_z
            replace hm_z := rn_aload_n (am_cur_of (i := (146, 1, .aload_n 0, (0, 0, 0), 0)) (by decide +kernel)) g0_z hm_z
            replace hm_z := rn_getI (v := rg_v h509_z 148 4) (am_cur_of (i := (147, 3, .getfield 37, (8, 4, 577), 0)) (by decide +kernel)) (by decide +kernel) ((rg_v_other (by omega)).trans (rfl)) hm_z
            replace hm_z := rn_if (am_cur_of (i := (150, 3, .ifCond .eq 35, (91, 0, 0), 0)) (by decide +kernel)) hm_z
            rcases hm_z with ⟨b517_z, hm_z⟩ | ⟨b517_z, hm_z⟩
            · replace b517_z : (rg_v h509_z 148 4) = (0 : Int32) ∧ (rg_v h509_z 148 4).toInt = (0 : Int32).toInt := b517_z
              replace hm_z := rn_aload_n (am_cur_of (i := (185, 1, .aload_n 0, (0, 0, 0), 0)) (by decide +kernel)) g0_z hm_z
              replace hm_z := rn_getR (x := 149) (am_cur_of (i := (186, 3, .getfield 12, (8, 1, 569), 0)) (by decide +kernel)) (by decide +kernel) hm_z
              replace hm_z := rn_dup (am_cur_of (i := (189, 1, .dup, (0, 0, 0), 0)) (by decide +kernel)) hm_z
              replace hm_z := rn_getI (v := s) (am_cur_of (i := (190, 3, .getfield 59, (5, 1, 470), 0)) (by decide +kernel)) (by decide +kernel) ((rg_v_other (by omega)).trans (es3_z)) hm_z
              replace hm_z := rn_iconst (w := 1) (am_cur_of (i := (193, 1, .iconst 1, (0, 0, 0), 0)) (by decide +kernel)) (by decide) hm_z
              replace hm_z := rn_iadd (w := s + 1) (am_cur_of (i := (194, 1, .iadd, (0, 0, 0), 0)) (by decide +kernel)) rfl hm_z
              replace hm_z := rn_put (am_cur_of (i := (195, 3, .putfield 59, (5, 1, 470), 0)) (by decide +kernel)) (by decide +kernel) hm_z
              replace hm_z := rn_aload_n (am_cur_of (i := (198, 1, .aload_n 0, (0, 0, 0), 0)) (by decide +kernel)) g0_z hm_z
              replace hm_z := rn_aload_n (am_cur_of (i := (199, 1, .aload_n 0, (0, 0, 0), 0)) (by decide +kernel)) g0_z hm_z
              replace hm_z := rn_getI (v := rg_v h509_z 148 6) (am_cur_of (i := (200, 3, .getfield 46, (8, 6, 581), 0)) (by decide +kernel)) (by decide +kernel) ((rg_v_other (by omega)).trans ((rg_v_other (by omega)).trans (rfl))) hm_z
              replace hm_z := rn_aload_n (am_cur_of (i := (203, 1, .aload_n 0, (0, 0, 0), 0)) (by decide +kernel)) g0_z hm_z
              replace hm_z := rn_getR (x := 149) (am_cur_of (i := (204, 3, .getfield 12, (8, 1, 569), 0)) (by decide +kernel)) (by decide +kernel) hm_z
              replace hm_z := rn_getI (v := m515_z) (am_cur_of (i := (207, 3, .getfield 49, (5, 0, 463), 0)) (by decide +kernel)) (by decide +kernel) ((rg_v_other (by omega)).trans (rg_v_self)) hm_z
              obtain ⟨m518_z, e519_z⟩ : ∃ mq : Int32, (if m515_z < rg_v h509_z 148 6 then m515_z else rg_v h509_z 148 6) = mq := ⟨_, rfl⟩
              replace hm_z := rn_min (w := m518_z) (am_cur_of (i := (210, 3, .invokestatic 107, (0, 975, 2), 0)) (by decide +kernel)) e519_z hm_z
              replace hm_z := rn_put (am_cur_of (i := (213, 3, .putfield 46, (8, 6, 581), 0)) (by decide +kernel)) (by decide +kernel) hm_z
              replace hm_z := rn_iinc (w := i + 1) (am_cur_of (i := (216, 3, .iinc 5 1, (0, 0, 0), 0)) (by decide +kernel)) g5_z rfl hm_z
              obtain ⟨_, s520_z, s521_z, g5_z, hm_z⟩ := hm_z
              replace g0_z := s520_z 0 _ (by decide) rfl g0_z
              replace g1_z := s520_z 1 _ (by decide) rfl g1_z
              replace g2_z := s520_z 2 _ (by decide) rfl g2_z
              replace g4_z := s520_z 4 _ (by decide) rfl g4_z
              replace g6_z := s520_z 6 _ (by decide) rfl g6_z
              replace g7_z := s520_z 7 _ (by decide) rfl g7_z
              clear s520_z s521_z
              replace hm_z := rn_gotoL (am_cur_of (i := (219, 3, .goto (-167), (26, 0, 0), 0)) (by decide +kernel)) hm_z
              have gg : gk g (am_up (am_up (am_up h509_z 149 0 (.int m515_z)) 149 1 (.int (s + 1))) 148 6 (.int m518_z)) := (gk_u rfl (gk_u rfl (gk_u rfl (gk_w kv))))
              obtain ⟨z1_z, z2_z, z3_z⟩ := ih_z k (i + 1) (s + 1) _ _ (gd_b gg T) (((rg_v_other (by omega)).trans ((rg_v_other (by omega)).trans ((rg_v_other (by omega)).trans (el3_z))))) (((rg_v_other (by omega)).trans (rg_v_self))) g0_z g1_z g2_z g4_z g5_z (by omega) (by omega) (by omega) hm_z
              exact ⟨z1_z, by omega, gk_t gg z3_z⟩
            · replace b517_z : ¬ (rg_v h509_z 148 4) = (0 : Int32) ∧ ¬ (rg_v h509_z 148 4).toInt = (0 : Int32).toInt := b517_z
              replace hm_z := rn_aload_n (am_cur_of (i := (153, 1, .aload_n 0, (0, 0, 0), 0)) (by decide +kernel)) g0_z hm_z
              replace hm_z := rn_getR (x := 149) (am_cur_of (i := (154, 3, .getfield 12, (8, 1, 569), 0)) (by decide +kernel)) (by decide +kernel) hm_z
              replace hm_z := rn_aload_n (am_cur_of (i := (157, 1, .aload_n 0, (0, 0, 0), 0)) (by decide +kernel)) g0_z hm_z
              replace hm_z := rn_getR (x := 149) (am_cur_of (i := (158, 3, .getfield 12, (8, 1, 569), 0)) (by decide +kernel)) (by decide +kernel) hm_z
              replace hm_z := rn_getI (v := m515_z) (am_cur_of (i := (161, 3, .getfield 49, (5, 0, 463), 0)) (by decide +kernel)) (by decide +kernel) rg_v_self hm_z
              replace hm_z := rn_aload_n (am_cur_of (i := (164, 1, .aload_n 0, (0, 0, 0), 0)) (by decide +kernel)) g0_z hm_z
              replace hm_z := rn_getM (x := 23) (am_cur_of (i := (165, 3, .getfield 18, (8, 0, 566), 0)) (by decide +kernel)) (show (am_up h509_z 149 0 (.int m515_z)) 148 0 = .ref 23 from T3) hm_z
              replace hm_z := rn_getI (v := rg_v h509_z 23 7) (am_cur_of (i := (168, 3, .getfield 104, (1, 7, 277), 0)) (by decide +kernel)) (by decide +kernel) ((rg_v_other (by omega)).trans (rfl)) hm_z
              replace hm_z := rn_iadd (w := m515_z + (rg_v h509_z 23 7)) (am_cur_of (i := (171, 1, .iadd, (0, 0, 0), 0)) (by decide +kernel)) rfl hm_z
              replace hm_z := rn_aload_n (am_cur_of (i := (172, 1, .aload_n 0, (0, 0, 0), 0)) (by decide +kernel)) g0_z hm_z
              replace hm_z := rn_getM (x := 23) (am_cur_of (i := (173, 3, .getfield 18, (8, 0, 566), 0)) (by decide +kernel)) (show (am_up h509_z 149 0 (.int m515_z)) 148 0 = .ref 23 from T3) hm_z
              replace hm_z := rn_getI (v := rg_v h509_z 23 0) (am_cur_of (i := (176, 3, .getfield 52, (1, 0, 249), 0)) (by decide +kernel)) (by decide +kernel) ((rg_v_other (by omega)).trans (rfl)) hm_z
              obtain ⟨m522_z, e523_z⟩ : ∃ mq : Int32, (if rg_v h509_z 23 0 < m515_z + (rg_v h509_z 23 7) then rg_v h509_z 23 0 else m515_z + (rg_v h509_z 23 7)) = mq := ⟨_, rfl⟩
              replace hm_z := rn_min (w := m522_z) (am_cur_of (i := (179, 3, .invokestatic 107, (0, 975, 2), 0)) (by decide +kernel)) e523_z hm_z
              replace hm_z := rn_put (am_cur_of (i := (182, 3, .putfield 49, (5, 0, 463), 0)) (by decide +kernel)) (by decide +kernel) hm_z
              replace hm_z := rn_aload_n (am_cur_of (i := (185, 1, .aload_n 0, (0, 0, 0), 0)) (by decide +kernel)) g0_z hm_z
              replace hm_z := rn_getR (x := 149) (am_cur_of (i := (186, 3, .getfield 12, (8, 1, 569), 0)) (by decide +kernel)) (by decide +kernel) hm_z
              replace hm_z := rn_dup (am_cur_of (i := (189, 1, .dup, (0, 0, 0), 0)) (by decide +kernel)) hm_z
              replace hm_z := rn_getI (v := s) (am_cur_of (i := (190, 3, .getfield 59, (5, 1, 470), 0)) (by decide +kernel)) (by decide +kernel) ((rg_v_other (by omega)).trans ((rg_v_other (by omega)).trans (es3_z))) hm_z
              replace hm_z := rn_iconst (w := 1) (am_cur_of (i := (193, 1, .iconst 1, (0, 0, 0), 0)) (by decide +kernel)) (by decide) hm_z
              replace hm_z := rn_iadd (w := s + 1) (am_cur_of (i := (194, 1, .iadd, (0, 0, 0), 0)) (by decide +kernel)) rfl hm_z
              replace hm_z := rn_put (am_cur_of (i := (195, 3, .putfield 59, (5, 1, 470), 0)) (by decide +kernel)) (by decide +kernel) hm_z
              replace hm_z := rn_aload_n (am_cur_of (i := (198, 1, .aload_n 0, (0, 0, 0), 0)) (by decide +kernel)) g0_z hm_z
              replace hm_z := rn_aload_n (am_cur_of (i := (199, 1, .aload_n 0, (0, 0, 0), 0)) (by decide +kernel)) g0_z hm_z
              replace hm_z := rn_getI (v := rg_v h509_z 148 6) (am_cur_of (i := (200, 3, .getfield 46, (8, 6, 581), 0)) (by decide +kernel)) (by decide +kernel) ((rg_v_other (by omega)).trans ((rg_v_other (by omega)).trans ((rg_v_other (by omega)).trans (rfl)))) hm_z
              replace hm_z := rn_aload_n (am_cur_of (i := (203, 1, .aload_n 0, (0, 0, 0), 0)) (by decide +kernel)) g0_z hm_z
              replace hm_z := rn_getR (x := 149) (am_cur_of (i := (204, 3, .getfield 12, (8, 1, 569), 0)) (by decide +kernel)) (by decide +kernel) hm_z
              replace hm_z := rn_getI (v := m522_z) (am_cur_of (i := (207, 3, .getfield 49, (5, 0, 463), 0)) (by decide +kernel)) (by decide +kernel) ((rg_v_other (by omega)).trans (rg_v_self)) hm_z
              obtain ⟨m524_z, e525_z⟩ : ∃ mq : Int32, (if m522_z < rg_v h509_z 148 6 then m522_z else rg_v h509_z 148 6) = mq := ⟨_, rfl⟩
              replace hm_z := rn_min (w := m524_z) (am_cur_of (i := (210, 3, .invokestatic 107, (0, 975, 2), 0)) (by decide +kernel)) e525_z hm_z
              replace hm_z := rn_put (am_cur_of (i := (213, 3, .putfield 46, (8, 6, 581), 0)) (by decide +kernel)) (by decide +kernel) hm_z
              replace hm_z := rn_iinc (w := i + 1) (am_cur_of (i := (216, 3, .iinc 5 1, (0, 0, 0), 0)) (by decide +kernel)) g5_z rfl hm_z
              obtain ⟨_, s526_z, s527_z, g5_z, hm_z⟩ := hm_z
              replace g0_z := s526_z 0 _ (by decide) rfl g0_z
              replace g1_z := s526_z 1 _ (by decide) rfl g1_z
              replace g2_z := s526_z 2 _ (by decide) rfl g2_z
              replace g4_z := s526_z 4 _ (by decide) rfl g4_z
              replace g6_z := s526_z 6 _ (by decide) rfl g6_z
              replace g7_z := s526_z 7 _ (by decide) rfl g7_z
              clear s526_z s527_z
              replace hm_z := rn_gotoL (am_cur_of (i := (219, 3, .goto (-167), (26, 0, 0), 0)) (by decide +kernel)) hm_z
              have gg : gk g (am_up (am_up (am_up (am_up h509_z 149 0 (.int m515_z)) 149 0 (.int m522_z)) 149 1 (.int (s + 1))) 148 6 (.int m524_z)) := (gk_u rfl (gk_u rfl (gk_u rfl (gk_u rfl (gk_w kv)))))
              obtain ⟨z1_z, z2_z, z3_z⟩ := ih_z k (i + 1) (s + 1) _ _ (gd_b gg T) (((rg_v_other (by omega)).trans ((rg_v_other (by omega)).trans ((rg_v_other (by omega)).trans ((rg_v_other (by omega)).trans (el3_z)))))) (((rg_v_other (by omega)).trans (rg_v_self))) g0_z g1_z g2_z g4_z g5_z (by omega) (by omega) (by omega) hm_z
              exact ⟨z1_z, by omega, gk_t gg z3_z⟩
      · replace b423_z : (2147483647 : Int32).toInt ≤ s.toInt := b423_z
        omega
theorem gs_75_23 {n : Nat} {r : Option Value} {g g' : am_H} {m o s : Int32} (T : g 148 0 = .ref 23) (el : rg_v g 148 5 = 2147483647) (es_z : rg_v g 149 1 = s) (s0_z : 0 ≤ s.toInt) (m0_z : 0 ≤ m.toInt) (sm : s.toInt + m.toInt < 2147483647) (hm_z : rn n am_m75 0 (lv_args 0 [.ref 148, .int m, .int o]) [] g r g') : r = some (.int 1) ∧ (rg_v g' 149 1).toInt = s.toInt + m.toInt ∧ gk g g' := by
  have z0_z : (0 : Int32).toInt = 0 := by decide
  have g0_z : am_get (lv_args 0 [.ref 148, .int m, .int o]) 0 = some (.ref 148) := rfl
  have g1_z : am_get (lv_args 0 [.ref 148, .int m, .int o]) 1 = some (.int m) := rfl
  have g2_z : am_get (lv_args 0 [.ref 148, .int m, .int o]) 2 = some (.int o) := rfl
  replace hm_z := rn_aload_n (am_cur_of (i := (0, 1, .aload_n 0, (0, 0, 0), 0)) (by decide +kernel)) g0_z hm_z
  replace hm_z := rn_getI (v := rg_v g 148 2) (am_cur_of (i := (1, 3, .getfield 32, (8, 2, 573), 0)) (by decide +kernel)) (by decide +kernel) rfl hm_z
  replace hm_z := rn_if (am_cur_of (i := (4, 3, .ifCond .lt 21, (11, 0, 0), 0)) (by decide +kernel)) hm_z
  rcases hm_z with ⟨b528_z, hm_z⟩ | ⟨b528_z, hm_z⟩
  · replace b528_z : (rg_v g 148 2).toInt < (0 : Int32).toInt := b528_z
    replace hm_z := rn_iconst (w := 0) (am_cur_of (i := (25, 1, .iconst 0, (0, 0, 0), 0)) (by decide +kernel)) (by decide) hm_z
    replace hm_z := rn_istore_n (am_cur_of (i := (26, 1, .istore_n 3, (0, 0, 0), 0)) (by decide +kernel)) hm_z
    obtain ⟨_, s529_z, s530_z, g3_z, hm_z⟩ := hm_z
    replace g0_z := s529_z 0 _ (by decide) rfl g0_z
    replace g1_z := s529_z 1 _ (by decide) rfl g1_z
    replace g2_z := s529_z 2 _ (by decide) rfl g2_z
    clear s529_z s530_z
    replace hm_z := rn_iload_n (am_cur_of (i := (27, 1, .iload_n 3, (0, 0, 0), 0)) (by decide +kernel)) g3_z hm_z
    replace hm_z := rn_ifT (am_cur_of (i := (28, 3, .ifCond .eq 18, (22, 0, 0), 0)) (by decide +kernel)) (by decide) hm_z
    replace hm_z := rn_iconst (w := 0) (am_cur_of (i := (46, 1, .iconst 0, (0, 0, 0), 0)) (by decide +kernel)) (by decide) hm_z
    replace hm_z := rn_istore (am_cur_of (i := (47, 2, .istore 4, (0, 0, 0), 0)) (by decide +kernel)) hm_z
    obtain ⟨_, s531_z, s532_z, g4_z, hm_z⟩ := hm_z
    replace g0_z := s531_z 0 _ (by decide) rfl g0_z
    replace g1_z := s531_z 1 _ (by decide) rfl g1_z
    replace g2_z := s531_z 2 _ (by decide) rfl g2_z
    replace g3_z := s531_z 3 _ (by decide) rfl g3_z
    clear s531_z s532_z
    replace hm_z := rn_iconst (w := 0) (am_cur_of (i := (49, 1, .iconst 0, (0, 0, 0), 0)) (by decide +kernel)) (by decide) hm_z
    replace hm_z := rn_istore (am_cur_of (i := (50, 2, .istore 5, (0, 0, 0), 0)) (by decide +kernel)) hm_z
    obtain ⟨_, s533_z, s534_z, g5_z, hm_z⟩ := hm_z
    replace g0_z := s533_z 0 _ (by decide) rfl g0_z
    replace g1_z := s533_z 1 _ (by decide) rfl g1_z
    replace g2_z := s533_z 2 _ (by decide) rfl g2_z
    replace g3_z := s533_z 3 _ (by decide) rfl g3_z
    replace g4_z := s533_z 4 _ (by decide) rfl g4_z
    clear s533_z s534_z
    obtain ⟨z1_z, z2_z, z3_z⟩ := gs_l23 _ m.toInt.toNat 0 s _ _ T el es_z g0_z g1_z g2_z g4_z g5_z (by rw [show (0 : Int32).toInt = 0 by decide]; omega) s0_z (by omega) hm_z
    exact ⟨z1_z, by omega, z3_z⟩
  · replace b528_z : (0 : Int32).toInt ≤ (rg_v g 148 2).toInt := b528_z
    replace hm_z := rn_aload_n (am_cur_of (i := (7, 1, .aload_n 0, (0, 0, 0), 0)) (by decide +kernel)) g0_z hm_z
    replace hm_z := rn_getR (x := 149) (am_cur_of (i := (8, 3, .getfield 12, (8, 1, 569), 0)) (by decide +kernel)) (by decide +kernel) hm_z
    replace hm_z := rn_aload_n (am_cur_of (i := (11, 1, .aload_n 0, (0, 0, 0), 0)) (by decide +kernel)) g0_z hm_z
    replace hm_z := rn_getI (v := rg_v g 148 2) (am_cur_of (i := (12, 3, .getfield 32, (8, 2, 573), 0)) (by decide +kernel)) (by decide +kernel) rfl hm_z
    replace hm_z := rn_callV (M' := am_m76) (o := 149) (ar := [.int (rg_v g 148 2)]) (rest := []) (L := lv_args 0 [.ref 149, .int (rg_v g 148 2)]) (am_cur_of (i := (15, 3, .invokevirtual 86, (76, 969, 3), 0)) (by decide +kernel)) rfl rfl rfl rfl hm_z
    obtain ⟨r535_z, h536_z, q537_z, hm_z⟩ := hm_z
    obtain ⟨v538_z, rfl⟩ := rn_ret (M := am_m76) rfl (by decide) q537_z
    have k539_z := wq_76 q537_z
    have T2 := wd_b k539_z T
    replace hm_z : rn _ _ _ _ [.int v538_z] _ _ _ := hm_z
    replace hm_z := rn_if (am_cur_of (i := (18, 3, .ifCond .ne 7, (11, 0, 0), 0)) (by decide +kernel)) hm_z
    rcases hm_z with ⟨b540_z, hm_z⟩ | ⟨b540_z, hm_z⟩
    · replace b540_z : ¬ v538_z = (0 : Int32) ∧ ¬ v538_z.toInt = (0 : Int32).toInt := b540_z
      replace hm_z := rn_iconst (w := 0) (am_cur_of (i := (25, 1, .iconst 0, (0, 0, 0), 0)) (by decide +kernel)) (by decide) hm_z
      replace hm_z := rn_istore_n (am_cur_of (i := (26, 1, .istore_n 3, (0, 0, 0), 0)) (by decide +kernel)) hm_z
      obtain ⟨_, s541_z, s542_z, g3_z, hm_z⟩ := hm_z
      replace g0_z := s541_z 0 _ (by decide) rfl g0_z
      replace g1_z := s541_z 1 _ (by decide) rfl g1_z
      replace g2_z := s541_z 2 _ (by decide) rfl g2_z
      clear s541_z s542_z
      replace hm_z := rn_iload_n (am_cur_of (i := (27, 1, .iload_n 3, (0, 0, 0), 0)) (by decide +kernel)) g3_z hm_z
      replace hm_z := rn_ifT (am_cur_of (i := (28, 3, .ifCond .eq 18, (22, 0, 0), 0)) (by decide +kernel)) (by decide) hm_z
      replace hm_z := rn_iconst (w := 0) (am_cur_of (i := (46, 1, .iconst 0, (0, 0, 0), 0)) (by decide +kernel)) (by decide) hm_z
      replace hm_z := rn_istore (am_cur_of (i := (47, 2, .istore 4, (0, 0, 0), 0)) (by decide +kernel)) hm_z
      obtain ⟨_, s543_z, s544_z, g4_z, hm_z⟩ := hm_z
      replace g0_z := s543_z 0 _ (by decide) rfl g0_z
      replace g1_z := s543_z 1 _ (by decide) rfl g1_z
      replace g2_z := s543_z 2 _ (by decide) rfl g2_z
      replace g3_z := s543_z 3 _ (by decide) rfl g3_z
      clear s543_z s544_z
      replace hm_z := rn_iconst (w := 0) (am_cur_of (i := (49, 1, .iconst 0, (0, 0, 0), 0)) (by decide +kernel)) (by decide) hm_z
      replace hm_z := rn_istore (am_cur_of (i := (50, 2, .istore 5, (0, 0, 0), 0)) (by decide +kernel)) hm_z
      obtain ⟨_, s545_z, s546_z, g5_z, hm_z⟩ := hm_z
      replace g0_z := s545_z 0 _ (by decide) rfl g0_z
      replace g1_z := s545_z 1 _ (by decide) rfl g1_z
      replace g2_z := s545_z 2 _ (by decide) rfl g2_z
      replace g3_z := s545_z 3 _ (by decide) rfl g3_z
      replace g4_z := s545_z 4 _ (by decide) rfl g4_z
      clear s545_z s546_z
      obtain ⟨z1_z, z2_z, z3_z⟩ := gs_l23 _ m.toInt.toNat 0 s _ _ T2 (by unfold rg_v at el ⊢; rw [k539_z 148 5 rfl]; exact el) (by unfold rg_v at es_z ⊢; rw [k539_z 149 1 rfl]; exact es_z) g0_z g1_z g2_z g4_z g5_z (by rw [show (0 : Int32).toInt = 0 by decide]; omega) s0_z (by omega) hm_z
      exact ⟨z1_z, by omega, gk_t (gk_w k539_z) z3_z⟩
    · replace b540_z : v538_z = (0 : Int32) ∧ v538_z.toInt = (0 : Int32).toInt := b540_z
      replace hm_z := rn_iconst (w := 1) (am_cur_of (i := (21, 1, .iconst 1, (0, 0, 0), 0)) (by decide +kernel)) (by decide) hm_z
      replace hm_z := rn_goto (am_cur_of (i := (22, 3, .goto 4, (12, 0, 0), 0)) (by decide +kernel)) hm_z
      replace hm_z := rn_istore_n (am_cur_of (i := (26, 1, .istore_n 3, (0, 0, 0), 0)) (by decide +kernel)) hm_z
      obtain ⟨_, s547_z, s548_z, g3_z, hm_z⟩ := hm_z
      replace g0_z := s547_z 0 _ (by decide) rfl g0_z
      replace g1_z := s547_z 1 _ (by decide) rfl g1_z
      replace g2_z := s547_z 2 _ (by decide) rfl g2_z
      clear s547_z s548_z
      replace hm_z := rn_iload_n (am_cur_of (i := (27, 1, .iload_n 3, (0, 0, 0), 0)) (by decide +kernel)) g3_z hm_z
      replace hm_z := rn_ifF (am_cur_of (i := (28, 3, .ifCond .eq 18, (22, 0, 0), 0)) (by decide +kernel)) (by decide) hm_z
      replace hm_z := rn_aload_n (am_cur_of (i := (31, 1, .aload_n 0, (0, 0, 0), 0)) (by decide +kernel)) g0_z hm_z
      replace hm_z := rn_getM (x := 23) (am_cur_of (i := (32, 3, .getfield 18, (8, 0, 566), 0)) (by decide +kernel)) T2 hm_z
      replace hm_z := rn_getR (x := 28) (am_cur_of (i := (35, 3, .getfield 90, (1, 11, 292), 0)) (by decide +kernel)) (by decide +kernel) hm_z
      replace hm_z := rn_aload_n (am_cur_of (i := (38, 1, .aload_n 0, (0, 0, 0), 0)) (by decide +kernel)) g0_z hm_z
      replace hm_z := rn_getI (v := rg_v h536_z 148 2) (am_cur_of (i := (39, 3, .getfield 32, (8, 2, 573), 0)) (by decide +kernel)) (by decide +kernel) rfl hm_z
      replace hm_z := rn_iaload (N := 6) (q := (rg_v h536_z 148 2).toNatClampNeg) (v := rg_v h536_z 28 ((rg_v h536_z 148 2).toNatClampNeg)) (am_cur_of (i := (42, 1, .iaload, (0, 0, 0), 0)) (by decide +kernel)) (by decide +kernel) rfl rfl hm_z
      obtain ⟨p549_z, hm_z⟩ := hm_z
      replace hm_z := rn_goto (am_cur_of (i := (43, 3, .goto 4, (23, 0, 0), 0)) (by decide +kernel)) hm_z
      replace hm_z := rn_istore (am_cur_of (i := (47, 2, .istore 4, (0, 0, 0), 0)) (by decide +kernel)) hm_z
      obtain ⟨_, s550_z, s551_z, g4_z, hm_z⟩ := hm_z
      replace g0_z := s550_z 0 _ (by decide) rfl g0_z
      replace g1_z := s550_z 1 _ (by decide) rfl g1_z
      replace g2_z := s550_z 2 _ (by decide) rfl g2_z
      replace g3_z := s550_z 3 _ (by decide) rfl g3_z
      clear s550_z s551_z
      replace hm_z := rn_iconst (w := 0) (am_cur_of (i := (49, 1, .iconst 0, (0, 0, 0), 0)) (by decide +kernel)) (by decide) hm_z
      replace hm_z := rn_istore (am_cur_of (i := (50, 2, .istore 5, (0, 0, 0), 0)) (by decide +kernel)) hm_z
      obtain ⟨_, s552_z, s553_z, g5_z, hm_z⟩ := hm_z
      replace g0_z := s552_z 0 _ (by decide) rfl g0_z
      replace g1_z := s552_z 1 _ (by decide) rfl g1_z
      replace g2_z := s552_z 2 _ (by decide) rfl g2_z
      replace g3_z := s552_z 3 _ (by decide) rfl g3_z
      replace g4_z := s552_z 4 _ (by decide) rfl g4_z
      clear s552_z s553_z
      obtain ⟨z1_z, z2_z, z3_z⟩ := gs_l23 _ m.toInt.toNat 0 s _ _ T2 (by unfold rg_v at el ⊢; rw [k539_z 148 5 rfl]; exact el) (by unfold rg_v at es_z ⊢; rw [k539_z 149 1 rfl]; exact es_z) g0_z g1_z g2_z g4_z g5_z (by rw [show (0 : Int32).toInt = 0 by decide]; omega) s0_z (by omega) hm_z
      exact ⟨z1_z, by omega, gk_t (gk_w k539_z) z3_z⟩
