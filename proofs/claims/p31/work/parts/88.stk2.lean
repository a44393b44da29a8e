/-! ===== THE MODEL'S STACKS: rank, bind (wip/s/tpl/88.tpl) ===== -/
theorem ac_ne9 {x y : Int32} (h : ¬ x = y) : ¬ x.toInt = y.toInt := fun e => h (Int32.toInt_inj.mp e)
theorem ab_rank {h : am_H} {k : Int32} : am_Ek false am_G0 am_m180 0 (lv_args 0 [.int k]) [] am_ks0 h 0 0 (fun r ks h' => ks = am_ks0 ∧ h' = h ∧ ∃ x : Int32, r = some (.int x) ∧ (k = 0 → x = 0) ∧ (2 ≤ k.toInt → 1 ≤ x.toInt)) := by
  have z0 : (0 : Int32).toInt = 0 := by decide
  have z2 : (2 : Int32).toInt = 2 := by decide
  have z3 : (3 : Int32).toInt = 3 := by decide
  have z4 : (4 : Int32).toInt = 4 := by decide
  have z5 : (5 : Int32).toInt = 5 := by decide
  have z11 : (11 : Int32).toInt = 11 := by decide
  have z13 : (13 : Int32).toInt = 13 := by decide
  refine am_e_iload_n (am_nxt_of (i := (0, 1, .iload_n 0, (0, 0, 0), 0)) (by decide +kernel)) (v := k) rfl ?_
  refine am_e_bipush (w := 13) (am_nxt_of (i := (1, 2, .bipush 13, (0, 0, 0), 0)) (by decide +kernel)) (by decide) ?_
  by_cases h13 : (k : Int32) < 13
  · refine am_e_cmpT (am_nxt_of (i := (3, 3, .if_icmp .lt 8, (5, 0, 0), 0)) (by decide +kernel)) (am_c_ltT h13) (am_tgt_of (by decide +kernel)) ?_
    refine am_e_iload_n (am_nxt_of (i := (11, 1, .iload_n 0, (0, 0, 0), 0)) (by decide +kernel)) (v := k) rfl ?_
    refine am_e_bipush (w := 11) (am_nxt_of (i := (12, 2, .bipush 11, (0, 0, 0), 0)) (by decide +kernel)) (by decide) ?_
    by_cases h11 : (k : Int32) < 11
    · refine am_e_cmpT (am_nxt_of (i := (14, 3, .if_icmp .lt 7, (10, 0, 0), 0)) (by decide +kernel)) (am_c_ltT h11) (am_tgt_of (by decide +kernel)) ?_
      refine am_e_iload_n (am_nxt_of (i := (21, 1, .iload_n 0, (0, 0, 0), 0)) (by decide +kernel)) (v := k) rfl ?_
      refine am_e_iconst (w := 5) (am_nxt_of (i := (22, 1, .iconst 5, (0, 0, 0), 0)) (by decide +kernel)) rfl ?_
      by_cases h5 : (k : Int32) < 5
      · refine am_e_cmpT (am_nxt_of (i := (23, 3, .if_icmp .lt 7, (15, 0, 0), 0)) (by decide +kernel)) (am_c_ltT h5) (am_tgt_of (by decide +kernel)) ?_
        refine am_e_iload_n (am_nxt_of (i := (30, 1, .iload_n 0, (0, 0, 0), 0)) (by decide +kernel)) (v := k) rfl ?_
        refine am_e_iconst (w := 2) (am_nxt_of (i := (31, 1, .iconst 2, (0, 0, 0), 0)) (by decide +kernel)) rfl ?_
        by_cases h2 : (k : Int32) = 2
        · refine am_e_cmpF (am_nxt_of (i := (32, 3, .if_icmp .ne 7, (20, 0, 0), 0)) (by decide +kernel)) (am_c_neF h2) ?_
          refine am_e_iconst (w := 3) (am_nxt_of (i := (35, 1, .iconst 3, (0, 0, 0), 0)) (by decide +kernel)) rfl ?_
          refine am_e_goto (am_cur_of (i := (36, 3, .goto 22, (31, 0, 0), 0)) (by decide +kernel)) (am_tgt_of (by decide +kernel)) ?_
          exact am_e_iret (ty := .int) (am_cur_of (i := (58, 1, .ireturn, (0, 0, 0), 0)) (by decide +kernel)) rfl rfl rfl ⟨rfl, rfl, _, rfl, (fun e => by rw [e] at h2; exact absurd h2 (by decide)), (fun _ => by decide)⟩
        · refine am_e_cmpT (am_nxt_of (i := (32, 3, .if_icmp .ne 7, (20, 0, 0), 0)) (by decide +kernel)) (am_c_neT h2) (am_tgt_of (by decide +kernel)) ?_
          refine am_e_iload_n (am_nxt_of (i := (39, 1, .iload_n 0, (0, 0, 0), 0)) (by decide +kernel)) (v := k) rfl ?_
          refine am_e_iconst (w := 3) (am_nxt_of (i := (40, 1, .iconst 3, (0, 0, 0), 0)) (by decide +kernel)) rfl ?_
          by_cases h3 : (k : Int32) = 3
          · refine am_e_cmpF (am_nxt_of (i := (41, 3, .if_icmp .ne 7, (25, 0, 0), 0)) (by decide +kernel)) (am_c_neF h3) ?_
            refine am_e_iconst (w := 2) (am_nxt_of (i := (44, 1, .iconst 2, (0, 0, 0), 0)) (by decide +kernel)) rfl ?_
            refine am_e_goto (am_cur_of (i := (45, 3, .goto 13, (31, 0, 0), 0)) (by decide +kernel)) (am_tgt_of (by decide +kernel)) ?_
            exact am_e_iret (ty := .int) (am_cur_of (i := (58, 1, .ireturn, (0, 0, 0), 0)) (by decide +kernel)) rfl rfl rfl ⟨rfl, rfl, _, rfl, (fun e => by rw [e] at h3; exact absurd h3 (by decide)), (fun _ => by decide)⟩
          · refine am_e_cmpT (am_nxt_of (i := (41, 3, .if_icmp .ne 7, (25, 0, 0), 0)) (by decide +kernel)) (am_c_neT h3) (am_tgt_of (by decide +kernel)) ?_
            refine am_e_iload_n (am_nxt_of (i := (48, 1, .iload_n 0, (0, 0, 0), 0)) (by decide +kernel)) (v := k) rfl ?_
            refine am_e_iconst (w := 4) (am_nxt_of (i := (49, 1, .iconst 4, (0, 0, 0), 0)) (by decide +kernel)) rfl ?_
            by_cases h4 : (k : Int32) = 4
            · refine am_e_cmpF (am_nxt_of (i := (50, 3, .if_icmp .ne 7, (30, 0, 0), 0)) (by decide +kernel)) (am_c_neF h4) ?_
              refine am_e_iconst (w := 1) (am_nxt_of (i := (53, 1, .iconst 1, (0, 0, 0), 0)) (by decide +kernel)) rfl ?_
              refine am_e_goto (am_cur_of (i := (54, 3, .goto 4, (31, 0, 0), 0)) (by decide +kernel)) (am_tgt_of (by decide +kernel)) ?_
              exact am_e_iret (ty := .int) (am_cur_of (i := (58, 1, .ireturn, (0, 0, 0), 0)) (by decide +kernel)) rfl rfl rfl ⟨rfl, rfl, _, rfl, (fun e => by rw [e] at h4; exact absurd h4 (by decide)), (fun _ => by decide)⟩
            · refine am_e_cmpT (am_nxt_of (i := (50, 3, .if_icmp .ne 7, (30, 0, 0), 0)) (by decide +kernel)) (am_c_neT h4) (am_tgt_of (by decide +kernel)) ?_
              refine am_e_iconst (w := 0) (am_nxt_of (i := (57, 1, .iconst 0, (0, 0, 0), 0)) (by decide +kernel)) rfl ?_
              exact am_e_iret (ty := .int) (am_cur_of (i := (58, 1, .ireturn, (0, 0, 0), 0)) (by decide +kernel)) rfl rfl rfl ⟨rfl, rfl, _, rfl, (fun _ => rfl), (fun e => by have := ac_ne9 h2; have := ac_ne9 h3; have := ac_ne9 h4; rw [Int32.lt_iff_toInt_lt] at h5; omega)⟩
      · refine am_e_cmpF (am_nxt_of (i := (23, 3, .if_icmp .lt 7, (15, 0, 0), 0)) (by decide +kernel)) (am_c_ltF h5) ?_
        refine am_e_iconst (w := 4) (am_nxt_of (i := (26, 1, .iconst 4, (0, 0, 0), 0)) (by decide +kernel)) rfl ?_
        refine am_e_goto (am_cur_of (i := (27, 3, .goto 31, (31, 0, 0), 0)) (by decide +kernel)) (am_tgt_of (by decide +kernel)) ?_
        exact am_e_iret (ty := .int) (am_cur_of (i := (58, 1, .ireturn, (0, 0, 0), 0)) (by decide +kernel)) rfl rfl rfl ⟨rfl, rfl, _, rfl, (fun e => by rw [e] at h5; exact absurd (by decide) h5), (fun _ => by decide)⟩
    · refine am_e_cmpF (am_nxt_of (i := (14, 3, .if_icmp .lt 7, (10, 0, 0), 0)) (by decide +kernel)) (am_c_ltF h11) ?_
      refine am_e_iconst (w := 5) (am_nxt_of (i := (17, 1, .iconst 5, (0, 0, 0), 0)) (by decide +kernel)) rfl ?_
      refine am_e_goto (am_cur_of (i := (18, 3, .goto 40, (31, 0, 0), 0)) (by decide +kernel)) (am_tgt_of (by decide +kernel)) ?_
      exact am_e_iret (ty := .int) (am_cur_of (i := (58, 1, .ireturn, (0, 0, 0), 0)) (by decide +kernel)) rfl rfl rfl ⟨rfl, rfl, _, rfl, (fun e => by rw [e] at h11; exact absurd (by decide) h11), (fun _ => by decide)⟩
  · refine am_e_cmpF (am_nxt_of (i := (3, 3, .if_icmp .lt 8, (5, 0, 0), 0)) (by decide +kernel)) (am_c_ltF h13) ?_
    refine am_e_bipush (w := 6) (am_nxt_of (i := (6, 2, .bipush 6, (0, 0, 0), 0)) (by decide +kernel)) (by decide) ?_
    refine am_e_goto (am_cur_of (i := (8, 3, .goto 50, (31, 0, 0), 0)) (by decide +kernel)) (am_tgt_of (by decide +kernel)) ?_
    exact am_e_iret (ty := .int) (am_cur_of (i := (58, 1, .ireturn, (0, 0, 0), 0)) (by decide +kernel)) rfl rfl rfl ⟨rfl, rfl, _, rfl, (fun e => by rw [e] at h13; exact absurd (by decide) h13), (fun _ => by decide)⟩
/-- what waits, counted: all but brackets, brackets, joins of two -/
def ab_wv (h : am_H) (i : Nat) : Int32 := match h 184 i with
  | .int v => v
  | _ => 0
def ab_nz (h : am_H) : Nat → Int
  | 0 => 0
  | n + 1 => ab_nz h n + (if ab_wv h n = 0 then 0 else 1)
def ab_zr (h : am_H) : Nat → Int
  | 0 => 0
  | n + 1 => ab_zr h n + (if ab_wv h n = 0 then 1 else 0)
def ab_bj (h : am_H) : Nat → Int
  | 0 => 0
  | n + 1 => ab_bj h n + (if ab_wv h n = 0 then 0 else if ab_wv h n = 2 then 0 else 1)
theorem ab_wv_same {h h' : am_H} {i : Nat} (he : h' 184 i = h 184 i) : ab_wv h' i = ab_wv h i := by
  unfold ab_wv
  rw [he]
theorem ab_cnt_same {h h' : am_H} : ∀ {n : Nat}, (∀ i, i < n → h' 184 i = h 184 i) → ab_nz h' n = ab_nz h n ∧ ab_zr h' n = ab_zr h n ∧ ab_bj h' n = ab_bj h n
  | 0, _ => ⟨rfl, rfl, rfl⟩
  | n + 1, he => by
    obtain ⟨a, b, c⟩ := ab_cnt_same (n := n) (fun i hi => he i (by omega))
    have e := ab_wv_same (he n (by omega))
    refine ⟨?_, ?_, ?_⟩
    · show ab_nz h' n + _ = ab_nz h n + _
      rw [a, e]
    · show ab_zr h' n + _ = ab_zr h n + _
      rw [b, e]
    · show ab_bj h' n + _ = ab_bj h n + _
      rw [c, e]
theorem ab_cnt_nn {h : am_H} : ∀ {n : Nat}, 0 ≤ ab_nz h n ∧ 0 ≤ ab_zr h n ∧ 0 ≤ ab_bj h n ∧ ab_bj h n ≤ ab_nz h n ∧ ab_nz h n + ab_zr h n = n
  | 0 => ⟨Int.le_refl _, Int.le_refl _, Int.le_refl _, Int.le_refl _, rfl⟩
  | n + 1 => by
    obtain ⟨a, b, c, d, e⟩ := ab_cnt_nn (h := h) (n := n)
    have h1 : ab_nz h (n + 1) = ab_nz h n + (if ab_wv h n = 0 then 0 else 1) := rfl
    have h2 : ab_zr h (n + 1) = ab_zr h n + (if ab_wv h n = 0 then 1 else 0) := rfl
    have h3 : ab_bj h (n + 1) = ab_bj h n + (if ab_wv h n = 0 then 0 else if ab_wv h n = 2 then 0 else 1) := rfl
    rw [h1, h2, h3]
    by_cases hz : ab_wv h n = 0
    · rw [if_pos hz, if_pos hz, if_pos hz]
      omega
    · rw [if_neg hz, if_neg hz, if_neg hz]
      by_cases h2 : ab_wv h n = 2
      · rw [if_pos h2]
        omega
      · rw [if_neg h2]
        omega
/-- the stacks fit together; x: a value stands above (1) or is wanted (0) -/
def ab_Sk (x : Int) (h : am_H) : Prop := ∃ R C W H B : Int32, h 164 21 = .int R ∧ h 164 44 = .int C ∧ h 164 41 = .int W ∧ h 164 42 = .int H ∧ h 164 43 = .int B ∧ 0 ≤ R.toInt ∧ 0 ≤ W.toInt ∧ R.toInt + ab_nz h W.toInt.toNat = C.toInt ∧ C.toInt ≤ 64 ∧ ab_zr h W.toInt.toNat = B.toInt ∧ B.toInt ≤ 8 ∧ H.toInt = ab_bj h W.toInt.toNat + x ∧ H.toInt ≤ R.toInt ∧ ∀ i, i < W.toInt.toNat → ¬ ab_wv h i = 1
