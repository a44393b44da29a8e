/-! ===== THE MODEL'S common, by hand (wip/s/tpl/78.tpl) ===== -/
theorem ab_rem_lt {x y : Int32} (hy : ¬ y = 0) : (x - x / y * y).toInt.natAbs < y.toInt.natAbs := by
  have hy' : ¬ y.toInt = 0 := fun e => hy (Int32.toInt_inj.mp (by rw [e]; decide))
  have e1 : (x - x / y * y).toInt = (x.toInt - x.toInt.tdiv y.toInt * y.toInt).bmod (2 ^ 32) := by
    rw [Int32.toInt_sub, Int32.toInt_mul, Int32.toInt_div, Int.sub_bmod_bmod]
    rw [← Int.sub_bmod_bmod, Int.bmod_mul_bmod, Int.sub_bmod_bmod]
  have e2 : x.toInt - x.toInt.tdiv y.toInt * y.toInt = x.toInt.tmod y.toInt := by
    rw [Int.tmod_def, Int.mul_comm]
  have e3 : (x.toInt.tmod y.toInt).natAbs < y.toInt.natAbs := by
    rw [Int.natAbs_tmod]
    exact Nat.mod_lt _ (by omega)
  have hb := ab_32 y
  have e4 : (x.toInt.tmod y.toInt).bmod (2 ^ 32) = x.toInt.tmod y.toInt := ab_bm (by omega) (by omega)
  rw [e1, e2, e4]
  exact e3
abbrev ab_coQ (b : Int32) (h : am_H) : Option Value → List am_k → am_H → Prop := fun r ks h' => ks = am_ks0 ∧ h' = h ∧ ∃ g : Int32, r = some (.int g) ∧ (¬ b = 0 → ¬ g = 0)
theorem ab_co {h : am_H} {a b : Int32} : ∀ (n : Nat) (x y l : Int32), y.toInt.natAbs ≤ n → (¬ b = 0 → ¬ x = 0 ∨ ¬ y = 0) → am_Ek false am_G0 am_m235 4 [(0, .int a), (1, .int b), (2, .int x), (3, .int y), (4, .int l)] [] am_ks0 h 0 0 (ab_coQ b h) := by
  intro n
  induction n with
  | zero =>
    intro x y l hy hb
    have hy0 : y = 0 := Int32.toInt_inj.mp (by rw [show (0 : Int32).toInt = 0 by decide]; omega)
    refine am_e_iload_n (am_nxt_of (i := (4, 1, .iload_n 3, (0, 0, 0), 0)) (by decide +kernel)) (v := y) rfl ?_
    refine am_e_ifT (am_nxt_of (i := (5, 3, .ifCond .eq 16, (15, 0, 0), 0)) (by decide +kernel)) (am_c_eqT hy0) (am_tgt_of (by decide +kernel)) ?_
    refine am_e_iload_n (am_nxt_of (i := (21, 1, .iload_n 2, (0, 0, 0), 0)) (by decide +kernel)) (v := x) rfl ?_
    refine am_e_iret (ty := .int) (am_cur_of (i := (22, 1, .ireturn, (0, 0, 0), 0)) (by decide +kernel)) rfl rfl rfl ⟨rfl, rfl, x, rfl, fun q => ?_⟩
    rcases hb q with q | q
    · exact q
    · exact absurd hy0 q
  | succ n ih =>
    intro x y l hy hb
    refine am_e_iload_n (am_nxt_of (i := (4, 1, .iload_n 3, (0, 0, 0), 0)) (by decide +kernel)) (v := y) rfl ?_
    by_cases hy0 : y = 0
    · refine am_e_ifT (am_nxt_of (i := (5, 3, .ifCond .eq 16, (15, 0, 0), 0)) (by decide +kernel)) (am_c_eqT hy0) (am_tgt_of (by decide +kernel)) ?_
      refine am_e_iload_n (am_nxt_of (i := (21, 1, .iload_n 2, (0, 0, 0), 0)) (by decide +kernel)) (v := x) rfl ?_
      refine am_e_iret (ty := .int) (am_cur_of (i := (22, 1, .ireturn, (0, 0, 0), 0)) (by decide +kernel)) rfl rfl rfl ⟨rfl, rfl, x, rfl, fun q => ?_⟩
      rcases hb q with q | q
      · exact q
      · exact absurd hy0 q
    · refine am_e_ifF (am_nxt_of (i := (5, 3, .ifCond .eq 16, (15, 0, 0), 0)) (by decide +kernel)) (am_c_eqF hy0) ?_
      refine am_e_iload_n (am_nxt_of (i := (8, 1, .iload_n 2, (0, 0, 0), 0)) (by decide +kernel)) (v := x) rfl ?_
      refine am_e_iload_n (am_nxt_of (i := (9, 1, .iload_n 3, (0, 0, 0), 0)) (by decide +kernel)) (v := y) rfl ?_
      refine am_e_irem (am_nxt_of (i := (10, 1, .irem, (0, 0, 0), 0)) (by decide +kernel)) hy0 rfl ?_
      refine am_e_istore (am_nxt_of (i := (11, 2, .istore 4, (0, 0, 0), 0)) (by decide +kernel)) (by decide +kernel) rfl ?_
      refine am_e_iload_n (am_nxt_of (i := (13, 1, .iload_n 3, (0, 0, 0), 0)) (by decide +kernel)) (v := y) rfl ?_
      refine am_e_istore_n (am_nxt_of (i := (14, 1, .istore_n 2, (0, 0, 0), 0)) (by decide +kernel)) (by decide +kernel) rfl ?_
      refine am_e_iload (am_nxt_of (i := (15, 2, .iload 4, (0, 0, 0), 0)) (by decide +kernel)) (v := x - x / y * y) rfl ?_
      refine am_e_istore_n (am_nxt_of (i := (17, 1, .istore_n 3, (0, 0, 0), 0)) (by decide +kernel)) (by decide +kernel) rfl ?_
      refine am_e_goto (am_cur_of (i := (18, 3, .goto (-14), (4, 0, 0), 0)) (by decide +kernel)) (am_tgt_of (by decide +kernel)) ?_
      refine am_Ek_ls (ls' := [(0, .int a), (1, .int b), (2, .int y), (3, .int (x - x / y * y)), (4, .int (x - x / y * y))]) ⟨rfl, rfl, rfl, rfl, rfl, trivial⟩ ?_
      have := ab_rem_lt (x := x) hy0
      exact ih _ _ _ (by omega) (fun _ => Or.inl hy0)
theorem ab_common {h : am_H} {a b : Int32} : am_Ek false am_G0 am_m235 0 (lv_args 0 [.int a, .int b]) [] am_ks0 h 0 0 (ab_coQ b h) := by
  refine am_e_iload_n (am_nxt_of (i := (0, 1, .iload_n 0, (0, 0, 0), 0)) (by decide +kernel)) (v := a) rfl ?_
  refine am_e_istore_n (am_nxt_of (i := (1, 1, .istore_n 2, (0, 0, 0), 0)) (by decide +kernel)) (by decide +kernel) rfl ?_
  refine am_e_iload_n (am_nxt_of (i := (2, 1, .iload_n 1, (0, 0, 0), 0)) (by decide +kernel)) (v := b) rfl ?_
  refine am_e_istore_n (am_nxt_of (i := (3, 1, .istore_n 3, (0, 0, 0), 0)) (by decide +kernel)) (by decide +kernel) rfl ?_
  refine am_e_iload_n (am_nxt_of (i := (4, 1, .iload_n 3, (0, 0, 0), 0)) (by decide +kernel)) (v := b) rfl ?_
  by_cases hb : b = 0
  · refine am_e_ifT (am_nxt_of (i := (5, 3, .ifCond .eq 16, (15, 0, 0), 0)) (by decide +kernel)) (am_c_eqT hb) (am_tgt_of (by decide +kernel)) ?_
    refine am_e_iload_n (am_nxt_of (i := (21, 1, .iload_n 2, (0, 0, 0), 0)) (by decide +kernel)) (v := a) rfl ?_
    exact am_e_iret (ty := .int) (am_cur_of (i := (22, 1, .ireturn, (0, 0, 0), 0)) (by decide +kernel)) rfl rfl rfl ⟨rfl, rfl, a, rfl, fun q => absurd hb q⟩
  · refine am_e_ifF (am_nxt_of (i := (5, 3, .ifCond .eq 16, (15, 0, 0), 0)) (by decide +kernel)) (am_c_eqF hb) ?_
    refine am_e_iload_n (am_nxt_of (i := (8, 1, .iload_n 2, (0, 0, 0), 0)) (by decide +kernel)) (v := a) rfl ?_
    refine am_e_iload_n (am_nxt_of (i := (9, 1, .iload_n 3, (0, 0, 0), 0)) (by decide +kernel)) (v := b) rfl ?_
    refine am_e_irem (am_nxt_of (i := (10, 1, .irem, (0, 0, 0), 0)) (by decide +kernel)) hb rfl ?_
    refine am_e_istore (am_nxt_of (i := (11, 2, .istore 4, (0, 0, 0), 0)) (by decide +kernel)) (by decide +kernel) rfl ?_
    refine am_e_iload_n (am_nxt_of (i := (13, 1, .iload_n 3, (0, 0, 0), 0)) (by decide +kernel)) (v := b) rfl ?_
    refine am_e_istore_n (am_nxt_of (i := (14, 1, .istore_n 2, (0, 0, 0), 0)) (by decide +kernel)) (by decide +kernel) rfl ?_
    refine am_e_iload (am_nxt_of (i := (15, 2, .iload 4, (0, 0, 0), 0)) (by decide +kernel)) (v := a - a / b * b) rfl ?_
    refine am_e_istore_n (am_nxt_of (i := (17, 1, .istore_n 3, (0, 0, 0), 0)) (by decide +kernel)) (by decide +kernel) rfl ?_
    refine am_e_goto (am_cur_of (i := (18, 3, .goto (-14), (4, 0, 0), 0)) (by decide +kernel)) (am_tgt_of (by decide +kernel)) ?_
    refine am_Ek_ls (ls' := [(0, .int a), (1, .int b), (2, .int b), (3, .int (a - a / b * b)), (4, .int (a - a / b * b))]) ⟨rfl, rfl, rfl, rfl, rfl, trivial⟩ ?_
    exact ab_co _ _ _ _ (Nat.le_refl _) (fun _ => Or.inl hb)
