/-! ===== THE MODEL'S number1, by hand (wip/s/tpl/79.tpl) ===== -/
theorem ab_64 (x : Int64) : -9223372036854775808 ≤ x.toInt ∧ x.toInt ≤ 9223372036854775807 := ⟨Int64.le_toInt x, Int.le_of_lt_add_one (Int64.toInt_lt x)⟩
theorem ab_bm64 {n : Int} (h1 : -9223372036854775808 ≤ n) (h2 : n ≤ 9223372036854775807) : n.bmod (2 ^ 64) = n := by
  rw [Int.bmod_def]
  omega
theorem ab_lrem {x y : Int64} (hx : 0 ≤ x.toInt) (hy : 1 ≤ y.toInt) : 0 ≤ (x - x / y * y).toInt ∧ (x - x / y * y).toInt ≤ y.toInt - 1 := by
  have e1 : (x - x / y * y).toInt = (x.toInt - x.toInt.tdiv y.toInt * y.toInt).bmod (2 ^ 64) := by
    rw [Int64.toInt_sub, Int64.toInt_mul, Int64.toInt_div, Int.sub_bmod_bmod]
    rw [← Int.sub_bmod_bmod, Int.bmod_mul_bmod, Int.sub_bmod_bmod]
  have e2 : x.toInt - x.toInt.tdiv y.toInt * y.toInt = x.toInt.tmod y.toInt := by
    rw [Int.tmod_def, Int.mul_comm]
  have e3 : x.toInt.tmod y.toInt = x.toInt % y.toInt := Int.tmod_eq_emod_of_nonneg hx
  have h1 := Int.emod_nonneg x.toInt (show y.toInt ≠ 0 by omega)
  have h2 := Int.emod_lt_of_pos x.toInt (show 0 < y.toInt by omega)
  have hb := ab_64 y
  rw [e1, e2, e3, ab_bm64 (by omega) (by omega)]
  omega
theorem ab_ldiv {x y : Int64} (hx : 0 ≤ x.toInt) (hy : 1 ≤ y.toInt) : 0 ≤ (x / y).toInt := by
  rw [Int64.toInt_div, Int.tdiv_eq_ediv_of_nonneg hx]
  have h1 := Int.ediv_nonneg hx (show 0 ≤ y.toInt by omega)
  have h2 := Int.ediv_le_self y.toInt hx
  have hb := ab_64 x
  rw [ab_bm64 (by omega) (by omega)]
  exact h1
theorem ab_land {x : Int64} : 0 ≤ (x &&& 2147483647).toInt ∧ (x &&& 2147483647).toInt ≤ 2147483647 := by
  have h1 : (x &&& 2147483647).toBitVec.toNat ≤ 2147483647 := by
    rw [Int64.toBitVec_and, BitVec.toNat_and]
    exact Nat.and_le_right
  have h2 : (x &&& 2147483647).toInt = (x &&& 2147483647).toBitVec.toInt := rfl
  rw [h2, BitVec.toInt_eq_toNat_of_lt (by omega)]
  omega
/-- a drawn number -/
theorem ab_number1 {h : am_H} {n : Int32} (hI : ab_Inv (ab_hi ab_tab) h) (n1 : 1 ≤ n.toInt) : am_Ek false am_G0 am_m148 0 (lv_args 0 [.ref 164, .int n]) [] am_ks0 h 0 0 (fun r ks h' => ks = am_ks0 ∧ ∃ (g : Int32) (d : Int64), r = some (.int g) ∧ h' = am_up h 164 59 (.long d) ∧ 0 ≤ g.toInt ∧ g.toInt < n.toInt) := by
  have o1 : am_ks0[164]? = some (.inl 12) := by decide +kernel
  have z : ab_sz (.inl 12) = 81 := rfl
  have gd := hI 164 59 _ o1 (by rw [z]; decide)
  rw [show ab_hi ab_tab 164 59 = (1, 0, 0, []) by decide +kernel] at gd
  obtain ⟨x, ex⟩ := gd
  refine am_e_aload_n (am_nxt_of (i := (0, 1, .aload_n 0, (0, 0, 0), 0)) (by decide +kernel)) (v := 164) rfl ?_
  refine am_e_aload_n (am_nxt_of (i := (1, 1, .aload_n 0, (0, 0, 0), 0)) (by decide +kernel)) (v := 164) rfl ?_
  refine am_e_getf (am_nxt_of (i := (2, 3, .getfield 358, (12, 59, 1443), 0)) (by decide +kernel)) o1 ex ?_
  refine am_e_ldc2 (am_nxt_of (i := (5, 3, .ldc2_w 377, (0, 0, 1380), 1103515245)) (by decide +kernel)) rfl ?_
  refine am_e_lmul (am_nxt_of (i := (8, 1, .lmul, (0, 0, 0), 0)) (by decide +kernel)) rfl ?_
  refine am_e_ldc2 (am_nxt_of (i := (9, 3, .ldc2_w 379, (0, 0, 1381), 12345)) (by decide +kernel)) rfl ?_
  refine am_e_ladd (am_nxt_of (i := (12, 1, .ladd, (0, 0, 0), 0)) (by decide +kernel)) rfl ?_
  refine am_e_ldc2 (w := 2147483647) (am_nxt_of (i := (13, 3, .ldc2_w 381, (0, 0, 1382), 2147483647)) (by decide +kernel)) (by decide) ?_
  refine am_e_land (am_nxt_of (i := (16, 1, .land, (0, 0, 0), 0)) (by decide +kernel)) rfl ?_
  refine am_e_putf (am_nxt_of (i := (17, 3, .putfield 358, (12, 59, 1443), 0)) (by decide +kernel)) o1 rfl ?_
  generalize x * Int64.ofInt 1103515245 + Int64.ofInt 12345 = y
  refine am_e_aload_n (am_nxt_of (i := (20, 1, .aload_n 0, (0, 0, 0), 0)) (by decide +kernel)) (v := 164) rfl ?_
  refine am_e_getf (am_nxt_of (i := (21, 3, .getfield 358, (12, 59, 1443), 0)) (by decide +kernel)) o1 (am_up_self _ _ _ _) ?_
  refine am_e_ldc2 (w := 65536) (am_nxt_of (i := (24, 3, .ldc2_w 383, (0, 0, 1383), 65536)) (by decide +kernel)) (by decide) ?_
  refine am_e_ldiv (am_nxt_of (i := (27, 1, .ldiv, (0, 0, 0), 0)) (by decide +kernel)) (by decide) rfl ?_
  refine am_e_iload_n (am_nxt_of (i := (28, 1, .iload_n 1, (0, 0, 0), 0)) (by decide +kernel)) (v := n) rfl ?_
  refine am_e_i2l (am_nxt_of (i := (29, 1, .i2l, (0, 0, 0), 0)) (by decide +kernel)) rfl ?_
  have e6 : (65536 : Int64).toInt = 65536 := by decide
  have hl : (n.toInt64).toInt = n.toInt := Int32.toInt_toInt64 n
  have hn0 : ¬ n.toInt64 = 0 := by
    intro e
    rw [e, show (0 : Int64).toInt = 0 by decide] at hl
    omega
  have hd := ab_ldiv (x := y &&& 2147483647) (y := 65536) ab_land.1 (by rw [e6]; decide)
  have hr := ab_lrem (x := (y &&& 2147483647) / 65536) (y := n.toInt64) hd (by omega)
  refine am_e_lrem (am_nxt_of (i := (30, 1, .lrem, (0, 0, 0), 0)) (by decide +kernel)) hn0 rfl ?_
  refine am_e_l2i (am_nxt_of (i := (31, 1, .l2i, (0, 0, 0), 0)) (by decide +kernel)) rfl ?_
  generalize (y &&& 2147483647) / 65536 - (y &&& 2147483647) / 65536 / n.toInt64 * n.toInt64 = w at hr ⊢
  have hb := ab_32 n
  have hw : w.toInt32.toInt = w.toInt := by
    rw [Int64.toInt_toInt32, Int.bmod_def]
    omega
  exact am_e_iret (ty := .int) (am_cur_of (i := (32, 1, .ireturn, (0, 0, 0), 0)) (by decide +kernel)) rfl rfl rfl ⟨rfl, w.toInt32, _, rfl, rfl, by omega, by omega⟩
