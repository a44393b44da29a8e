/-! ===== THE SIGNS THAT WAIT, of both readers (wip/r/gen99qo.py) ===== -/
/-- a sign of the class and of the model -/
def rs_o (a b : Int32) : Prop := (a = 2 ∧ b = 0) ∨ (a = 3 ∧ b = 4) ∨ (a = 4 ∧ b = 3) ∨ (a = 5 ∧ b = 2) ∨ (a = 6 ∧ b = 5) ∨ (a = 7 ∧ b = 6) ∨ (a = 8 ∧ b = 7) ∨ (a = 9 ∧ b = 8) ∨ (a = 10 ∧ b = 9) ∨ (a = 11 ∧ b = 10) ∨ (a = 12 ∧ b = 11) ∨ (a = 13 ∧ b = 12) ∨ (a = 14 ∧ b = 13) ∨ (a = 15 ∧ b = 14)
def rk_C (a : Int32) : Int32 := if a.toInt ≤ 5 then a else if a.toInt ≤ 11 then 6 else if a.toInt ≤ 13 then 12 else 14
def rk_M (b : Int32) : Int32 := if 13 ≤ b.toInt then 6 else if 11 ≤ b.toInt then 5 else if 5 ≤ b.toInt then 4 else if b = 2 then 3 else if b = 3 then 2 else if b = 4 then 1 else 0
/-- what binds as much at least, told of both -/
def rs_l (op least : Int32) : Prop := ∀ a b, rs_o a b → ((rk_C op).toInt ≤ (rk_C a).toInt ↔ least.toInt ≤ (rk_M b).toInt)
def rs_L : List (Int32 × Int32) := [(2, 0), (3, 4), (4, 3), (5, 2), (6, 5), (7, 6), (8, 7), (9, 8), (10, 9), (11, 10), (12, 11), (13, 12), (14, 13), (15, 14)]
theorem rs_oL {a b : Int32} (h : rs_o a b) : (a, b) ∈ rs_L := by
  rcases h with ⟨rfl, rfl⟩ | ⟨rfl, rfl⟩ | ⟨rfl, rfl⟩ | ⟨rfl, rfl⟩ | ⟨rfl, rfl⟩ | ⟨rfl, rfl⟩ | ⟨rfl, rfl⟩ | ⟨rfl, rfl⟩ | ⟨rfl, rfl⟩ | ⟨rfl, rfl⟩ | ⟨rfl, rfl⟩ | ⟨rfl, rfl⟩ | ⟨rfl, rfl⟩ | ⟨rfl, rfl⟩ <;> decide
theorem rs_l3 : rs_l 3 1 := fun a b h => (by decide : ∀ q ∈ rs_L, ((rk_C 3).toInt ≤ (rk_C q.1).toInt ↔ (1 : Int32).toInt ≤ (rk_M q.2).toInt)) (a, b) (rs_oL h)
theorem rs_l12 : rs_l 12 5 := fun a b h => (by decide : ∀ q ∈ rs_L, ((rk_C 12).toInt ≤ (rk_C q.1).toInt ↔ (5 : Int32).toInt ≤ (rk_M q.2).toInt)) (a, b) (rs_oL h)
theorem rs_lo {c k : Int32} (hk_z : rs_o c k) : rs_l c (rk_M k) := fun a b h => (by decide +kernel : ∀ w ∈ rs_L, ∀ q ∈ rs_L, ((rk_C w.1).toInt ≤ (rk_C q.1).toInt ↔ (rk_M w.2).toInt ≤ (rk_M q.2).toInt)) (c, k) (rs_oL hk_z) (a, b) (rs_oL h)
theorem rs_rankC {n : Nat} {h h' : am_H} {r : Option Value} {a : Int32} (hc_z : rn n am_m47 0 (lv_args 0 [.int a]) [] h r h') : r = some (.int (rk_C a)) ∧ h' = h := by
  have z5_z : (5 : Int32).toInt = 5 := by decide
  have z11_z : (11 : Int32).toInt = 11 := by decide
  have z13_z : (13 : Int32).toInt = 13 := by decide
  have g0_z : am_get (lv_args 0 [.int a]) 0 = some (.int a) := rfl
  replace hc_z := rn_iload_n (am_cur_of (i := (0, 1, .iload_n 0, (0, 0, 0), 0)) (by decide +kernel)) g0_z hc_z
  replace hc_z := rn_iconst (w := 5) (am_cur_of (i := (1, 1, .iconst 5, (0, 0, 0), 0)) (by decide +kernel)) (by decide) hc_z
  replace hc_z := rn_cmp (am_cur_of (i := (2, 3, .if_icmp .gt 5, (5, 0, 0), 0)) (by decide +kernel)) hc_z
  rcases hc_z with ⟨b94_z, hc_z⟩ | ⟨b94_z, hc_z⟩
  · replace b94_z : (5 : Int32).toInt < a.toInt := b94_z
    replace hc_z := rn_iload_n (am_cur_of (i := (7, 1, .iload_n 0, (0, 0, 0), 0)) (by decide +kernel)) g0_z hc_z
    replace hc_z := rn_bipush (w := 11) (am_cur_of (i := (8, 2, .bipush 11, (0, 0, 0), 0)) (by decide +kernel)) (by decide) hc_z
    replace hc_z := rn_cmp (am_cur_of (i := (10, 3, .if_icmp .gt 6, (10, 0, 0), 0)) (by decide +kernel)) hc_z
    rcases hc_z with ⟨b95_z, hc_z⟩ | ⟨b95_z, hc_z⟩
    · replace b95_z : (11 : Int32).toInt < a.toInt := b95_z
      replace hc_z := rn_iload_n (am_cur_of (i := (16, 1, .iload_n 0, (0, 0, 0), 0)) (by decide +kernel)) g0_z hc_z
      replace hc_z := rn_bipush (w := 13) (am_cur_of (i := (17, 2, .bipush 13, (0, 0, 0), 0)) (by decide +kernel)) (by decide) hc_z
      replace hc_z := rn_cmp (am_cur_of (i := (19, 3, .if_icmp .gt 8, (15, 0, 0), 0)) (by decide +kernel)) hc_z
      rcases hc_z with ⟨b96_z, hc_z⟩ | ⟨b96_z, hc_z⟩
      · replace b96_z : (13 : Int32).toInt < a.toInt := b96_z
        replace hc_z := rn_bipush (w := 14) (am_cur_of (i := (27, 2, .bipush 14, (0, 0, 0), 0)) (by decide +kernel)) (by decide) hc_z
        replace hc_z := rn_iret (am_cur_of (i := (29, 1, .ireturn, (0, 0, 0), 0)) (by decide +kernel)) hc_z
        obtain ⟨e97_z, e98_z⟩ := hc_z
        refine ⟨?_, e98_z⟩
        rw [e97_z]
        unfold rk_C
        first | rw [if_pos (by omega)] | rw [if_neg (by omega)] | rw [if_pos b94_z.1] | rw [if_neg b94_z.1]
        first | rw [if_pos (by omega)] | rw [if_neg (by omega)] | rw [if_pos b95_z.1] | rw [if_neg b95_z.1]
        first | rw [if_pos (by omega)] | rw [if_neg (by omega)] | rw [if_pos b96_z.1] | rw [if_neg b96_z.1]
      · replace b96_z : a.toInt ≤ (13 : Int32).toInt := b96_z
        replace hc_z := rn_bipush (w := 12) (am_cur_of (i := (22, 2, .bipush 12, (0, 0, 0), 0)) (by decide +kernel)) (by decide) hc_z
        replace hc_z := rn_goto (am_cur_of (i := (24, 3, .goto 5, (16, 0, 0), 0)) (by decide +kernel)) hc_z
        replace hc_z := rn_iret (am_cur_of (i := (29, 1, .ireturn, (0, 0, 0), 0)) (by decide +kernel)) hc_z
        obtain ⟨e99_z, e100_z⟩ := hc_z
        refine ⟨?_, e100_z⟩
        rw [e99_z]
        unfold rk_C
        first | rw [if_pos (by omega)] | rw [if_neg (by omega)] | rw [if_pos b94_z.1] | rw [if_neg b94_z.1]
        first | rw [if_pos (by omega)] | rw [if_neg (by omega)] | rw [if_pos b95_z.1] | rw [if_neg b95_z.1]
        first | rw [if_pos (by omega)] | rw [if_neg (by omega)] | rw [if_pos b96_z.1] | rw [if_neg b96_z.1]
    · replace b95_z : a.toInt ≤ (11 : Int32).toInt := b95_z
      replace hc_z := rn_bipush (w := 6) (am_cur_of (i := (13, 2, .bipush 6, (0, 0, 0), 0)) (by decide +kernel)) (by decide) hc_z
      replace hc_z := rn_iret (am_cur_of (i := (15, 1, .ireturn, (0, 0, 0), 0)) (by decide +kernel)) hc_z
      obtain ⟨e101_z, e102_z⟩ := hc_z
      refine ⟨?_, e102_z⟩
      rw [e101_z]
      unfold rk_C
      first | rw [if_pos (by omega)] | rw [if_neg (by omega)] | rw [if_pos b94_z.1] | rw [if_neg b94_z.1]
      first | rw [if_pos (by omega)] | rw [if_neg (by omega)] | rw [if_pos b95_z.1] | rw [if_neg b95_z.1]
  · replace b94_z : a.toInt ≤ (5 : Int32).toInt := b94_z
    replace hc_z := rn_iload_n (am_cur_of (i := (5, 1, .iload_n 0, (0, 0, 0), 0)) (by decide +kernel)) g0_z hc_z
    replace hc_z := rn_iret (am_cur_of (i := (6, 1, .ireturn, (0, 0, 0), 0)) (by decide +kernel)) hc_z
    obtain ⟨e103_z, e104_z⟩ := hc_z
    refine ⟨?_, e104_z⟩
    rw [e103_z]
    unfold rk_C
    first | rw [if_pos (by omega)] | rw [if_neg (by omega)] | rw [if_pos b94_z.1] | rw [if_neg b94_z.1]
theorem rs_rankM {n : Nat} {h h' : am_H} {r : Option Value} {a : Int32} (hc_z : rn n am_m180 0 (lv_args 0 [.int a]) [] h r h') : r = some (.int (rk_M a)) ∧ h' = h := by
  have z2_z : (2 : Int32).toInt = 2 := by decide
  have z3_z : (3 : Int32).toInt = 3 := by decide
  have z4_z : (4 : Int32).toInt = 4 := by decide
  have z5_z : (5 : Int32).toInt = 5 := by decide
  have z11_z : (11 : Int32).toInt = 11 := by decide
  have z13_z : (13 : Int32).toInt = 13 := by decide
  have g0_z : am_get (lv_args 0 [.int a]) 0 = some (.int a) := rfl
  replace hc_z := rn_iload_n (am_cur_of (i := (0, 1, .iload_n 0, (0, 0, 0), 0)) (by decide +kernel)) g0_z hc_z
  replace hc_z := rn_bipush (w := 13) (am_cur_of (i := (1, 2, .bipush 13, (0, 0, 0), 0)) (by decide +kernel)) (by decide) hc_z
  replace hc_z := rn_cmp (am_cur_of (i := (3, 3, .if_icmp .lt 8, (5, 0, 0), 0)) (by decide +kernel)) hc_z
  rcases hc_z with ⟨b105_z, hc_z⟩ | ⟨b105_z, hc_z⟩
  · replace b105_z : a.toInt < (13 : Int32).toInt := b105_z
    replace hc_z := rn_iload_n (am_cur_of (i := (11, 1, .iload_n 0, (0, 0, 0), 0)) (by decide +kernel)) g0_z hc_z
    replace hc_z := rn_bipush (w := 11) (am_cur_of (i := (12, 2, .bipush 11, (0, 0, 0), 0)) (by decide +kernel)) (by decide) hc_z
    replace hc_z := rn_cmp (am_cur_of (i := (14, 3, .if_icmp .lt 7, (10, 0, 0), 0)) (by decide +kernel)) hc_z
    rcases hc_z with ⟨b106_z, hc_z⟩ | ⟨b106_z, hc_z⟩
    · replace b106_z : a.toInt < (11 : Int32).toInt := b106_z
      replace hc_z := rn_iload_n (am_cur_of (i := (21, 1, .iload_n 0, (0, 0, 0), 0)) (by decide +kernel)) g0_z hc_z
      replace hc_z := rn_iconst (w := 5) (am_cur_of (i := (22, 1, .iconst 5, (0, 0, 0), 0)) (by decide +kernel)) (by decide) hc_z
      replace hc_z := rn_cmp (am_cur_of (i := (23, 3, .if_icmp .lt 7, (15, 0, 0), 0)) (by decide +kernel)) hc_z
      rcases hc_z with ⟨b107_z, hc_z⟩ | ⟨b107_z, hc_z⟩
      · replace b107_z : a.toInt < (5 : Int32).toInt := b107_z
        replace hc_z := rn_iload_n (am_cur_of (i := (30, 1, .iload_n 0, (0, 0, 0), 0)) (by decide +kernel)) g0_z hc_z
        replace hc_z := rn_iconst (w := 2) (am_cur_of (i := (31, 1, .iconst 2, (0, 0, 0), 0)) (by decide +kernel)) (by decide) hc_z
        replace hc_z := rn_cmp (am_cur_of (i := (32, 3, .if_icmp .ne 7, (20, 0, 0), 0)) (by decide +kernel)) hc_z
        rcases hc_z with ⟨b108_z, hc_z⟩ | ⟨b108_z, hc_z⟩
        · replace b108_z : ¬ a = (2 : Int32) ∧ ¬ a.toInt = (2 : Int32).toInt := b108_z
          replace hc_z := rn_iload_n (am_cur_of (i := (39, 1, .iload_n 0, (0, 0, 0), 0)) (by decide +kernel)) g0_z hc_z
          replace hc_z := rn_iconst (w := 3) (am_cur_of (i := (40, 1, .iconst 3, (0, 0, 0), 0)) (by decide +kernel)) (by decide) hc_z
          replace hc_z := rn_cmp (am_cur_of (i := (41, 3, .if_icmp .ne 7, (25, 0, 0), 0)) (by decide +kernel)) hc_z
          rcases hc_z with ⟨b109_z, hc_z⟩ | ⟨b109_z, hc_z⟩
          · replace b109_z : ¬ a = (3 : Int32) ∧ ¬ a.toInt = (3 : Int32).toInt := b109_z
            replace hc_z := rn_iload_n (am_cur_of (i := (48, 1, .iload_n 0, (0, 0, 0), 0)) (by decide +kernel)) g0_z hc_z
            replace hc_z := rn_iconst (w := 4) (am_cur_of (i := (49, 1, .iconst 4, (0, 0, 0), 0)) (by decide +kernel)) (by decide) hc_z
            replace hc_z := rn_cmp (am_cur_of (i := (50, 3, .if_icmp .ne 7, (30, 0, 0), 0)) (by decide +kernel)) hc_z
            rcases hc_z with ⟨b110_z, hc_z⟩ | ⟨b110_z, hc_z⟩
            · replace b110_z : ¬ a = (4 : Int32) ∧ ¬ a.toInt = (4 : Int32).toInt := b110_z
              replace hc_z := rn_iconst (w := 0) (am_cur_of (i := (57, 1, .iconst 0, (0, 0, 0), 0)) (by decide +kernel)) (by decide) hc_z
              replace hc_z := rn_iret (am_cur_of (i := (58, 1, .ireturn, (0, 0, 0), 0)) (by decide +kernel)) hc_z
              obtain ⟨e111_z, e112_z⟩ := hc_z
              refine ⟨?_, e112_z⟩
              rw [e111_z]
              unfold rk_M
              first | rw [if_pos (by omega)] | rw [if_neg (by omega)] | rw [if_pos b105_z.1] | rw [if_neg b105_z.1]
              first | rw [if_pos (by omega)] | rw [if_neg (by omega)] | rw [if_pos b106_z.1] | rw [if_neg b106_z.1]
              first | rw [if_pos (by omega)] | rw [if_neg (by omega)] | rw [if_pos b107_z.1] | rw [if_neg b107_z.1]
              first | rw [if_pos (by omega)] | rw [if_neg (by omega)] | rw [if_pos b108_z.1] | rw [if_neg b108_z.1]
              first | rw [if_pos (by omega)] | rw [if_neg (by omega)] | rw [if_pos b109_z.1] | rw [if_neg b109_z.1]
              first | rw [if_pos (by omega)] | rw [if_neg (by omega)] | rw [if_pos b110_z.1] | rw [if_neg b110_z.1]
            · replace b110_z : a = (4 : Int32) ∧ a.toInt = (4 : Int32).toInt := b110_z
              replace hc_z := rn_iconst (w := 1) (am_cur_of (i := (53, 1, .iconst 1, (0, 0, 0), 0)) (by decide +kernel)) (by decide) hc_z
              replace hc_z := rn_goto (am_cur_of (i := (54, 3, .goto 4, (31, 0, 0), 0)) (by decide +kernel)) hc_z
              replace hc_z := rn_iret (am_cur_of (i := (58, 1, .ireturn, (0, 0, 0), 0)) (by decide +kernel)) hc_z
              obtain ⟨e113_z, e114_z⟩ := hc_z
              refine ⟨?_, e114_z⟩
              rw [e113_z]
              unfold rk_M
              first | rw [if_pos (by omega)] | rw [if_neg (by omega)] | rw [if_pos b105_z.1] | rw [if_neg b105_z.1]
              first | rw [if_pos (by omega)] | rw [if_neg (by omega)] | rw [if_pos b106_z.1] | rw [if_neg b106_z.1]
              first | rw [if_pos (by omega)] | rw [if_neg (by omega)] | rw [if_pos b107_z.1] | rw [if_neg b107_z.1]
              first | rw [if_pos (by omega)] | rw [if_neg (by omega)] | rw [if_pos b108_z.1] | rw [if_neg b108_z.1]
              first | rw [if_pos (by omega)] | rw [if_neg (by omega)] | rw [if_pos b109_z.1] | rw [if_neg b109_z.1]
              first | rw [if_pos (by omega)] | rw [if_neg (by omega)] | rw [if_pos b110_z.1] | rw [if_neg b110_z.1]
          · replace b109_z : a = (3 : Int32) ∧ a.toInt = (3 : Int32).toInt := b109_z
            replace hc_z := rn_iconst (w := 2) (am_cur_of (i := (44, 1, .iconst 2, (0, 0, 0), 0)) (by decide +kernel)) (by decide) hc_z
            replace hc_z := rn_goto (am_cur_of (i := (45, 3, .goto 13, (31, 0, 0), 0)) (by decide +kernel)) hc_z
            replace hc_z := rn_iret (am_cur_of (i := (58, 1, .ireturn, (0, 0, 0), 0)) (by decide +kernel)) hc_z
            obtain ⟨e115_z, e116_z⟩ := hc_z
            refine ⟨?_, e116_z⟩
            rw [e115_z]
            unfold rk_M
            first | rw [if_pos (by omega)] | rw [if_neg (by omega)] | rw [if_pos b105_z.1] | rw [if_neg b105_z.1]
            first | rw [if_pos (by omega)] | rw [if_neg (by omega)] | rw [if_pos b106_z.1] | rw [if_neg b106_z.1]
            first | rw [if_pos (by omega)] | rw [if_neg (by omega)] | rw [if_pos b107_z.1] | rw [if_neg b107_z.1]
            first | rw [if_pos (by omega)] | rw [if_neg (by omega)] | rw [if_pos b108_z.1] | rw [if_neg b108_z.1]
            first | rw [if_pos (by omega)] | rw [if_neg (by omega)] | rw [if_pos b109_z.1] | rw [if_neg b109_z.1]
        · replace b108_z : a = (2 : Int32) ∧ a.toInt = (2 : Int32).toInt := b108_z
          replace hc_z := rn_iconst (w := 3) (am_cur_of (i := (35, 1, .iconst 3, (0, 0, 0), 0)) (by decide +kernel)) (by decide) hc_z
          replace hc_z := rn_goto (am_cur_of (i := (36, 3, .goto 22, (31, 0, 0), 0)) (by decide +kernel)) hc_z
          replace hc_z := rn_iret (am_cur_of (i := (58, 1, .ireturn, (0, 0, 0), 0)) (by decide +kernel)) hc_z
          obtain ⟨e117_z, e118_z⟩ := hc_z
          refine ⟨?_, e118_z⟩
          rw [e117_z]
          unfold rk_M
          first | rw [if_pos (by omega)] | rw [if_neg (by omega)] | rw [if_pos b105_z.1] | rw [if_neg b105_z.1]
          first | rw [if_pos (by omega)] | rw [if_neg (by omega)] | rw [if_pos b106_z.1] | rw [if_neg b106_z.1]
          first | rw [if_pos (by omega)] | rw [if_neg (by omega)] | rw [if_pos b107_z.1] | rw [if_neg b107_z.1]
          first | rw [if_pos (by omega)] | rw [if_neg (by omega)] | rw [if_pos b108_z.1] | rw [if_neg b108_z.1]
      · replace b107_z : (5 : Int32).toInt ≤ a.toInt := b107_z
        replace hc_z := rn_iconst (w := 4) (am_cur_of (i := (26, 1, .iconst 4, (0, 0, 0), 0)) (by decide +kernel)) (by decide) hc_z
        replace hc_z := rn_goto (am_cur_of (i := (27, 3, .goto 31, (31, 0, 0), 0)) (by decide +kernel)) hc_z
        replace hc_z := rn_iret (am_cur_of (i := (58, 1, .ireturn, (0, 0, 0), 0)) (by decide +kernel)) hc_z
        obtain ⟨e119_z, e120_z⟩ := hc_z
        refine ⟨?_, e120_z⟩
        rw [e119_z]
        unfold rk_M
        first | rw [if_pos (by omega)] | rw [if_neg (by omega)] | rw [if_pos b105_z.1] | rw [if_neg b105_z.1]
        first | rw [if_pos (by omega)] | rw [if_neg (by omega)] | rw [if_pos b106_z.1] | rw [if_neg b106_z.1]
        first | rw [if_pos (by omega)] | rw [if_neg (by omega)] | rw [if_pos b107_z.1] | rw [if_neg b107_z.1]
    · replace b106_z : (11 : Int32).toInt ≤ a.toInt := b106_z
      replace hc_z := rn_iconst (w := 5) (am_cur_of (i := (17, 1, .iconst 5, (0, 0, 0), 0)) (by decide +kernel)) (by decide) hc_z
      replace hc_z := rn_goto (am_cur_of (i := (18, 3, .goto 40, (31, 0, 0), 0)) (by decide +kernel)) hc_z
      replace hc_z := rn_iret (am_cur_of (i := (58, 1, .ireturn, (0, 0, 0), 0)) (by decide +kernel)) hc_z
      obtain ⟨e121_z, e122_z⟩ := hc_z
      refine ⟨?_, e122_z⟩
      rw [e121_z]
      unfold rk_M
      first | rw [if_pos (by omega)] | rw [if_neg (by omega)] | rw [if_pos b105_z.1] | rw [if_neg b105_z.1]
      first | rw [if_pos (by omega)] | rw [if_neg (by omega)] | rw [if_pos b106_z.1] | rw [if_neg b106_z.1]
  · replace b105_z : (13 : Int32).toInt ≤ a.toInt := b105_z
    replace hc_z := rn_bipush (w := 6) (am_cur_of (i := (6, 2, .bipush 6, (0, 0, 0), 0)) (by decide +kernel)) (by decide) hc_z
    replace hc_z := rn_goto (am_cur_of (i := (8, 3, .goto 50, (31, 0, 0), 0)) (by decide +kernel)) hc_z
    replace hc_z := rn_iret (am_cur_of (i := (58, 1, .ireturn, (0, 0, 0), 0)) (by decide +kernel)) hc_z
    obtain ⟨e123_z, e124_z⟩ := hc_z
    refine ⟨?_, e124_z⟩
    rw [e123_z]
    unfold rk_M
    first | rw [if_pos (by omega)] | rw [if_neg (by omega)] | rw [if_pos b105_z.1] | rw [if_neg b105_z.1]
abbrev rs_mP2 : List (Nat × Nat) := [(11, 2), (12, 0), (13, 0)]
abbrev rs_mS2 : List (Nat × Nat) := [(44, 14), (11, 2), (12, 0), (13, 0)]
theorem rs_put2 {n : Nat} {h h' : am_H} {r : Option Value} {op v : Int32} (hc_z : rn n am_m48 0 (lv_args 0 [.ref 11, .int op, .int v]) [] h r h') : r = none ∧ ab_Fr rs_mP2 h h' := by
  have z64_z : (64 : Int32).toInt = 64 := by decide
  have g0_z : am_get (lv_args 0 [.ref 11, .int op, .int v]) 0 = some (.ref 11) := rfl
  have g1_z : am_get (lv_args 0 [.ref 11, .int op, .int v]) 1 = some (.int op) := rfl
  have g2_z : am_get (lv_args 0 [.ref 11, .int op, .int v]) 2 = some (.int v) := rfl
  replace hc_z := rn_aload_n (am_cur_of (i := (0, 1, .aload_n 0, (0, 0, 0), 0)) (by decide +kernel)) g0_z hc_z
  replace hc_z := rn_getI (v := rg_v h 11 1) (am_cur_of (i := (1, 3, .getfield 39, (2, 1, 166), 0)) (by decide +kernel)) (by decide +kernel) rfl hc_z
  replace hc_z := rn_bipush (w := 64) (am_cur_of (i := (4, 2, .bipush 64, (0, 0, 0), 0)) (by decide +kernel)) (by decide) hc_z
  replace hc_z := rn_cmp (am_cur_of (i := (6, 3, .if_icmp .ge 33, (22, 0, 0), 0)) (by decide +kernel)) hc_z
  rcases hc_z with ⟨b125_z, hc_z⟩ | ⟨b125_z, hc_z⟩
  · replace b125_z : (64 : Int32).toInt ≤ (rg_v h 11 1).toInt := b125_z
    replace hc_z := rn_vret (am_cur_of (i := (39, 1, .return_, (0, 0, 0), 0)) (by decide +kernel)) hc_z
    obtain ⟨e126_z, e127_z⟩ := hc_z
    subst e127_z
    exact ⟨e126_z, ab_Fr_refl⟩
  · replace b125_z : (rg_v h 11 1).toInt < (64 : Int32).toInt := b125_z
    replace hc_z := rn_aload_n (am_cur_of (i := (9, 1, .aload_n 0, (0, 0, 0), 0)) (by decide +kernel)) g0_z hc_z
    replace hc_z := rn_getR (x := 12) (am_cur_of (i := (10, 3, .getfield 9, (2, 2, 167), 0)) (by decide +kernel)) (by decide +kernel) hc_z
    replace hc_z := rn_aload_n (am_cur_of (i := (13, 1, .aload_n 0, (0, 0, 0), 0)) (by decide +kernel)) g0_z hc_z
    replace hc_z := rn_getI (v := rg_v h 11 1) (am_cur_of (i := (14, 3, .getfield 39, (2, 1, 166), 0)) (by decide +kernel)) (by decide +kernel) rfl hc_z
    replace hc_z := rn_iload_n (am_cur_of (i := (17, 1, .iload_n 1, (0, 0, 0), 0)) (by decide +kernel)) g1_z hc_z
    replace hc_z := rn_iastore (N := 64) (q := (rg_v h 11 1).toNatClampNeg) (am_cur_of (i := (18, 1, .iastore, (0, 0, 0), 0)) (by decide +kernel)) (by decide +kernel) rfl hc_z
    obtain ⟨p128_z, hc_z⟩ := hc_z
    replace hc_z := rn_aload_n (am_cur_of (i := (19, 1, .aload_n 0, (0, 0, 0), 0)) (by decide +kernel)) g0_z hc_z
    replace hc_z := rn_getR (x := 13) (am_cur_of (i := (20, 3, .getfield 15, (2, 3, 168), 0)) (by decide +kernel)) (by decide +kernel) hc_z
    replace hc_z := rn_aload_n (am_cur_of (i := (23, 1, .aload_n 0, (0, 0, 0), 0)) (by decide +kernel)) g0_z hc_z
    replace hc_z := rn_getI (v := rg_v h 11 1) (am_cur_of (i := (24, 3, .getfield 39, (2, 1, 166), 0)) (by decide +kernel)) (by decide +kernel) (show rg_v (am_up h 12 ((rg_v h 11 1).toNatClampNeg) (.int op)) 11 1 = rg_v h 11 1 from rfl) hc_z
    replace hc_z := rn_iload_n (am_cur_of (i := (27, 1, .iload_n 2, (0, 0, 0), 0)) (by decide +kernel)) g2_z hc_z
    replace hc_z := rn_iastore (N := 64) (q := (rg_v h 11 1).toNatClampNeg) (am_cur_of (i := (28, 1, .iastore, (0, 0, 0), 0)) (by decide +kernel)) (by decide +kernel) rfl hc_z
    obtain ⟨p129_z, hc_z⟩ := hc_z
    replace hc_z := rn_aload_n (am_cur_of (i := (29, 1, .aload_n 0, (0, 0, 0), 0)) (by decide +kernel)) g0_z hc_z
    replace hc_z := rn_dup (am_cur_of (i := (30, 1, .dup, (0, 0, 0), 0)) (by decide +kernel)) hc_z
    replace hc_z := rn_getI (v := rg_v h 11 1) (am_cur_of (i := (31, 3, .getfield 39, (2, 1, 166), 0)) (by decide +kernel)) (by decide +kernel) (show rg_v (am_up (am_up h 12 ((rg_v h 11 1).toNatClampNeg) (.int op)) 13 ((rg_v h 11 1).toNatClampNeg) (.int v)) 11 1 = rg_v h 11 1 from rfl) hc_z
    replace hc_z := rn_iconst (w := 1) (am_cur_of (i := (34, 1, .iconst 1, (0, 0, 0), 0)) (by decide +kernel)) (by decide) hc_z
    replace hc_z := rn_iadd (w := (rg_v h 11 1) + 1) (am_cur_of (i := (35, 1, .iadd, (0, 0, 0), 0)) (by decide +kernel)) rfl hc_z
    replace hc_z := rn_put (am_cur_of (i := (36, 3, .putfield 39, (2, 1, 166), 0)) (by decide +kernel)) (by decide +kernel) hc_z
    replace hc_z := rn_vret (am_cur_of (i := (39, 1, .return_, (0, 0, 0), 0)) (by decide +kernel)) hc_z
    obtain ⟨e130_z, e131_z⟩ := hc_z
    subst e131_z
    exact ⟨e130_z, ab_Fr_up rfl (ab_Fr_up rfl (ab_Fr_up rfl ab_Fr_refl))⟩
abbrev rs_mP23 : List (Nat × Nat) := [(32, 2), (33, 0), (34, 0)]
abbrev rs_mS23 : List (Nat × Nat) := [(44, 14), (32, 2), (33, 0), (34, 0)]
theorem rs_put23 {n : Nat} {h h' : am_H} {r : Option Value} {op v : Int32} (hc_z : rn n am_m48 0 (lv_args 0 [.ref 32, .int op, .int v]) [] h r h') : r = none ∧ ab_Fr rs_mP23 h h' := by
  have z64_z : (64 : Int32).toInt = 64 := by decide
  have g0_z : am_get (lv_args 0 [.ref 32, .int op, .int v]) 0 = some (.ref 32) := rfl
  have g1_z : am_get (lv_args 0 [.ref 32, .int op, .int v]) 1 = some (.int op) := rfl
  have g2_z : am_get (lv_args 0 [.ref 32, .int op, .int v]) 2 = some (.int v) := rfl
  replace hc_z := rn_aload_n (am_cur_of (i := (0, 1, .aload_n 0, (0, 0, 0), 0)) (by decide +kernel)) g0_z hc_z
  replace hc_z := rn_getI (v := rg_v h 32 1) (am_cur_of (i := (1, 3, .getfield 39, (2, 1, 166), 0)) (by decide +kernel)) (by decide +kernel) rfl hc_z
  replace hc_z := rn_bipush (w := 64) (am_cur_of (i := (4, 2, .bipush 64, (0, 0, 0), 0)) (by decide +kernel)) (by decide) hc_z
  replace hc_z := rn_cmp (am_cur_of (i := (6, 3, .if_icmp .ge 33, (22, 0, 0), 0)) (by decide +kernel)) hc_z
  rcases hc_z with ⟨b132_z, hc_z⟩ | ⟨b132_z, hc_z⟩
  · replace b132_z : (64 : Int32).toInt ≤ (rg_v h 32 1).toInt := b132_z
    replace hc_z := rn_vret (am_cur_of (i := (39, 1, .return_, (0, 0, 0), 0)) (by decide +kernel)) hc_z
    obtain ⟨e133_z, e134_z⟩ := hc_z
    subst e134_z
    exact ⟨e133_z, ab_Fr_refl⟩
  · replace b132_z : (rg_v h 32 1).toInt < (64 : Int32).toInt := b132_z
    replace hc_z := rn_aload_n (am_cur_of (i := (9, 1, .aload_n 0, (0, 0, 0), 0)) (by decide +kernel)) g0_z hc_z
    replace hc_z := rn_getR (x := 33) (am_cur_of (i := (10, 3, .getfield 9, (2, 2, 167), 0)) (by decide +kernel)) (by decide +kernel) hc_z
    replace hc_z := rn_aload_n (am_cur_of (i := (13, 1, .aload_n 0, (0, 0, 0), 0)) (by decide +kernel)) g0_z hc_z
    replace hc_z := rn_getI (v := rg_v h 32 1) (am_cur_of (i := (14, 3, .getfield 39, (2, 1, 166), 0)) (by decide +kernel)) (by decide +kernel) rfl hc_z
    replace hc_z := rn_iload_n (am_cur_of (i := (17, 1, .iload_n 1, (0, 0, 0), 0)) (by decide +kernel)) g1_z hc_z
    replace hc_z := rn_iastore (N := 64) (q := (rg_v h 32 1).toNatClampNeg) (am_cur_of (i := (18, 1, .iastore, (0, 0, 0), 0)) (by decide +kernel)) (by decide +kernel) rfl hc_z
    obtain ⟨p135_z, hc_z⟩ := hc_z
    replace hc_z := rn_aload_n (am_cur_of (i := (19, 1, .aload_n 0, (0, 0, 0), 0)) (by decide +kernel)) g0_z hc_z
    replace hc_z := rn_getR (x := 34) (am_cur_of (i := (20, 3, .getfield 15, (2, 3, 168), 0)) (by decide +kernel)) (by decide +kernel) hc_z
    replace hc_z := rn_aload_n (am_cur_of (i := (23, 1, .aload_n 0, (0, 0, 0), 0)) (by decide +kernel)) g0_z hc_z
    replace hc_z := rn_getI (v := rg_v h 32 1) (am_cur_of (i := (24, 3, .getfield 39, (2, 1, 166), 0)) (by decide +kernel)) (by decide +kernel) (show rg_v (am_up h 33 ((rg_v h 32 1).toNatClampNeg) (.int op)) 32 1 = rg_v h 32 1 from rfl) hc_z
    replace hc_z := rn_iload_n (am_cur_of (i := (27, 1, .iload_n 2, (0, 0, 0), 0)) (by decide +kernel)) g2_z hc_z
    replace hc_z := rn_iastore (N := 64) (q := (rg_v h 32 1).toNatClampNeg) (am_cur_of (i := (28, 1, .iastore, (0, 0, 0), 0)) (by decide +kernel)) (by decide +kernel) rfl hc_z
    obtain ⟨p136_z, hc_z⟩ := hc_z
    replace hc_z := rn_aload_n (am_cur_of (i := (29, 1, .aload_n 0, (0, 0, 0), 0)) (by decide +kernel)) g0_z hc_z
    replace hc_z := rn_dup (am_cur_of (i := (30, 1, .dup, (0, 0, 0), 0)) (by decide +kernel)) hc_z
    replace hc_z := rn_getI (v := rg_v h 32 1) (am_cur_of (i := (31, 3, .getfield 39, (2, 1, 166), 0)) (by decide +kernel)) (by decide +kernel) (show rg_v (am_up (am_up h 33 ((rg_v h 32 1).toNatClampNeg) (.int op)) 34 ((rg_v h 32 1).toNatClampNeg) (.int v)) 32 1 = rg_v h 32 1 from rfl) hc_z
    replace hc_z := rn_iconst (w := 1) (am_cur_of (i := (34, 1, .iconst 1, (0, 0, 0), 0)) (by decide +kernel)) (by decide) hc_z
    replace hc_z := rn_iadd (w := (rg_v h 32 1) + 1) (am_cur_of (i := (35, 1, .iadd, (0, 0, 0), 0)) (by decide +kernel)) rfl hc_z
    replace hc_z := rn_put (am_cur_of (i := (36, 3, .putfield 39, (2, 1, 166), 0)) (by decide +kernel)) (by decide +kernel) hc_z
    replace hc_z := rn_vret (am_cur_of (i := (39, 1, .return_, (0, 0, 0), 0)) (by decide +kernel)) hc_z
    obtain ⟨e137_z, e138_z⟩ := hc_z
    subst e138_z
    exact ⟨e137_z, ab_Fr_up rfl (ab_Fr_up rfl (ab_Fr_up rfl ab_Fr_refl))⟩
abbrev rs_mD : List (Nat × Nat) := [(164, 43)]
abbrev rs_mG : List (Nat × Nat) := [(164, 43), (164, 22), (181, 0), (182, 0), (183, 0), (185, 0)]
abbrev rs_mB : List (Nat × Nat) := [(164, 42), (164, 43), (164, 22), (181, 0), (182, 0), (183, 0), (185, 0)]
theorem rs_drop {n : Nat} {h h' : am_H} {r : Option Value} (hc_z : rn n am_m181 0 (lv_args 0 [.ref 164]) [] h r h') : (∃ v : Int32, r = some (.int v)) ∧ ab_Fr rs_mG h h' := by
  have g0_z : am_get (lv_args 0 [.ref 164]) 0 = some (.ref 164) := rfl
  replace hc_z := rn_aload_n (am_cur_of (i := (0, 1, .aload_n 0, (0, 0, 0), 0)) (by decide +kernel)) g0_z hc_z
  replace hc_z := rn_dup (am_cur_of (i := (1, 1, .dup, (0, 0, 0), 0)) (by decide +kernel)) hc_z
  replace hc_z := rn_getI (v := rg_v h 164 42) (am_cur_of (i := (2, 3, .getfield 277, (12, 42, 1426), 0)) (by decide +kernel)) (by decide +kernel) rfl hc_z
  replace hc_z := rn_iconst (w := 1) (am_cur_of (i := (5, 1, .iconst 1, (0, 0, 0), 0)) (by decide +kernel)) (by decide) hc_z
  replace hc_z := rn_isub (w := (rg_v h 164 42) - 1) (am_cur_of (i := (6, 1, .isub, (0, 0, 0), 0)) (by decide +kernel)) rfl hc_z
  replace hc_z := rn_put (am_cur_of (i := (7, 3, .putfield 277, (12, 42, 1426), 0)) (by decide +kernel)) (by decide +kernel) hc_z
  replace hc_z := rn_aload_n (am_cur_of (i := (10, 1, .aload_n 0, (0, 0, 0), 0)) (by decide +kernel)) g0_z hc_z
  replace hc_z := rn_getR (x := 185) (am_cur_of (i := (11, 3, .getfield 75, (12, 40, 1424), 0)) (by decide +kernel)) (by decide +kernel) hc_z
  replace hc_z := rn_aload_n (am_cur_of (i := (14, 1, .aload_n 0, (0, 0, 0), 0)) (by decide +kernel)) g0_z hc_z
  replace hc_z := rn_getI (v := (rg_v h 164 42) - 1) (am_cur_of (i := (15, 3, .getfield 277, (12, 42, 1426), 0)) (by decide +kernel)) (by decide +kernel) (show rg_v (am_up h 164 42 (.int ((rg_v h 164 42) - 1))) 164 42 = (rg_v h 164 42) - 1 from rfl) hc_z
  replace hc_z := rn_iaload (N := 96) (q := ((rg_v h 164 42) - 1).toNatClampNeg) (v := rg_v h 185 (((rg_v h 164 42) - 1).toNatClampNeg)) (am_cur_of (i := (18, 1, .iaload, (0, 0, 0), 0)) (by decide +kernel)) (by decide +kernel) rfl (show rg_v (am_up h 164 42 (.int ((rg_v h 164 42) - 1))) 185 (((rg_v h 164 42) - 1).toNatClampNeg) = rg_v h 185 (((rg_v h 164 42) - 1).toNatClampNeg) from rfl) hc_z
  obtain ⟨p139_z, hc_z⟩ := hc_z
  replace hc_z := rn_iret (am_cur_of (i := (19, 1, .ireturn, (0, 0, 0), 0)) (by decide +kernel)) hc_z
  obtain ⟨e140_z, e141_z⟩ := hc_z
  subst e141_z
  exact ⟨⟨_, e140_z⟩, ab_Fr_up rfl ab_Fr_refl⟩
theorem rs_grown {n : Nat} {h h' : am_H} {r : Option Value} {k a b : Int32} (hc_z : rn n am_m177 0 (lv_args 0 [.ref 164, .int k, .int a, .int b]) [] h r h') : r = none ∧ ab_Fr rs_mG h h' := by
  have g0_z : am_get (lv_args 0 [.ref 164, .int k, .int a, .int b]) 0 = some (.ref 164) := rfl
  have g1_z : am_get (lv_args 0 [.ref 164, .int k, .int a, .int b]) 1 = some (.int k) := rfl
  have g2_z : am_get (lv_args 0 [.ref 164, .int k, .int a, .int b]) 2 = some (.int a) := rfl
  have g3_z : am_get (lv_args 0 [.ref 164, .int k, .int a, .int b]) 3 = some (.int b) := rfl
  replace hc_z := rn_aload_n (am_cur_of (i := (0, 1, .aload_n 0, (0, 0, 0), 0)) (by decide +kernel)) g0_z hc_z
  replace hc_z := rn_getR (x := 181) (am_cur_of (i := (1, 3, .getfield 63, (12, 36, 1420), 0)) (by decide +kernel)) (by decide +kernel) hc_z
  replace hc_z := rn_bipush (w := 64) (am_cur_of (i := (4, 2, .bipush 64, (0, 0, 0), 0)) (by decide +kernel)) (by decide) hc_z
  replace hc_z := rn_aload_n (am_cur_of (i := (6, 1, .aload_n 0, (0, 0, 0), 0)) (by decide +kernel)) g0_z hc_z
  replace hc_z := rn_getI (v := rg_v h 164 21) (am_cur_of (i := (7, 3, .getfield 213, (12, 21, 1405), 0)) (by decide +kernel)) (by decide +kernel) rfl hc_z
  replace hc_z := rn_iadd (w := (64 : Int32) + (rg_v h 164 21)) (am_cur_of (i := (10, 1, .iadd, (0, 0, 0), 0)) (by decide +kernel)) rfl hc_z
  replace hc_z := rn_iload_n (am_cur_of (i := (11, 1, .iload_n 1, (0, 0, 0), 0)) (by decide +kernel)) g1_z hc_z
  replace hc_z := rn_iastore (N := 128) (q := ((64 : Int32) + (rg_v h 164 21)).toNatClampNeg) (am_cur_of (i := (12, 1, .iastore, (0, 0, 0), 0)) (by decide +kernel)) (by decide +kernel) rfl hc_z
  obtain ⟨p142_z, hc_z⟩ := hc_z
  replace hc_z := rn_aload_n (am_cur_of (i := (13, 1, .aload_n 0, (0, 0, 0), 0)) (by decide +kernel)) g0_z hc_z
  replace hc_z := rn_getR (x := 182) (am_cur_of (i := (14, 3, .getfield 66, (12, 37, 1421), 0)) (by decide +kernel)) (by decide +kernel) hc_z
  replace hc_z := rn_bipush (w := 64) (am_cur_of (i := (17, 2, .bipush 64, (0, 0, 0), 0)) (by decide +kernel)) (by decide) hc_z
  replace hc_z := rn_aload_n (am_cur_of (i := (19, 1, .aload_n 0, (0, 0, 0), 0)) (by decide +kernel)) g0_z hc_z
  replace hc_z := rn_getI (v := rg_v h 164 21) (am_cur_of (i := (20, 3, .getfield 213, (12, 21, 1405), 0)) (by decide +kernel)) (by decide +kernel) (show rg_v (am_up h 181 (((64 : Int32) + (rg_v h 164 21)).toNatClampNeg) (.int k)) 164 21 = rg_v h 164 21 from rfl) hc_z
  replace hc_z := rn_iadd (w := (64 : Int32) + (rg_v h 164 21)) (am_cur_of (i := (23, 1, .iadd, (0, 0, 0), 0)) (by decide +kernel)) rfl hc_z
  replace hc_z := rn_iload_n (am_cur_of (i := (24, 1, .iload_n 2, (0, 0, 0), 0)) (by decide +kernel)) g2_z hc_z
  replace hc_z := rn_iastore (N := 128) (q := ((64 : Int32) + (rg_v h 164 21)).toNatClampNeg) (am_cur_of (i := (25, 1, .iastore, (0, 0, 0), 0)) (by decide +kernel)) (by decide +kernel) rfl hc_z
  obtain ⟨p143_z, hc_z⟩ := hc_z
  replace hc_z := rn_aload_n (am_cur_of (i := (26, 1, .aload_n 0, (0, 0, 0), 0)) (by decide +kernel)) g0_z hc_z
  replace hc_z := rn_getR (x := 183) (am_cur_of (i := (27, 3, .getfield 69, (12, 38, 1422), 0)) (by decide +kernel)) (by decide +kernel) hc_z
  replace hc_z := rn_bipush (w := 64) (am_cur_of (i := (30, 2, .bipush 64, (0, 0, 0), 0)) (by decide +kernel)) (by decide) hc_z
  replace hc_z := rn_aload_n (am_cur_of (i := (32, 1, .aload_n 0, (0, 0, 0), 0)) (by decide +kernel)) g0_z hc_z
  replace hc_z := rn_getI (v := rg_v h 164 21) (am_cur_of (i := (33, 3, .getfield 213, (12, 21, 1405), 0)) (by decide +kernel)) (by decide +kernel) (show rg_v (am_up (am_up h 181 (((64 : Int32) + (rg_v h 164 21)).toNatClampNeg) (.int k)) 182 (((64 : Int32) + (rg_v h 164 21)).toNatClampNeg) (.int a)) 164 21 = rg_v h 164 21 from rfl) hc_z
  replace hc_z := rn_iadd (w := (64 : Int32) + (rg_v h 164 21)) (am_cur_of (i := (36, 1, .iadd, (0, 0, 0), 0)) (by decide +kernel)) rfl hc_z
  replace hc_z := rn_iload_n (am_cur_of (i := (37, 1, .iload_n 3, (0, 0, 0), 0)) (by decide +kernel)) g3_z hc_z
  replace hc_z := rn_iastore (N := 128) (q := ((64 : Int32) + (rg_v h 164 21)).toNatClampNeg) (am_cur_of (i := (38, 1, .iastore, (0, 0, 0), 0)) (by decide +kernel)) (by decide +kernel) rfl hc_z
  obtain ⟨p144_z, hc_z⟩ := hc_z
  replace hc_z := rn_aload_n (am_cur_of (i := (39, 1, .aload_n 0, (0, 0, 0), 0)) (by decide +kernel)) g0_z hc_z
  replace hc_z := rn_getR (x := 185) (am_cur_of (i := (40, 3, .getfield 75, (12, 40, 1424), 0)) (by decide +kernel)) (by decide +kernel) hc_z
  replace hc_z := rn_aload_n (am_cur_of (i := (43, 1, .aload_n 0, (0, 0, 0), 0)) (by decide +kernel)) g0_z hc_z
  replace hc_z := rn_getI (v := rg_v h 164 42) (am_cur_of (i := (44, 3, .getfield 277, (12, 42, 1426), 0)) (by decide +kernel)) (by decide +kernel) (show rg_v (am_up (am_up (am_up h 181 (((64 : Int32) + (rg_v h 164 21)).toNatClampNeg) (.int k)) 182 (((64 : Int32) + (rg_v h 164 21)).toNatClampNeg) (.int a)) 183 (((64 : Int32) + (rg_v h 164 21)).toNatClampNeg) (.int b)) 164 42 = rg_v h 164 42 from rfl) hc_z
  replace hc_z := rn_aload_n (am_cur_of (i := (47, 1, .aload_n 0, (0, 0, 0), 0)) (by decide +kernel)) g0_z hc_z
  replace hc_z := rn_getI (v := rg_v h 164 21) (am_cur_of (i := (48, 3, .getfield 213, (12, 21, 1405), 0)) (by decide +kernel)) (by decide +kernel) (show rg_v (am_up (am_up (am_up h 181 (((64 : Int32) + (rg_v h 164 21)).toNatClampNeg) (.int k)) 182 (((64 : Int32) + (rg_v h 164 21)).toNatClampNeg) (.int a)) 183 (((64 : Int32) + (rg_v h 164 21)).toNatClampNeg) (.int b)) 164 21 = rg_v h 164 21 from rfl) hc_z
  replace hc_z := rn_iastore (N := 96) (q := (rg_v h 164 42).toNatClampNeg) (am_cur_of (i := (51, 1, .iastore, (0, 0, 0), 0)) (by decide +kernel)) (by decide +kernel) rfl hc_z
  obtain ⟨p145_z, hc_z⟩ := hc_z
  replace hc_z := rn_aload_n (am_cur_of (i := (52, 1, .aload_n 0, (0, 0, 0), 0)) (by decide +kernel)) g0_z hc_z
  replace hc_z := rn_dup (am_cur_of (i := (53, 1, .dup, (0, 0, 0), 0)) (by decide +kernel)) hc_z
  replace hc_z := rn_getI (v := rg_v h 164 42) (am_cur_of (i := (54, 3, .getfield 277, (12, 42, 1426), 0)) (by decide +kernel)) (by decide +kernel) (show rg_v (am_up (am_up (am_up (am_up h 181 (((64 : Int32) + (rg_v h 164 21)).toNatClampNeg) (.int k)) 182 (((64 : Int32) + (rg_v h 164 21)).toNatClampNeg) (.int a)) 183 (((64 : Int32) + (rg_v h 164 21)).toNatClampNeg) (.int b)) 185 ((rg_v h 164 42).toNatClampNeg) (.int (rg_v h 164 21))) 164 42 = rg_v h 164 42 from rfl) hc_z
  replace hc_z := rn_iconst (w := 1) (am_cur_of (i := (57, 1, .iconst 1, (0, 0, 0), 0)) (by decide +kernel)) (by decide) hc_z
  replace hc_z := rn_iadd (w := (rg_v h 164 42) + 1) (am_cur_of (i := (58, 1, .iadd, (0, 0, 0), 0)) (by decide +kernel)) rfl hc_z
  replace hc_z := rn_put (am_cur_of (i := (59, 3, .putfield 277, (12, 42, 1426), 0)) (by decide +kernel)) (by decide +kernel) hc_z
  replace hc_z := rn_aload_n (am_cur_of (i := (62, 1, .aload_n 0, (0, 0, 0), 0)) (by decide +kernel)) g0_z hc_z
  replace hc_z := rn_dup (am_cur_of (i := (63, 1, .dup, (0, 0, 0), 0)) (by decide +kernel)) hc_z
  replace hc_z := rn_getI (v := rg_v h 164 21) (am_cur_of (i := (64, 3, .getfield 213, (12, 21, 1405), 0)) (by decide +kernel)) (by decide +kernel) (show rg_v (am_up (am_up (am_up (am_up (am_up h 181 (((64 : Int32) + (rg_v h 164 21)).toNatClampNeg) (.int k)) 182 (((64 : Int32) + (rg_v h 164 21)).toNatClampNeg) (.int a)) 183 (((64 : Int32) + (rg_v h 164 21)).toNatClampNeg) (.int b)) 185 ((rg_v h 164 42).toNatClampNeg) (.int (rg_v h 164 21))) 164 42 (.int ((rg_v h 164 42) + 1))) 164 21 = rg_v h 164 21 from rfl) hc_z
  replace hc_z := rn_iconst (w := 1) (am_cur_of (i := (67, 1, .iconst 1, (0, 0, 0), 0)) (by decide +kernel)) (by decide) hc_z
  replace hc_z := rn_iadd (w := (rg_v h 164 21) + 1) (am_cur_of (i := (68, 1, .iadd, (0, 0, 0), 0)) (by decide +kernel)) rfl hc_z
  replace hc_z := rn_put (am_cur_of (i := (69, 3, .putfield 213, (12, 21, 1405), 0)) (by decide +kernel)) (by decide +kernel) hc_z
  replace hc_z := rn_vret (am_cur_of (i := (72, 1, .return_, (0, 0, 0), 0)) (by decide +kernel)) hc_z
  obtain ⟨e146_z, e147_z⟩ := hc_z
  subst e147_z
  exact ⟨e146_z, ab_Fr_up rfl (ab_Fr_up rfl (ab_Fr_up rfl (ab_Fr_up rfl (ab_Fr_up rfl (ab_Fr_up rfl ab_Fr_refl)))))⟩
theorem rs_GB {h h' : am_H} (a : ab_Fr rs_mG h h') : ab_Fr rs_mB h h' := fun o k e => a o k (by
  have e' : ((Nat.beq 164 o && (Nat.beq 42 0 || Nat.beq 42 (k + 1))) || ab_in rs_mG o k) = false := e
  rw [Bool.or_eq_false_iff] at e'
  exact e'.2)
/-- how many brackets stand open among the first n that wait -/
def rs_cnt (g : am_H) : Nat → Nat
  | 0 => 0
  | n + 1 => rs_cnt g n + (if rg_v g 184 n = 0 then 1 else 0)
theorem rs_cnt_fr {g g' : am_H} (e : ∀ k, rg_v g' 184 k = rg_v g 184 k) : ∀ n, rs_cnt g' n = rs_cnt g n
  | 0 => rfl
  | n + 1 => by
    show rs_cnt g' n + (if rg_v g' 184 n = 0 then 1 else 0) = rs_cnt g n + (if rg_v g 184 n = 0 then 1 else 0)
    rw [rs_cnt_fr e n, e n]
theorem rs_set2 {op least : Int32} {r r' : Option Value} {h' g' : am_H} (hl_z : rs_l op least) (l1_z : 1 ≤ least.toInt) : ∀ (n n' : Nat) (np : Int32) (h g : am_H) (ls ls2_z : am_L), rg_v h 44 13 = np → rg_v g 164 41 = np → 0 ≤ np.toInt → (∀ i : Nat, (i : Int) < np.toInt → rs_o (rg_v h 47 i) (rg_v g 184 i)) → h 44 6 = .ref 2 → am_get ls 0 = some (.ref 44) → am_get ls 1 = some (.int op) → am_get ls2_z 0 = some (.ref 164) → am_get ls2_z 1 = some (.int least) → rn n am_m46 0 ls [] h r h' → rn n' am_m179 0 ls2_z [] g r' g' →
    r = none ∧ r' = none ∧ ab_Fr rs_mS2 h h' ∧ ab_Fr rs_mB g g' ∧ ∃ np' : Int32, rg_v h' 44 13 = np' ∧ rg_v g' 164 41 = np' ∧ 0 ≤ np'.toInt ∧ np'.toInt ≤ np.toInt ∧ rs_cnt g np'.toNatClampNeg = rs_cnt g np.toNatClampNeg ∧ (np'.toInt = 0 ∨ (rk_C (rg_v h 47 (np'.toNatClampNeg - 1))).toInt < (rk_C op).toInt) := by
  intro n
  induction n with
  | zero => intro n' np h g ls ls2_z en em n0_z ho er g0_z g1_z g0m g1m hc_z hm_z; exact absurd hc_z rn_0
  | succ n ih_z =>
    intro n' np h g ls ls2_z en em n0_z ho er g0_z g1_z g0m g1m hc_z hm_z
    have z0_z : (0 : Int32).toInt = 0 := by decide
    have z2_z : (2 : Int32).toInt = 2 := by decide
    have cn := rt_cl n0_z
    have z1_z : (1 : Int32).toInt = 1 := by decide
    have n31_z := (ab_32 np).2
    have y1_z := ab_isub (x := np) (y := 1) (by omega) (by omega)
    replace hc_z := rn_aload_n (am_cur_of (i := (0, 1, .aload_n 0, (0, 0, 0), 0)) (by decide +kernel)) g0_z hc_z
    replace hc_z := rn_getI (v := np) (am_cur_of (i := (1, 3, .getfield 251, (4, 13, 422), 0)) (by decide +kernel)) (by decide +kernel) en hc_z
    replace hc_z := rn_if (am_cur_of (i := (4, 3, .ifCond .le 57, (31, 0, 0), 0)) (by decide +kernel)) hc_z
    rcases hc_z with ⟨b148_z, hc_z⟩ | ⟨b148_z, hc_z⟩
    · replace b148_z : np.toInt ≤ (0 : Int32).toInt := b148_z
      replace hc_z := rn_vret (am_cur_of (i := (61, 1, .return_, (0, 0, 0), 0)) (by decide +kernel)) hc_z
      obtain ⟨e149_z, e150_z⟩ := hc_z
      replace hm_z := rn_aload_n (am_cur_of (i := (0, 1, .aload_n 0, (0, 0, 0), 0)) (by decide +kernel)) g0m hm_z
      replace hm_z := rn_getI (v := np) (am_cur_of (i := (1, 3, .getfield 280, (12, 41, 1425), 0)) (by decide +kernel)) (by decide +kernel) em hm_z
      replace hm_z := rn_if (am_cur_of (i := (4, 3, .ifCond .le 72, (42, 0, 0), 0)) (by decide +kernel)) hm_z
      rcases hm_z with ⟨b151_z, hm_z⟩ | ⟨b151_z, hm_z⟩
      · replace b151_z : np.toInt ≤ (0 : Int32).toInt := b151_z
        replace hm_z := rn_vret (am_cur_of (i := (76, 1, .return_, (0, 0, 0), 0)) (by decide +kernel)) hm_z
        obtain ⟨e152_z, e153_z⟩ := hm_z
        subst e149_z e150_z e152_z e153_z
        exact ⟨rfl, rfl, ab_Fr_refl, ab_Fr_refl, np, en, em, n0_z, Int.le_refl _, rfl, Or.inl (by omega)⟩
      · replace b151_z : (0 : Int32).toInt < np.toInt := b151_z
        omega
    · replace b148_z : (0 : Int32).toInt < np.toInt := b148_z
      replace hc_z := rn_aload_n (am_cur_of (i := (7, 1, .aload_n 0, (0, 0, 0), 0)) (by decide +kernel)) g0_z hc_z
      replace hc_z := rn_getR (x := 47) (am_cur_of (i := (8, 3, .getfield 22, (4, 12, 421), 0)) (by decide +kernel)) (by decide +kernel) hc_z
      replace hc_z := rn_aload_n (am_cur_of (i := (11, 1, .aload_n 0, (0, 0, 0), 0)) (by decide +kernel)) g0_z hc_z
      replace hc_z := rn_getI (v := np) (am_cur_of (i := (12, 3, .getfield 251, (4, 13, 422), 0)) (by decide +kernel)) (by decide +kernel) en hc_z
      replace hc_z := rn_iconst (w := 1) (am_cur_of (i := (15, 1, .iconst 1, (0, 0, 0), 0)) (by decide +kernel)) (by decide) hc_z
      replace hc_z := rn_isub (w := np - 1) (am_cur_of (i := (16, 1, .isub, (0, 0, 0), 0)) (by decide +kernel)) rfl hc_z
      replace hc_z := rn_iaload (N := 72) (q := (np - 1).toNatClampNeg) (v := rg_v h 47 (np.toNatClampNeg - 1)) (am_cur_of (i := (17, 1, .iaload, (0, 0, 0), 0)) (by decide +kernel)) (by decide +kernel) rfl (by rw [show (np - 1).toNatClampNeg = np.toNatClampNeg - 1 by have := rt_cl (x := np - 1) (by omega); omega] <;> rfl) hc_z
      obtain ⟨p154_z, hc_z⟩ := hc_z
      replace hc_z := rn_callS (M' := am_m47) (ar := [.int (rg_v h 47 (np.toNatClampNeg - 1))]) (rest := []) (L := lv_args 0 [.int (rg_v h 47 (np.toNatClampNeg - 1))]) (am_cur_of (i := (18, 3, .invokestatic 283, (47, 842, 3), 0)) (by decide +kernel)) rfl rfl rfl rfl hc_z
      obtain ⟨r155_z, h156_z, q157_z, hc_z⟩ := hc_z
      obtain ⟨rfl, yq157_z⟩ := rs_rankC q157_z
      replace yq157_z := yq157_z.symm
      subst yq157_z
      replace hc_z : rn _ _ _ _ [.int (rk_C (rg_v h 47 (np.toNatClampNeg - 1)))] _ _ _ := hc_z
      replace hc_z := rn_iload_n (am_cur_of (i := (21, 1, .iload_n 1, (0, 0, 0), 0)) (by decide +kernel)) g1_z hc_z
      replace hc_z := rn_callS (M' := am_m47) (ar := [.int op]) (rest := [.int (rk_C (rg_v h 47 (np.toNatClampNeg - 1)))]) (L := lv_args 0 [.int op]) (am_cur_of (i := (22, 3, .invokestatic 283, (47, 842, 3), 0)) (by decide +kernel)) rfl rfl rfl rfl hc_z
      obtain ⟨r158_z, h159_z, q160_z, hc_z⟩ := hc_z
      obtain ⟨rfl, yq160_z⟩ := rs_rankC q160_z
      replace yq160_z := yq160_z.symm
      subst yq160_z
      replace hc_z : rn _ _ _ _ [.int (rk_C op), .int (rk_C (rg_v h 47 (np.toNatClampNeg - 1)))] _ _ _ := hc_z
      replace hc_z := rn_cmp (am_cur_of (i := (25, 3, .if_icmp .lt 36, (31, 0, 0), 0)) (by decide +kernel)) hc_z
      rcases hc_z with ⟨b161_z, hc_z⟩ | ⟨b161_z, hc_z⟩
      · replace b161_z : (rk_C (rg_v h 47 (np.toNatClampNeg - 1))).toInt < (rk_C op).toInt := b161_z
        replace hc_z := rn_vret (am_cur_of (i := (61, 1, .return_, (0, 0, 0), 0)) (by decide +kernel)) hc_z
        obtain ⟨e162_z, e163_z⟩ := hc_z
        have ho1_z := hl_z _ _ (ho (np.toNatClampNeg - 1) (by omega))
        replace hm_z := rn_aload_n (am_cur_of (i := (0, 1, .aload_n 0, (0, 0, 0), 0)) (by decide +kernel)) g0m hm_z
        replace hm_z := rn_getI (v := np) (am_cur_of (i := (1, 3, .getfield 280, (12, 41, 1425), 0)) (by decide +kernel)) (by decide +kernel) em hm_z
        replace hm_z := rn_if (am_cur_of (i := (4, 3, .ifCond .le 72, (42, 0, 0), 0)) (by decide +kernel)) hm_z
        rcases hm_z with ⟨b164_z, hm_z⟩ | ⟨b164_z, hm_z⟩
        · replace b164_z : np.toInt ≤ (0 : Int32).toInt := b164_z
          omega
        · replace b164_z : (0 : Int32).toInt < np.toInt := b164_z
          replace hm_z := rn_aload_n (am_cur_of (i := (7, 1, .aload_n 0, (0, 0, 0), 0)) (by decide +kernel)) g0m hm_z
          replace hm_z := rn_getR (x := 184) (am_cur_of (i := (8, 3, .getfield 72, (12, 39, 1423), 0)) (by decide +kernel)) (by decide +kernel) hm_z
          replace hm_z := rn_aload_n (am_cur_of (i := (11, 1, .aload_n 0, (0, 0, 0), 0)) (by decide +kernel)) g0m hm_z
          replace hm_z := rn_getI (v := np) (am_cur_of (i := (12, 3, .getfield 280, (12, 41, 1425), 0)) (by decide +kernel)) (by decide +kernel) em hm_z
          replace hm_z := rn_iconst (w := 1) (am_cur_of (i := (15, 1, .iconst 1, (0, 0, 0), 0)) (by decide +kernel)) (by decide) hm_z
          replace hm_z := rn_isub (w := np - 1) (am_cur_of (i := (16, 1, .isub, (0, 0, 0), 0)) (by decide +kernel)) rfl hm_z
          replace hm_z := rn_iaload (N := 96) (q := (np - 1).toNatClampNeg) (v := rg_v g 184 (np.toNatClampNeg - 1)) (am_cur_of (i := (17, 1, .iaload, (0, 0, 0), 0)) (by decide +kernel)) (by decide +kernel) rfl (by rw [show (np - 1).toNatClampNeg = np.toNatClampNeg - 1 by have := rt_cl (x := np - 1) (by omega); omega] <;> rfl) hm_z
          obtain ⟨p165_z, hm_z⟩ := hm_z
          replace hm_z := rn_callS (M' := am_m180) (ar := [.int (rg_v g 184 (np.toNatClampNeg - 1))]) (rest := []) (L := lv_args 0 [.int (rg_v g 184 (np.toNatClampNeg - 1))]) (am_cur_of (i := (18, 3, .invokestatic 283, (180, 1751, 3), 0)) (by decide +kernel)) rfl rfl rfl rfl hm_z
          obtain ⟨r166_z, h167_z, q168_z, hm_z⟩ := hm_z
          obtain ⟨rfl, yq168_z⟩ := rs_rankM q168_z
          replace yq168_z := yq168_z.symm
          subst yq168_z
          replace hm_z : rn _ _ _ _ [.int (rk_M (rg_v g 184 (np.toNatClampNeg - 1)))] _ _ _ := hm_z
          replace hm_z := rn_iload_n (am_cur_of (i := (21, 1, .iload_n 1, (0, 0, 0), 0)) (by decide +kernel)) g1m hm_z
          replace hm_z := rn_cmp (am_cur_of (i := (22, 3, .if_icmp .lt 54, (42, 0, 0), 0)) (by decide +kernel)) hm_z
          rcases hm_z with ⟨b169_z, hm_z⟩ | ⟨b169_z, hm_z⟩
          · replace b169_z : (rk_M (rg_v g 184 (np.toNatClampNeg - 1))).toInt < least.toInt := b169_z
            replace hm_z := rn_vret (am_cur_of (i := (76, 1, .return_, (0, 0, 0), 0)) (by decide +kernel)) hm_z
            obtain ⟨e170_z, e171_z⟩ := hm_z
            subst e162_z e163_z e170_z e171_z
            exact ⟨rfl, rfl, ab_Fr_refl, ab_Fr_refl, np, en, em, n0_z, Int.le_refl _, rfl, Or.inr b161_z⟩
          · replace b169_z : least.toInt ≤ (rk_M (rg_v g 184 (np.toNatClampNeg - 1))).toInt := b169_z
            omega
      · replace b161_z : (rk_C op).toInt ≤ (rk_C (rg_v h 47 (np.toNatClampNeg - 1))).toInt := b161_z
        replace hc_z := rn_aload_n (am_cur_of (i := (28, 1, .aload_n 0, (0, 0, 0), 0)) (by decide +kernel)) g0_z hc_z
        replace hc_z := rn_dup (am_cur_of (i := (29, 1, .dup, (0, 0, 0), 0)) (by decide +kernel)) hc_z
        replace hc_z := rn_getI (v := np) (am_cur_of (i := (30, 3, .getfield 251, (4, 13, 422), 0)) (by decide +kernel)) (by decide +kernel) en hc_z
        replace hc_z := rn_iconst (w := 1) (am_cur_of (i := (33, 1, .iconst 1, (0, 0, 0), 0)) (by decide +kernel)) (by decide) hc_z
        replace hc_z := rn_isub (w := np - 1) (am_cur_of (i := (34, 1, .isub, (0, 0, 0), 0)) (by decide +kernel)) rfl hc_z
        replace hc_z := rn_put (am_cur_of (i := (35, 3, .putfield 251, (4, 13, 422), 0)) (by decide +kernel)) (by decide +kernel) hc_z
        replace hc_z := rn_aload_n (am_cur_of (i := (38, 1, .aload_n 0, (0, 0, 0), 0)) (by decide +kernel)) g0_z hc_z
        replace hc_z := rn_getM (x := 2) (am_cur_of (i := (39, 3, .getfield 25, (4, 6, 415), 0)) (by decide +kernel)) (show (am_up h 44 13 (.int (np - 1))) 44 6 = .ref 2 from er) hc_z
        replace hc_z := rn_getR (x := 11) (am_cur_of (i := (42, 3, .getfield 242, (1, 19, 316), 0)) (by decide +kernel)) (by decide +kernel) hc_z
        replace hc_z := rn_aload_n (am_cur_of (i := (45, 1, .aload_n 0, (0, 0, 0), 0)) (by decide +kernel)) g0_z hc_z
        replace hc_z := rn_getR (x := 47) (am_cur_of (i := (46, 3, .getfield 22, (4, 12, 421), 0)) (by decide +kernel)) (by decide +kernel) hc_z
        replace hc_z := rn_aload_n (am_cur_of (i := (49, 1, .aload_n 0, (0, 0, 0), 0)) (by decide +kernel)) g0_z hc_z
        replace hc_z := rn_getI (v := np - 1) (am_cur_of (i := (50, 3, .getfield 251, (4, 13, 422), 0)) (by decide +kernel)) (by decide +kernel) (show rg_v (am_up h 44 13 (.int (np - 1))) 44 13 = np - 1 from rfl) hc_z
        replace hc_z := rn_iaload (N := 72) (q := (np - 1).toNatClampNeg) (v := rg_v h 47 (np.toNatClampNeg - 1)) (am_cur_of (i := (53, 1, .iaload, (0, 0, 0), 0)) (by decide +kernel)) (by decide +kernel) rfl (show rg_v (am_up h 44 13 (.int (np - 1))) 47 ((np - 1).toNatClampNeg) = rg_v h 47 (np.toNatClampNeg - 1) from (by rw [show (np - 1).toNatClampNeg = np.toNatClampNeg - 1 by have := rt_cl (x := np - 1) (by omega); omega] <;> rfl)) hc_z
        obtain ⟨p172_z, hc_z⟩ := hc_z
        replace hc_z := rn_iconst (w := 0) (am_cur_of (i := (54, 1, .iconst 0, (0, 0, 0), 0)) (by decide +kernel)) (by decide) hc_z
        replace hc_z := rn_callV (M' := am_m48) (o := 11) (ar := [.int 0, .int (rg_v h 47 (np.toNatClampNeg - 1))]) (rest := []) (L := lv_args 0 [.ref 11, .int (rg_v h 47 (np.toNatClampNeg - 1)), .int 0]) (am_cur_of (i := (55, 3, .invokevirtual 276, (48, 845, 3), 0)) (by decide +kernel)) rfl rfl rfl rfl hc_z
        obtain ⟨r173_z, h174_z, q175_z, hc_z⟩ := hc_z
        obtain ⟨rfl, Pq175⟩ := rs_put2 q175_z
        replace hc_z : rn _ _ _ _ [] _ _ _ := hc_z
        replace hc_z := rn_gotoL (am_cur_of (i := (58, 3, .goto (-58), (0, 0, 0), 0)) (by decide +kernel)) hc_z
        have ho2_z := ho (np.toNatClampNeg - 1) (by omega)
        have ho1_z := hl_z _ _ ho2_z
        replace hm_z := rn_aload_n (am_cur_of (i := (0, 1, .aload_n 0, (0, 0, 0), 0)) (by decide +kernel)) g0m hm_z
        replace hm_z := rn_getI (v := np) (am_cur_of (i := (1, 3, .getfield 280, (12, 41, 1425), 0)) (by decide +kernel)) (by decide +kernel) em hm_z
        replace hm_z := rn_if (am_cur_of (i := (4, 3, .ifCond .le 72, (42, 0, 0), 0)) (by decide +kernel)) hm_z
        rcases hm_z with ⟨b176_z, hm_z⟩ | ⟨b176_z, hm_z⟩
        · replace b176_z : np.toInt ≤ (0 : Int32).toInt := b176_z
          omega
        · replace b176_z : (0 : Int32).toInt < np.toInt := b176_z
          replace hm_z := rn_aload_n (am_cur_of (i := (7, 1, .aload_n 0, (0, 0, 0), 0)) (by decide +kernel)) g0m hm_z
          replace hm_z := rn_getR (x := 184) (am_cur_of (i := (8, 3, .getfield 72, (12, 39, 1423), 0)) (by decide +kernel)) (by decide +kernel) hm_z
          replace hm_z := rn_aload_n (am_cur_of (i := (11, 1, .aload_n 0, (0, 0, 0), 0)) (by decide +kernel)) g0m hm_z
          replace hm_z := rn_getI (v := np) (am_cur_of (i := (12, 3, .getfield 280, (12, 41, 1425), 0)) (by decide +kernel)) (by decide +kernel) em hm_z
          replace hm_z := rn_iconst (w := 1) (am_cur_of (i := (15, 1, .iconst 1, (0, 0, 0), 0)) (by decide +kernel)) (by decide) hm_z
          replace hm_z := rn_isub (w := np - 1) (am_cur_of (i := (16, 1, .isub, (0, 0, 0), 0)) (by decide +kernel)) rfl hm_z
          replace hm_z := rn_iaload (N := 96) (q := (np - 1).toNatClampNeg) (v := rg_v g 184 (np.toNatClampNeg - 1)) (am_cur_of (i := (17, 1, .iaload, (0, 0, 0), 0)) (by decide +kernel)) (by decide +kernel) rfl (by rw [show (np - 1).toNatClampNeg = np.toNatClampNeg - 1 by have := rt_cl (x := np - 1) (by omega); omega] <;> rfl) hm_z
          obtain ⟨p177_z, hm_z⟩ := hm_z
          replace hm_z := rn_callS (M' := am_m180) (ar := [.int (rg_v g 184 (np.toNatClampNeg - 1))]) (rest := []) (L := lv_args 0 [.int (rg_v g 184 (np.toNatClampNeg - 1))]) (am_cur_of (i := (18, 3, .invokestatic 283, (180, 1751, 3), 0)) (by decide +kernel)) rfl rfl rfl rfl hm_z
          obtain ⟨r178_z, h179_z, q180_z, hm_z⟩ := hm_z
          obtain ⟨rfl, yq180_z⟩ := rs_rankM q180_z
          replace yq180_z := yq180_z.symm
          subst yq180_z
          replace hm_z : rn _ _ _ _ [.int (rk_M (rg_v g 184 (np.toNatClampNeg - 1)))] _ _ _ := hm_z
          replace hm_z := rn_iload_n (am_cur_of (i := (21, 1, .iload_n 1, (0, 0, 0), 0)) (by decide +kernel)) g1m hm_z
          replace hm_z := rn_cmp (am_cur_of (i := (22, 3, .if_icmp .lt 54, (42, 0, 0), 0)) (by decide +kernel)) hm_z
          rcases hm_z with ⟨b181_z, hm_z⟩ | ⟨b181_z, hm_z⟩
          · replace b181_z : (rk_M (rg_v g 184 (np.toNatClampNeg - 1))).toInt < least.toInt := b181_z
            omega
          · replace b181_z : least.toInt ≤ (rk_M (rg_v g 184 (np.toNatClampNeg - 1))).toInt := b181_z
            replace hm_z := rn_aload_n (am_cur_of (i := (25, 1, .aload_n 0, (0, 0, 0), 0)) (by decide +kernel)) g0m hm_z
            replace hm_z := rn_dup (am_cur_of (i := (26, 1, .dup, (0, 0, 0), 0)) (by decide +kernel)) hm_z
            replace hm_z := rn_getI (v := np) (am_cur_of (i := (27, 3, .getfield 280, (12, 41, 1425), 0)) (by decide +kernel)) (by decide +kernel) em hm_z
            replace hm_z := rn_iconst (w := 1) (am_cur_of (i := (30, 1, .iconst 1, (0, 0, 0), 0)) (by decide +kernel)) (by decide) hm_z
            replace hm_z := rn_isub (w := np - 1) (am_cur_of (i := (31, 1, .isub, (0, 0, 0), 0)) (by decide +kernel)) rfl hm_z
            replace hm_z := rn_put (am_cur_of (i := (32, 3, .putfield 280, (12, 41, 1425), 0)) (by decide +kernel)) (by decide +kernel) hm_z
            replace hm_z := rn_aload_n (am_cur_of (i := (35, 1, .aload_n 0, (0, 0, 0), 0)) (by decide +kernel)) g0m hm_z
            replace hm_z := rn_getR (x := 184) (am_cur_of (i := (36, 3, .getfield 72, (12, 39, 1423), 0)) (by decide +kernel)) (by decide +kernel) hm_z
            replace hm_z := rn_aload_n (am_cur_of (i := (39, 1, .aload_n 0, (0, 0, 0), 0)) (by decide +kernel)) g0m hm_z
            replace hm_z := rn_getI (v := np - 1) (am_cur_of (i := (40, 3, .getfield 280, (12, 41, 1425), 0)) (by decide +kernel)) (by decide +kernel) (show rg_v (am_up g 164 41 (.int (np - 1))) 164 41 = np - 1 from rfl) hm_z
            replace hm_z := rn_iaload (N := 96) (q := (np - 1).toNatClampNeg) (v := rg_v g 184 (np.toNatClampNeg - 1)) (am_cur_of (i := (43, 1, .iaload, (0, 0, 0), 0)) (by decide +kernel)) (by decide +kernel) rfl (show rg_v (am_up g 164 41 (.int (np - 1))) 184 ((np - 1).toNatClampNeg) = rg_v g 184 (np.toNatClampNeg - 1) from (by rw [show (np - 1).toNatClampNeg = np.toNatClampNeg - 1 by have := rt_cl (x := np - 1) (by omega); omega] <;> rfl)) hm_z
            obtain ⟨p182_z, hm_z⟩ := hm_z
            replace hm_z := rn_istore_n (am_cur_of (i := (44, 1, .istore_n 2, (0, 0, 0), 0)) (by decide +kernel)) hm_z
            obtain ⟨_, s183_z, s184_z, g2m, hm_z⟩ := hm_z
            replace g0m := s183_z 0 _ (by decide) rfl g0m
            replace g1m := s183_z 1 _ (by decide) rfl g1m
            clear s183_z s184_z
            replace hm_z := rn_iload_n (am_cur_of (i := (45, 1, .iload_n 2, (0, 0, 0), 0)) (by decide +kernel)) g2m hm_z
            replace hm_z := rn_iconst (w := 2) (am_cur_of (i := (46, 1, .iconst 2, (0, 0, 0), 0)) (by decide +kernel)) (by decide) hm_z
            replace hm_z := rn_cmp (am_cur_of (i := (47, 3, .if_icmp .ne 7, (30, 0, 0), 0)) (by decide +kernel)) hm_z
            rcases hm_z with ⟨b185_z, hm_z⟩ | ⟨b185_z, hm_z⟩
            · replace b185_z : ¬ (rg_v g 184 (np.toNatClampNeg - 1)) = (2 : Int32) ∧ ¬ (rg_v g 184 (np.toNatClampNeg - 1)).toInt = (2 : Int32).toInt := b185_z
              replace hm_z := rn_aload_n (am_cur_of (i := (54, 1, .aload_n 0, (0, 0, 0), 0)) (by decide +kernel)) g0m hm_z
              replace hm_z := rn_callV (M' := am_m181) (o := 164) (ar := []) (rest := []) (L := lv_args 0 [.ref 164]) (am_cur_of (i := (55, 3, .invokevirtual 287, (181, 1754, 3), 0)) (by decide +kernel)) rfl rfl rfl rfl hm_z
              obtain ⟨r186_z, h187_z, q188_z, hm_z⟩ := hm_z
              obtain ⟨⟨v189_z, rfl⟩, Dq188⟩ := rs_drop q188_z
              replace hm_z : rn _ _ _ _ [.int v189_z] _ _ _ := hm_z
              replace hm_z := rn_istore_n (am_cur_of (i := (58, 1, .istore_n 3, (0, 0, 0), 0)) (by decide +kernel)) hm_z
              obtain ⟨_, s190_z, s191_z, g3m, hm_z⟩ := hm_z
              replace g0m := s190_z 0 _ (by decide) rfl g0m
              replace g1m := s190_z 1 _ (by decide) rfl g1m
              replace g2m := s190_z 2 _ (by decide) rfl g2m
              clear s190_z s191_z
              replace hm_z := rn_aload_n (am_cur_of (i := (59, 1, .aload_n 0, (0, 0, 0), 0)) (by decide +kernel)) g0m hm_z
              replace hm_z := rn_callV (M' := am_m181) (o := 164) (ar := []) (rest := []) (L := lv_args 0 [.ref 164]) (am_cur_of (i := (60, 3, .invokevirtual 287, (181, 1754, 3), 0)) (by decide +kernel)) rfl rfl rfl rfl hm_z
              obtain ⟨r192_z, h193_z, q194_z, hm_z⟩ := hm_z
              obtain ⟨⟨v195_z, rfl⟩, Dq194⟩ := rs_drop q194_z
              replace hm_z : rn _ _ _ _ [.int v195_z] _ _ _ := hm_z
              replace hm_z := rn_istore (am_cur_of (i := (63, 2, .istore 4, (0, 0, 0), 0)) (by decide +kernel)) hm_z
              obtain ⟨_, s196_z, s197_z, g4m, hm_z⟩ := hm_z
              replace g0m := s196_z 0 _ (by decide) rfl g0m
              replace g1m := s196_z 1 _ (by decide) rfl g1m
              replace g2m := s196_z 2 _ (by decide) rfl g2m
              replace g3m := s196_z 3 _ (by decide) rfl g3m
              clear s196_z s197_z
              replace hm_z := rn_aload_n (am_cur_of (i := (65, 1, .aload_n 0, (0, 0, 0), 0)) (by decide +kernel)) g0m hm_z
              replace hm_z := rn_iload_n (am_cur_of (i := (66, 1, .iload_n 2, (0, 0, 0), 0)) (by decide +kernel)) g2m hm_z
              replace hm_z := rn_iload (am_cur_of (i := (67, 2, .iload 4, (0, 0, 0), 0)) (by decide +kernel)) g4m hm_z
              replace hm_z := rn_iload_n (am_cur_of (i := (69, 1, .iload_n 3, (0, 0, 0), 0)) (by decide +kernel)) g3m hm_z
              replace hm_z := rn_callV (M' := am_m177) (o := 164) (ar := [.int v189_z, .int v195_z, .int (rg_v g 184 (np.toNatClampNeg - 1))]) (rest := []) (L := lv_args 0 [.ref 164, .int (rg_v g 184 (np.toNatClampNeg - 1)), .int v195_z, .int v189_z]) (am_cur_of (i := (70, 3, .invokevirtual 291, (177, 1739, 3), 0)) (by decide +kernel)) rfl rfl rfl rfl hm_z
              obtain ⟨r198_z, h199_z, q200_z, hm_z⟩ := hm_z
              obtain ⟨rfl, Gq200⟩ := rs_grown q200_z
              replace hm_z : rn _ _ _ _ [] _ _ _ := hm_z
              replace hm_z := rn_goto (am_cur_of (i := (73, 3, .goto (-73), (0, 0, 0), 0)) (by decide +kernel)) hm_z
              have FC : ab_Fr rs_mS2 h h174_z := ab_Fr_trans (ab_Fr_up rfl ab_Fr_refl) (fun o k e => Pq175 o k (by
                have e' : ((Nat.beq 44 o && (Nat.beq 14 0 || Nat.beq 14 (k + 1))) || ab_in rs_mP2 o k) = false := e
                rw [Bool.or_eq_false_iff] at e'
                exact e'.2))
              have FM : ab_Fr rs_mB g h199_z := ab_Fr_trans (ab_Fr_trans (ab_Fr_trans (ab_Fr_up rfl ab_Fr_refl) (rs_GB Dq188)) (rs_GB Dq194)) (rs_GB Gq200)
              have y2_z := rt_cl (x := np - 1) (by omega)
              obtain ⟨i1_z, i2_z, i3_z, i4_z, np', i5_z, i6_z, i7_z, i8_z, i9_z, i10_z⟩ := ih_z n' (np - 1) h174_z h199_z _ _ ((rg_v_fr Pq175 (by decide)).trans rfl) ((((rg_v_fr Gq200 (by decide)).trans (rg_v_fr Dq194 (by decide))).trans (rg_v_fr Dq188 (by decide))).trans rfl) (by omega) (fun i hi_z => by
                rw [rg_v_fr FC (rg_v_in (by decide) i), rg_v_fr FM (rg_v_in (by decide) i)]
                exact ho i (by omega)) ((FC 44 6 (by decide)).trans er) g0_z g1_z g0m g1m hc_z hm_z
              rw [rg_v_fr FC (rg_v_in (by decide) _)] at i10_z
              refine ⟨i1_z, i2_z, ab_Fr_trans FC i3_z, ab_Fr_trans FM i4_z, np', i5_z, i6_z, i7_z, by omega, ?_, i10_z⟩
              have ec_z := rs_cnt_fr (g := g) (g' := h199_z) (fun k => rg_v_fr FM (rg_v_in (by decide) k))
              rw [ec_z, ec_z] at i9_z
              rw [i9_z, show np.toNatClampNeg = (np - 1).toNatClampNeg + 1 by omega]
              show _ = rs_cnt g (np - 1).toNatClampNeg + (if rg_v g 184 (np - 1).toNatClampNeg = 0 then 1 else 0)
              have hz0_z : ¬ rg_v g 184 (np - 1).toNatClampNeg = 0 := by
                intro qz
                rw [show np.toNatClampNeg - 1 = (np - 1).toNatClampNeg by omega, qz] at b181_z
                have zr : (rk_M 0).toInt = 0 := by decide
                omega
              rw [if_neg hz0_z]
              rfl
            · replace b185_z : (rg_v g 184 (np.toNatClampNeg - 1)) = (2 : Int32) ∧ (rg_v g 184 (np.toNatClampNeg - 1)).toInt = (2 : Int32).toInt := b185_z
              replace hm_z := rn_iconst (w := (-1)) (am_cur_of (i := (50, 1, .iconst (-1), (0, 0, 0), 0)) (by decide +kernel)) (by decide) hm_z
              replace hm_z := rn_goto (am_cur_of (i := (51, 3, .goto 7, (32, 0, 0), 0)) (by decide +kernel)) hm_z
              replace hm_z := rn_istore_n (am_cur_of (i := (58, 1, .istore_n 3, (0, 0, 0), 0)) (by decide +kernel)) hm_z
              obtain ⟨_, s201_z, s202_z, g3m, hm_z⟩ := hm_z
              replace g0m := s201_z 0 _ (by decide) rfl g0m
              replace g1m := s201_z 1 _ (by decide) rfl g1m
              replace g2m := s201_z 2 _ (by decide) rfl g2m
              clear s201_z s202_z
              replace hm_z := rn_aload_n (am_cur_of (i := (59, 1, .aload_n 0, (0, 0, 0), 0)) (by decide +kernel)) g0m hm_z
              replace hm_z := rn_callV (M' := am_m181) (o := 164) (ar := []) (rest := []) (L := lv_args 0 [.ref 164]) (am_cur_of (i := (60, 3, .invokevirtual 287, (181, 1754, 3), 0)) (by decide +kernel)) rfl rfl rfl rfl hm_z
              obtain ⟨r203_z, h204_z, q205_z, hm_z⟩ := hm_z
              obtain ⟨⟨v206_z, rfl⟩, Dq205⟩ := rs_drop q205_z
              replace hm_z : rn _ _ _ _ [.int v206_z] _ _ _ := hm_z
              replace hm_z := rn_istore (am_cur_of (i := (63, 2, .istore 4, (0, 0, 0), 0)) (by decide +kernel)) hm_z
              obtain ⟨_, s207_z, s208_z, g4m, hm_z⟩ := hm_z
              replace g0m := s207_z 0 _ (by decide) rfl g0m
              replace g1m := s207_z 1 _ (by decide) rfl g1m
              replace g2m := s207_z 2 _ (by decide) rfl g2m
              replace g3m := s207_z 3 _ (by decide) rfl g3m
              clear s207_z s208_z
              replace hm_z := rn_aload_n (am_cur_of (i := (65, 1, .aload_n 0, (0, 0, 0), 0)) (by decide +kernel)) g0m hm_z
              replace hm_z := rn_iload_n (am_cur_of (i := (66, 1, .iload_n 2, (0, 0, 0), 0)) (by decide +kernel)) g2m hm_z
              replace hm_z := rn_iload (am_cur_of (i := (67, 2, .iload 4, (0, 0, 0), 0)) (by decide +kernel)) g4m hm_z
              replace hm_z := rn_iload_n (am_cur_of (i := (69, 1, .iload_n 3, (0, 0, 0), 0)) (by decide +kernel)) g3m hm_z
              replace hm_z := rn_callV (M' := am_m177) (o := 164) (ar := [.int (-1), .int v206_z, .int (rg_v g 184 (np.toNatClampNeg - 1))]) (rest := []) (L := lv_args 0 [.ref 164, .int (rg_v g 184 (np.toNatClampNeg - 1)), .int v206_z, .int (-1)]) (am_cur_of (i := (70, 3, .invokevirtual 291, (177, 1739, 3), 0)) (by decide +kernel)) rfl rfl rfl rfl hm_z
              obtain ⟨r209_z, h210_z, q211_z, hm_z⟩ := hm_z
              obtain ⟨rfl, Gq211⟩ := rs_grown q211_z
              replace hm_z : rn _ _ _ _ [] _ _ _ := hm_z
              replace hm_z := rn_goto (am_cur_of (i := (73, 3, .goto (-73), (0, 0, 0), 0)) (by decide +kernel)) hm_z
              have FC : ab_Fr rs_mS2 h h174_z := ab_Fr_trans (ab_Fr_up rfl ab_Fr_refl) (fun o k e => Pq175 o k (by
                have e' : ((Nat.beq 44 o && (Nat.beq 14 0 || Nat.beq 14 (k + 1))) || ab_in rs_mP2 o k) = false := e
                rw [Bool.or_eq_false_iff] at e'
                exact e'.2))
              have FM : ab_Fr rs_mB g h210_z := ab_Fr_trans (ab_Fr_trans (ab_Fr_up rfl ab_Fr_refl) (rs_GB Dq205)) (rs_GB Gq211)
              have y2_z := rt_cl (x := np - 1) (by omega)
              obtain ⟨i1_z, i2_z, i3_z, i4_z, np', i5_z, i6_z, i7_z, i8_z, i9_z, i10_z⟩ := ih_z n' (np - 1) h174_z h210_z _ _ ((rg_v_fr Pq175 (by decide)).trans rfl) (((rg_v_fr Gq211 (by decide)).trans (rg_v_fr Dq205 (by decide))).trans rfl) (by omega) (fun i hi_z => by
                rw [rg_v_fr FC (rg_v_in (by decide) i), rg_v_fr FM (rg_v_in (by decide) i)]
                exact ho i (by omega)) ((FC 44 6 (by decide)).trans er) g0_z g1_z g0m g1m hc_z hm_z
              rw [rg_v_fr FC (rg_v_in (by decide) _)] at i10_z
              refine ⟨i1_z, i2_z, ab_Fr_trans FC i3_z, ab_Fr_trans FM i4_z, np', i5_z, i6_z, i7_z, by omega, ?_, i10_z⟩
              have ec_z := rs_cnt_fr (g := g) (g' := h210_z) (fun k => rg_v_fr FM (rg_v_in (by decide) k))
              rw [ec_z, ec_z] at i9_z
              rw [i9_z, show np.toNatClampNeg = (np - 1).toNatClampNeg + 1 by omega]
              show _ = rs_cnt g (np - 1).toNatClampNeg + (if rg_v g 184 (np - 1).toNatClampNeg = 0 then 1 else 0)
              have hz0_z : ¬ rg_v g 184 (np - 1).toNatClampNeg = 0 := by
                intro qz
                rw [show np.toNatClampNeg - 1 = (np - 1).toNatClampNeg by omega, qz] at b181_z
                have zr : (rk_M 0).toInt = 0 := by decide
                omega
              rw [if_neg hz0_z]
              rfl
theorem rs_set23 {op least : Int32} {r r' : Option Value} {h' g' : am_H} (hl_z : rs_l op least) (l1_z : 1 ≤ least.toInt) : ∀ (n n' : Nat) (np : Int32) (h g : am_H) (ls ls2_z : am_L), rg_v h 44 13 = np → rg_v g 164 41 = np → 0 ≤ np.toInt → (∀ i : Nat, (i : Int) < np.toInt → rs_o (rg_v h 47 i) (rg_v g 184 i)) → h 44 6 = .ref 23 → am_get ls 0 = some (.ref 44) → am_get ls 1 = some (.int op) → am_get ls2_z 0 = some (.ref 164) → am_get ls2_z 1 = some (.int least) → rn n am_m46 0 ls [] h r h' → rn n' am_m179 0 ls2_z [] g r' g' →
    r = none ∧ r' = none ∧ ab_Fr rs_mS23 h h' ∧ ab_Fr rs_mB g g' ∧ ∃ np' : Int32, rg_v h' 44 13 = np' ∧ rg_v g' 164 41 = np' ∧ 0 ≤ np'.toInt ∧ np'.toInt ≤ np.toInt ∧ rs_cnt g np'.toNatClampNeg = rs_cnt g np.toNatClampNeg ∧ (np'.toInt = 0 ∨ (rk_C (rg_v h 47 (np'.toNatClampNeg - 1))).toInt < (rk_C op).toInt) := by
  intro n
  induction n with
  | zero => intro n' np h g ls ls2_z en em n0_z ho er g0_z g1_z g0m g1m hc_z hm_z; exact absurd hc_z rn_0
  | succ n ih_z =>
    intro n' np h g ls ls2_z en em n0_z ho er g0_z g1_z g0m g1m hc_z hm_z
    have z0_z : (0 : Int32).toInt = 0 := by decide
    have z2_z : (2 : Int32).toInt = 2 := by decide
    have cn := rt_cl n0_z
    have z1_z : (1 : Int32).toInt = 1 := by decide
    have n31_z := (ab_32 np).2
    have y1_z := ab_isub (x := np) (y := 1) (by omega) (by omega)
    replace hc_z := rn_aload_n (am_cur_of (i := (0, 1, .aload_n 0, (0, 0, 0), 0)) (by decide +kernel)) g0_z hc_z
    replace hc_z := rn_getI (v := np) (am_cur_of (i := (1, 3, .getfield 251, (4, 13, 422), 0)) (by decide +kernel)) (by decide +kernel) en hc_z
    replace hc_z := rn_if (am_cur_of (i := (4, 3, .ifCond .le 57, (31, 0, 0), 0)) (by decide +kernel)) hc_z
    rcases hc_z with ⟨b212_z, hc_z⟩ | ⟨b212_z, hc_z⟩
    · replace b212_z : np.toInt ≤ (0 : Int32).toInt := b212_z
      replace hc_z := rn_vret (am_cur_of (i := (61, 1, .return_, (0, 0, 0), 0)) (by decide +kernel)) hc_z
      obtain ⟨e213_z, e214_z⟩ := hc_z
      replace hm_z := rn_aload_n (am_cur_of (i := (0, 1, .aload_n 0, (0, 0, 0), 0)) (by decide +kernel)) g0m hm_z
      replace hm_z := rn_getI (v := np) (am_cur_of (i := (1, 3, .getfield 280, (12, 41, 1425), 0)) (by decide +kernel)) (by decide +kernel) em hm_z
      replace hm_z := rn_if (am_cur_of (i := (4, 3, .ifCond .le 72, (42, 0, 0), 0)) (by decide +kernel)) hm_z
      rcases hm_z with ⟨b215_z, hm_z⟩ | ⟨b215_z, hm_z⟩
      · replace b215_z : np.toInt ≤ (0 : Int32).toInt := b215_z
        replace hm_z := rn_vret (am_cur_of (i := (76, 1, .return_, (0, 0, 0), 0)) (by decide +kernel)) hm_z
        obtain ⟨e216_z, e217_z⟩ := hm_z
        subst e213_z e214_z e216_z e217_z
        exact ⟨rfl, rfl, ab_Fr_refl, ab_Fr_refl, np, en, em, n0_z, Int.le_refl _, rfl, Or.inl (by omega)⟩
      · replace b215_z : (0 : Int32).toInt < np.toInt := b215_z
        omega
    · replace b212_z : (0 : Int32).toInt < np.toInt := b212_z
      replace hc_z := rn_aload_n (am_cur_of (i := (7, 1, .aload_n 0, (0, 0, 0), 0)) (by decide +kernel)) g0_z hc_z
      replace hc_z := rn_getR (x := 47) (am_cur_of (i := (8, 3, .getfield 22, (4, 12, 421), 0)) (by decide +kernel)) (by decide +kernel) hc_z
      replace hc_z := rn_aload_n (am_cur_of (i := (11, 1, .aload_n 0, (0, 0, 0), 0)) (by decide +kernel)) g0_z hc_z
      replace hc_z := rn_getI (v := np) (am_cur_of (i := (12, 3, .getfield 251, (4, 13, 422), 0)) (by decide +kernel)) (by decide +kernel) en hc_z
      replace hc_z := rn_iconst (w := 1) (am_cur_of (i := (15, 1, .iconst 1, (0, 0, 0), 0)) (by decide +kernel)) (by decide) hc_z
      replace hc_z := rn_isub (w := np - 1) (am_cur_of (i := (16, 1, .isub, (0, 0, 0), 0)) (by decide +kernel)) rfl hc_z
      replace hc_z := rn_iaload (N := 72) (q := (np - 1).toNatClampNeg) (v := rg_v h 47 (np.toNatClampNeg - 1)) (am_cur_of (i := (17, 1, .iaload, (0, 0, 0), 0)) (by decide +kernel)) (by decide +kernel) rfl (by rw [show (np - 1).toNatClampNeg = np.toNatClampNeg - 1 by have := rt_cl (x := np - 1) (by omega); omega] <;> rfl) hc_z
      obtain ⟨p218_z, hc_z⟩ := hc_z
      replace hc_z := rn_callS (M' := am_m47) (ar := [.int (rg_v h 47 (np.toNatClampNeg - 1))]) (rest := []) (L := lv_args 0 [.int (rg_v h 47 (np.toNatClampNeg - 1))]) (am_cur_of (i := (18, 3, .invokestatic 283, (47, 842, 3), 0)) (by decide +kernel)) rfl rfl rfl rfl hc_z
      obtain ⟨r219_z, h220_z, q221_z, hc_z⟩ := hc_z
      obtain ⟨rfl, yq221_z⟩ := rs_rankC q221_z
      replace yq221_z := yq221_z.symm
      subst yq221_z
      replace hc_z : rn _ _ _ _ [.int (rk_C (rg_v h 47 (np.toNatClampNeg - 1)))] _ _ _ := hc_z
      replace hc_z := rn_iload_n (am_cur_of (i := (21, 1, .iload_n 1, (0, 0, 0), 0)) (by decide +kernel)) g1_z hc_z
      replace hc_z := rn_callS (M' := am_m47) (ar := [.int op]) (rest := [.int (rk_C (rg_v h 47 (np.toNatClampNeg - 1)))]) (L := lv_args 0 [.int op]) (am_cur_of (i := (22, 3, .invokestatic 283, (47, 842, 3), 0)) (by decide +kernel)) rfl rfl rfl rfl hc_z
      obtain ⟨r222_z, h223_z, q224_z, hc_z⟩ := hc_z
      obtain ⟨rfl, yq224_z⟩ := rs_rankC q224_z
      replace yq224_z := yq224_z.symm
      subst yq224_z
      replace hc_z : rn _ _ _ _ [.int (rk_C op), .int (rk_C (rg_v h 47 (np.toNatClampNeg - 1)))] _ _ _ := hc_z
      replace hc_z := rn_cmp (am_cur_of (i := (25, 3, .if_icmp .lt 36, (31, 0, 0), 0)) (by decide +kernel)) hc_z
      rcases hc_z with ⟨b225_z, hc_z⟩ | ⟨b225_z, hc_z⟩
      · replace b225_z : (rk_C (rg_v h 47 (np.toNatClampNeg - 1))).toInt < (rk_C op).toInt := b225_z
        replace hc_z := rn_vret (am_cur_of (i := (61, 1, .return_, (0, 0, 0), 0)) (by decide +kernel)) hc_z
        obtain ⟨e226_z, e227_z⟩ := hc_z
        have ho1_z := hl_z _ _ (ho (np.toNatClampNeg - 1) (by omega))
        replace hm_z := rn_aload_n (am_cur_of (i := (0, 1, .aload_n 0, (0, 0, 0), 0)) (by decide +kernel)) g0m hm_z
        replace hm_z := rn_getI (v := np) (am_cur_of (i := (1, 3, .getfield 280, (12, 41, 1425), 0)) (by decide +kernel)) (by decide +kernel) em hm_z
        replace hm_z := rn_if (am_cur_of (i := (4, 3, .ifCond .le 72, (42, 0, 0), 0)) (by decide +kernel)) hm_z
        rcases hm_z with ⟨b228_z, hm_z⟩ | ⟨b228_z, hm_z⟩
        · replace b228_z : np.toInt ≤ (0 : Int32).toInt := b228_z
          omega
        · replace b228_z : (0 : Int32).toInt < np.toInt := b228_z
          replace hm_z := rn_aload_n (am_cur_of (i := (7, 1, .aload_n 0, (0, 0, 0), 0)) (by decide +kernel)) g0m hm_z
          replace hm_z := rn_getR (x := 184) (am_cur_of (i := (8, 3, .getfield 72, (12, 39, 1423), 0)) (by decide +kernel)) (by decide +kernel) hm_z
          replace hm_z := rn_aload_n (am_cur_of (i := (11, 1, .aload_n 0, (0, 0, 0), 0)) (by decide +kernel)) g0m hm_z
          replace hm_z := rn_getI (v := np) (am_cur_of (i := (12, 3, .getfield 280, (12, 41, 1425), 0)) (by decide +kernel)) (by decide +kernel) em hm_z
          replace hm_z := rn_iconst (w := 1) (am_cur_of (i := (15, 1, .iconst 1, (0, 0, 0), 0)) (by decide +kernel)) (by decide) hm_z
          replace hm_z := rn_isub (w := np - 1) (am_cur_of (i := (16, 1, .isub, (0, 0, 0), 0)) (by decide +kernel)) rfl hm_z
          replace hm_z := rn_iaload (N := 96) (q := (np - 1).toNatClampNeg) (v := rg_v g 184 (np.toNatClampNeg - 1)) (am_cur_of (i := (17, 1, .iaload, (0, 0, 0), 0)) (by decide +kernel)) (by decide +kernel) rfl (by rw [show (np - 1).toNatClampNeg = np.toNatClampNeg - 1 by have := rt_cl (x := np - 1) (by omega); omega] <;> rfl) hm_z
          obtain ⟨p229_z, hm_z⟩ := hm_z
          replace hm_z := rn_callS (M' := am_m180) (ar := [.int (rg_v g 184 (np.toNatClampNeg - 1))]) (rest := []) (L := lv_args 0 [.int (rg_v g 184 (np.toNatClampNeg - 1))]) (am_cur_of (i := (18, 3, .invokestatic 283, (180, 1751, 3), 0)) (by decide +kernel)) rfl rfl rfl rfl hm_z
          obtain ⟨r230_z, h231_z, q232_z, hm_z⟩ := hm_z
          obtain ⟨rfl, yq232_z⟩ := rs_rankM q232_z
          replace yq232_z := yq232_z.symm
          subst yq232_z
          replace hm_z : rn _ _ _ _ [.int (rk_M (rg_v g 184 (np.toNatClampNeg - 1)))] _ _ _ := hm_z
          replace hm_z := rn_iload_n (am_cur_of (i := (21, 1, .iload_n 1, (0, 0, 0), 0)) (by decide +kernel)) g1m hm_z
          replace hm_z := rn_cmp (am_cur_of (i := (22, 3, .if_icmp .lt 54, (42, 0, 0), 0)) (by decide +kernel)) hm_z
          rcases hm_z with ⟨b233_z, hm_z⟩ | ⟨b233_z, hm_z⟩
          · replace b233_z : (rk_M (rg_v g 184 (np.toNatClampNeg - 1))).toInt < least.toInt := b233_z
            replace hm_z := rn_vret (am_cur_of (i := (76, 1, .return_, (0, 0, 0), 0)) (by decide +kernel)) hm_z
            obtain ⟨e234_z, e235_z⟩ := hm_z
            subst e226_z e227_z e234_z e235_z
            exact ⟨rfl, rfl, ab_Fr_refl, ab_Fr_refl, np, en, em, n0_z, Int.le_refl _, rfl, Or.inr b225_z⟩
          · replace b233_z : least.toInt ≤ (rk_M (rg_v g 184 (np.toNatClampNeg - 1))).toInt := b233_z
            omega
      · replace b225_z : (rk_C op).toInt ≤ (rk_C (rg_v h 47 (np.toNatClampNeg - 1))).toInt := b225_z
        replace hc_z := rn_aload_n (am_cur_of (i := (28, 1, .aload_n 0, (0, 0, 0), 0)) (by decide +kernel)) g0_z hc_z
        replace hc_z := rn_dup (am_cur_of (i := (29, 1, .dup, (0, 0, 0), 0)) (by decide +kernel)) hc_z
        replace hc_z := rn_getI (v := np) (am_cur_of (i := (30, 3, .getfield 251, (4, 13, 422), 0)) (by decide +kernel)) (by decide +kernel) en hc_z
        replace hc_z := rn_iconst (w := 1) (am_cur_of (i := (33, 1, .iconst 1, (0, 0, 0), 0)) (by decide +kernel)) (by decide) hc_z
        replace hc_z := rn_isub (w := np - 1) (am_cur_of (i := (34, 1, .isub, (0, 0, 0), 0)) (by decide +kernel)) rfl hc_z
        replace hc_z := rn_put (am_cur_of (i := (35, 3, .putfield 251, (4, 13, 422), 0)) (by decide +kernel)) (by decide +kernel) hc_z
        replace hc_z := rn_aload_n (am_cur_of (i := (38, 1, .aload_n 0, (0, 0, 0), 0)) (by decide +kernel)) g0_z hc_z
        replace hc_z := rn_getM (x := 23) (am_cur_of (i := (39, 3, .getfield 25, (4, 6, 415), 0)) (by decide +kernel)) (show (am_up h 44 13 (.int (np - 1))) 44 6 = .ref 23 from er) hc_z
        replace hc_z := rn_getR (x := 32) (am_cur_of (i := (42, 3, .getfield 242, (1, 19, 316), 0)) (by decide +kernel)) (by decide +kernel) hc_z
        replace hc_z := rn_aload_n (am_cur_of (i := (45, 1, .aload_n 0, (0, 0, 0), 0)) (by decide +kernel)) g0_z hc_z
        replace hc_z := rn_getR (x := 47) (am_cur_of (i := (46, 3, .getfield 22, (4, 12, 421), 0)) (by decide +kernel)) (by decide +kernel) hc_z
        replace hc_z := rn_aload_n (am_cur_of (i := (49, 1, .aload_n 0, (0, 0, 0), 0)) (by decide +kernel)) g0_z hc_z
        replace hc_z := rn_getI (v := np - 1) (am_cur_of (i := (50, 3, .getfield 251, (4, 13, 422), 0)) (by decide +kernel)) (by decide +kernel) (show rg_v (am_up h 44 13 (.int (np - 1))) 44 13 = np - 1 from rfl) hc_z
        replace hc_z := rn_iaload (N := 72) (q := (np - 1).toNatClampNeg) (v := rg_v h 47 (np.toNatClampNeg - 1)) (am_cur_of (i := (53, 1, .iaload, (0, 0, 0), 0)) (by decide +kernel)) (by decide +kernel) rfl (show rg_v (am_up h 44 13 (.int (np - 1))) 47 ((np - 1).toNatClampNeg) = rg_v h 47 (np.toNatClampNeg - 1) from (by rw [show (np - 1).toNatClampNeg = np.toNatClampNeg - 1 by have := rt_cl (x := np - 1) (by omega); omega] <;> rfl)) hc_z
        obtain ⟨p236_z, hc_z⟩ := hc_z
        replace hc_z := rn_iconst (w := 0) (am_cur_of (i := (54, 1, .iconst 0, (0, 0, 0), 0)) (by decide +kernel)) (by decide) hc_z
        replace hc_z := rn_callV (M' := am_m48) (o := 32) (ar := [.int 0, .int (rg_v h 47 (np.toNatClampNeg - 1))]) (rest := []) (L := lv_args 0 [.ref 32, .int (rg_v h 47 (np.toNatClampNeg - 1)), .int 0]) (am_cur_of (i := (55, 3, .invokevirtual 276, (48, 845, 3), 0)) (by decide +kernel)) rfl rfl rfl rfl hc_z
        obtain ⟨r237_z, h238_z, q239_z, hc_z⟩ := hc_z
        obtain ⟨rfl, Pq239⟩ := rs_put23 q239_z
        replace hc_z : rn _ _ _ _ [] _ _ _ := hc_z
        replace hc_z := rn_gotoL (am_cur_of (i := (58, 3, .goto (-58), (0, 0, 0), 0)) (by decide +kernel)) hc_z
        have ho2_z := ho (np.toNatClampNeg - 1) (by omega)
        have ho1_z := hl_z _ _ ho2_z
        replace hm_z := rn_aload_n (am_cur_of (i := (0, 1, .aload_n 0, (0, 0, 0), 0)) (by decide +kernel)) g0m hm_z
        replace hm_z := rn_getI (v := np) (am_cur_of (i := (1, 3, .getfield 280, (12, 41, 1425), 0)) (by decide +kernel)) (by decide +kernel) em hm_z
        replace hm_z := rn_if (am_cur_of (i := (4, 3, .ifCond .le 72, (42, 0, 0), 0)) (by decide +kernel)) hm_z
        rcases hm_z with ⟨b240_z, hm_z⟩ | ⟨b240_z, hm_z⟩
        · replace b240_z : np.toInt ≤ (0 : Int32).toInt := b240_z
          omega
        · replace b240_z : (0 : Int32).toInt < np.toInt := b240_z
          replace hm_z := rn_aload_n (am_cur_of (i := (7, 1, .aload_n 0, (0, 0, 0), 0)) (by decide +kernel)) g0m hm_z
          replace hm_z := rn_getR (x := 184) (am_cur_of (i := (8, 3, .getfield 72, (12, 39, 1423), 0)) (by decide +kernel)) (by decide +kernel) hm_z
          replace hm_z := rn_aload_n (am_cur_of (i := (11, 1, .aload_n 0, (0, 0, 0), 0)) (by decide +kernel)) g0m hm_z
          replace hm_z := rn_getI (v := np) (am_cur_of (i := (12, 3, .getfield 280, (12, 41, 1425), 0)) (by decide +kernel)) (by decide +kernel) em hm_z
          replace hm_z := rn_iconst (w := 1) (am_cur_of (i := (15, 1, .iconst 1, (0, 0, 0), 0)) (by decide +kernel)) (by decide) hm_z
          replace hm_z := rn_isub (w := np - 1) (am_cur_of (i := (16, 1, .isub, (0, 0, 0), 0)) (by decide +kernel)) rfl hm_z
          replace hm_z := rn_iaload (N := 96) (q := (np - 1).toNatClampNeg) (v := rg_v g 184 (np.toNatClampNeg - 1)) (am_cur_of (i := (17, 1, .iaload, (0, 0, 0), 0)) (by decide +kernel)) (by decide +kernel) rfl (by rw [show (np - 1).toNatClampNeg = np.toNatClampNeg - 1 by have := rt_cl (x := np - 1) (by omega); omega] <;> rfl) hm_z
          obtain ⟨p241_z, hm_z⟩ := hm_z
          replace hm_z := rn_callS (M' := am_m180) (ar := [.int (rg_v g 184 (np.toNatClampNeg - 1))]) (rest := []) (L := lv_args 0 [.int (rg_v g 184 (np.toNatClampNeg - 1))]) (am_cur_of (i := (18, 3, .invokestatic 283, (180, 1751, 3), 0)) (by decide +kernel)) rfl rfl rfl rfl hm_z
          obtain ⟨r242_z, h243_z, q244_z, hm_z⟩ := hm_z
          obtain ⟨rfl, yq244_z⟩ := rs_rankM q244_z
          replace yq244_z := yq244_z.symm
          subst yq244_z
          replace hm_z : rn _ _ _ _ [.int (rk_M (rg_v g 184 (np.toNatClampNeg - 1)))] _ _ _ := hm_z
          replace hm_z := rn_iload_n (am_cur_of (i := (21, 1, .iload_n 1, (0, 0, 0), 0)) (by decide +kernel)) g1m hm_z
          replace hm_z := rn_cmp (am_cur_of (i := (22, 3, .if_icmp .lt 54, (42, 0, 0), 0)) (by decide +kernel)) hm_z
          rcases hm_z with ⟨b245_z, hm_z⟩ | ⟨b245_z, hm_z⟩
          · replace b245_z : (rk_M (rg_v g 184 (np.toNatClampNeg - 1))).toInt < least.toInt := b245_z
            omega
          · replace b245_z : least.toInt ≤ (rk_M (rg_v g 184 (np.toNatClampNeg - 1))).toInt := b245_z
            replace hm_z := rn_aload_n (am_cur_of (i := (25, 1, .aload_n 0, (0, 0, 0), 0)) (by decide +kernel)) g0m hm_z
            replace hm_z := rn_dup (am_cur_of (i := (26, 1, .dup, (0, 0, 0), 0)) (by decide +kernel)) hm_z
            replace hm_z := rn_getI (v := np) (am_cur_of (i := (27, 3, .getfield 280, (12, 41, 1425), 0)) (by decide +kernel)) (by decide +kernel) em hm_z
            replace hm_z := rn_iconst (w := 1) (am_cur_of (i := (30, 1, .iconst 1, (0, 0, 0), 0)) (by decide +kernel)) (by decide) hm_z
            replace hm_z := rn_isub (w := np - 1) (am_cur_of (i := (31, 1, .isub, (0, 0, 0), 0)) (by decide +kernel)) rfl hm_z
            replace hm_z := rn_put (am_cur_of (i := (32, 3, .putfield 280, (12, 41, 1425), 0)) (by decide +kernel)) (by decide +kernel) hm_z
            replace hm_z := rn_aload_n (am_cur_of (i := (35, 1, .aload_n 0, (0, 0, 0), 0)) (by decide +kernel)) g0m hm_z
            replace hm_z := rn_getR (x := 184) (am_cur_of (i := (36, 3, .getfield 72, (12, 39, 1423), 0)) (by decide +kernel)) (by decide +kernel) hm_z
            replace hm_z := rn_aload_n (am_cur_of (i := (39, 1, .aload_n 0, (0, 0, 0), 0)) (by decide +kernel)) g0m hm_z
            replace hm_z := rn_getI (v := np - 1) (am_cur_of (i := (40, 3, .getfield 280, (12, 41, 1425), 0)) (by decide +kernel)) (by decide +kernel) (show rg_v (am_up g 164 41 (.int (np - 1))) 164 41 = np - 1 from rfl) hm_z
            replace hm_z := rn_iaload (N := 96) (q := (np - 1).toNatClampNeg) (v := rg_v g 184 (np.toNatClampNeg - 1)) (am_cur_of (i := (43, 1, .iaload, (0, 0, 0), 0)) (by decide +kernel)) (by decide +kernel) rfl (show rg_v (am_up g 164 41 (.int (np - 1))) 184 ((np - 1).toNatClampNeg) = rg_v g 184 (np.toNatClampNeg - 1) from (by rw [show (np - 1).toNatClampNeg = np.toNatClampNeg - 1 by have := rt_cl (x := np - 1) (by omega); omega] <;> rfl)) hm_z
            obtain ⟨p246_z, hm_z⟩ := hm_z
            replace hm_z := rn_istore_n (am_cur_of (i := (44, 1, .istore_n 2, (0, 0, 0), 0)) (by decide +kernel)) hm_z
            obtain ⟨_, s247_z, s248_z, g2m, hm_z⟩ := hm_z
            replace g0m := s247_z 0 _ (by decide) rfl g0m
            replace g1m := s247_z 1 _ (by decide) rfl g1m
            clear s247_z s248_z
            replace hm_z := rn_iload_n (am_cur_of (i := (45, 1, .iload_n 2, (0, 0, 0), 0)) (by decide +kernel)) g2m hm_z
            replace hm_z := rn_iconst (w := 2) (am_cur_of (i := (46, 1, .iconst 2, (0, 0, 0), 0)) (by decide +kernel)) (by decide) hm_z
            replace hm_z := rn_cmp (am_cur_of (i := (47, 3, .if_icmp .ne 7, (30, 0, 0), 0)) (by decide +kernel)) hm_z
            rcases hm_z with ⟨b249_z, hm_z⟩ | ⟨b249_z, hm_z⟩
            · replace b249_z : ¬ (rg_v g 184 (np.toNatClampNeg - 1)) = (2 : Int32) ∧ ¬ (rg_v g 184 (np.toNatClampNeg - 1)).toInt = (2 : Int32).toInt := b249_z
              replace hm_z := rn_aload_n (am_cur_of (i := (54, 1, .aload_n 0, (0, 0, 0), 0)) (by decide +kernel)) g0m hm_z
              replace hm_z := rn_callV (M' := am_m181) (o := 164) (ar := []) (rest := []) (L := lv_args 0 [.ref 164]) (am_cur_of (i := (55, 3, .invokevirtual 287, (181, 1754, 3), 0)) (by decide +kernel)) rfl rfl rfl rfl hm_z
              obtain ⟨r250_z, h251_z, q252_z, hm_z⟩ := hm_z
              obtain ⟨⟨v253_z, rfl⟩, Dq252⟩ := rs_drop q252_z
              replace hm_z : rn _ _ _ _ [.int v253_z] _ _ _ := hm_z
              replace hm_z := rn_istore_n (am_cur_of (i := (58, 1, .istore_n 3, (0, 0, 0), 0)) (by decide +kernel)) hm_z
              obtain ⟨_, s254_z, s255_z, g3m, hm_z⟩ := hm_z
              replace g0m := s254_z 0 _ (by decide) rfl g0m
              replace g1m := s254_z 1 _ (by decide) rfl g1m
              replace g2m := s254_z 2 _ (by decide) rfl g2m
              clear s254_z s255_z
              replace hm_z := rn_aload_n (am_cur_of (i := (59, 1, .aload_n 0, (0, 0, 0), 0)) (by decide +kernel)) g0m hm_z
              replace hm_z := rn_callV (M' := am_m181) (o := 164) (ar := []) (rest := []) (L := lv_args 0 [.ref 164]) (am_cur_of (i := (60, 3, .invokevirtual 287, (181, 1754, 3), 0)) (by decide +kernel)) rfl rfl rfl rfl hm_z
              obtain ⟨r256_z, h257_z, q258_z, hm_z⟩ := hm_z
              obtain ⟨⟨v259_z, rfl⟩, Dq258⟩ := rs_drop q258_z
              replace hm_z : rn _ _ _ _ [.int v259_z] _ _ _ := hm_z
              replace hm_z := rn_istore (am_cur_of (i := (63, 2, .istore 4, (0, 0, 0), 0)) (by decide +kernel)) hm_z
              obtain ⟨_, s260_z, s261_z, g4m, hm_z⟩ := hm_z
              replace g0m := s260_z 0 _ (by decide) rfl g0m
              replace g1m := s260_z 1 _ (by decide) rfl g1m
              replace g2m := s260_z 2 _ (by decide) rfl g2m
              replace g3m := s260_z 3 _ (by decide) rfl g3m
              clear s260_z s261_z
              replace hm_z := rn_aload_n (am_cur_of (i := (65, 1, .aload_n 0, (0, 0, 0), 0)) (by decide +kernel)) g0m hm_z
              replace hm_z := rn_iload_n (am_cur_of (i := (66, 1, .iload_n 2, (0, 0, 0), 0)) (by decide +kernel)) g2m hm_z
              replace hm_z := rn_iload (am_cur_of (i := (67, 2, .iload 4, (0, 0, 0), 0)) (by decide +kernel)) g4m hm_z
              replace hm_z := rn_iload_n (am_cur_of (i := (69, 1, .iload_n 3, (0, 0, 0), 0)) (by decide +kernel)) g3m hm_z
              replace hm_z := rn_callV (M' := am_m177) (o := 164) (ar := [.int v253_z, .int v259_z, .int (rg_v g 184 (np.toNatClampNeg - 1))]) (rest := []) (L := lv_args 0 [.ref 164, .int (rg_v g 184 (np.toNatClampNeg - 1)), .int v259_z, .int v253_z]) (am_cur_of (i := (70, 3, .invokevirtual 291, (177, 1739, 3), 0)) (by decide +kernel)) rfl rfl rfl rfl hm_z
              obtain ⟨r262_z, h263_z, q264_z, hm_z⟩ := hm_z
              obtain ⟨rfl, Gq264⟩ := rs_grown q264_z
              replace hm_z : rn _ _ _ _ [] _ _ _ := hm_z
              replace hm_z := rn_goto (am_cur_of (i := (73, 3, .goto (-73), (0, 0, 0), 0)) (by decide +kernel)) hm_z
              have FC : ab_Fr rs_mS23 h h238_z := ab_Fr_trans (ab_Fr_up rfl ab_Fr_refl) (fun o k e => Pq239 o k (by
                have e' : ((Nat.beq 44 o && (Nat.beq 14 0 || Nat.beq 14 (k + 1))) || ab_in rs_mP23 o k) = false := e
                rw [Bool.or_eq_false_iff] at e'
                exact e'.2))
              have FM : ab_Fr rs_mB g h263_z := ab_Fr_trans (ab_Fr_trans (ab_Fr_trans (ab_Fr_up rfl ab_Fr_refl) (rs_GB Dq252)) (rs_GB Dq258)) (rs_GB Gq264)
              have y2_z := rt_cl (x := np - 1) (by omega)
              obtain ⟨i1_z, i2_z, i3_z, i4_z, np', i5_z, i6_z, i7_z, i8_z, i9_z, i10_z⟩ := ih_z n' (np - 1) h238_z h263_z _ _ ((rg_v_fr Pq239 (by decide)).trans rfl) ((((rg_v_fr Gq264 (by decide)).trans (rg_v_fr Dq258 (by decide))).trans (rg_v_fr Dq252 (by decide))).trans rfl) (by omega) (fun i hi_z => by
                rw [rg_v_fr FC (rg_v_in (by decide) i), rg_v_fr FM (rg_v_in (by decide) i)]
                exact ho i (by omega)) ((FC 44 6 (by decide)).trans er) g0_z g1_z g0m g1m hc_z hm_z
              rw [rg_v_fr FC (rg_v_in (by decide) _)] at i10_z
              refine ⟨i1_z, i2_z, ab_Fr_trans FC i3_z, ab_Fr_trans FM i4_z, np', i5_z, i6_z, i7_z, by omega, ?_, i10_z⟩
              have ec_z := rs_cnt_fr (g := g) (g' := h263_z) (fun k => rg_v_fr FM (rg_v_in (by decide) k))
              rw [ec_z, ec_z] at i9_z
              rw [i9_z, show np.toNatClampNeg = (np - 1).toNatClampNeg + 1 by omega]
              show _ = rs_cnt g (np - 1).toNatClampNeg + (if rg_v g 184 (np - 1).toNatClampNeg = 0 then 1 else 0)
              have hz0_z : ¬ rg_v g 184 (np - 1).toNatClampNeg = 0 := by
                intro qz
                rw [show np.toNatClampNeg - 1 = (np - 1).toNatClampNeg by omega, qz] at b245_z
                have zr : (rk_M 0).toInt = 0 := by decide
                omega
              rw [if_neg hz0_z]
              rfl
            · replace b249_z : (rg_v g 184 (np.toNatClampNeg - 1)) = (2 : Int32) ∧ (rg_v g 184 (np.toNatClampNeg - 1)).toInt = (2 : Int32).toInt := b249_z
              replace hm_z := rn_iconst (w := (-1)) (am_cur_of (i := (50, 1, .iconst (-1), (0, 0, 0), 0)) (by decide +kernel)) (by decide) hm_z
              replace hm_z := rn_goto (am_cur_of (i := (51, 3, .goto 7, (32, 0, 0), 0)) (by decide +kernel)) hm_z
              replace hm_z := rn_istore_n (am_cur_of (i := (58, 1, .istore_n 3, (0, 0, 0), 0)) (by decide +kernel)) hm_z
              obtain ⟨_, s265_z, s266_z, g3m, hm_z⟩ := hm_z
              replace g0m := s265_z 0 _ (by decide) rfl g0m
              replace g1m := s265_z 1 _ (by decide) rfl g1m
              replace g2m := s265_z 2 _ (by decide) rfl g2m
              clear s265_z s266_z
              replace hm_z := rn_aload_n (am_cur_of (i := (59, 1, .aload_n 0, (0, 0, 0), 0)) (by decide +kernel)) g0m hm_z
              replace hm_z := rn_callV (M' := am_m181) (o := 164) (ar := []) (rest := []) (L := lv_args 0 [.ref 164]) (am_cur_of (i := (60, 3, .invokevirtual 287, (181, 1754, 3), 0)) (by decide +kernel)) rfl rfl rfl rfl hm_z
              obtain ⟨r267_z, h268_z, q269_z, hm_z⟩ := hm_z
              obtain ⟨⟨v270_z, rfl⟩, Dq269⟩ := rs_drop q269_z
              replace hm_z : rn _ _ _ _ [.int v270_z] _ _ _ := hm_z
              replace hm_z := rn_istore (am_cur_of (i := (63, 2, .istore 4, (0, 0, 0), 0)) (by decide +kernel)) hm_z
              obtain ⟨_, s271_z, s272_z, g4m, hm_z⟩ := hm_z
              replace g0m := s271_z 0 _ (by decide) rfl g0m
              replace g1m := s271_z 1 _ (by decide) rfl g1m
              replace g2m := s271_z 2 _ (by decide) rfl g2m
              replace g3m := s271_z 3 _ (by decide) rfl g3m
              clear s271_z s272_z
              replace hm_z := rn_aload_n (am_cur_of (i := (65, 1, .aload_n 0, (0, 0, 0), 0)) (by decide +kernel)) g0m hm_z
              replace hm_z := rn_iload_n (am_cur_of (i := (66, 1, .iload_n 2, (0, 0, 0), 0)) (by decide +kernel)) g2m hm_z
              replace hm_z := rn_iload (am_cur_of (i := (67, 2, .iload 4, (0, 0, 0), 0)) (by decide +kernel)) g4m hm_z
              replace hm_z := rn_iload_n (am_cur_of (i := (69, 1, .iload_n 3, (0, 0, 0), 0)) (by decide +kernel)) g3m hm_z
              replace hm_z := rn_callV (M' := am_m177) (o := 164) (ar := [.int (-1), .int v270_z, .int (rg_v g 184 (np.toNatClampNeg - 1))]) (rest := []) (L := lv_args 0 [.ref 164, .int (rg_v g 184 (np.toNatClampNeg - 1)), .int v270_z, .int (-1)]) (am_cur_of (i := (70, 3, .invokevirtual 291, (177, 1739, 3), 0)) (by decide +kernel)) rfl rfl rfl rfl hm_z
              obtain ⟨r273_z, h274_z, q275_z, hm_z⟩ := hm_z
              obtain ⟨rfl, Gq275⟩ := rs_grown q275_z
              replace hm_z : rn _ _ _ _ [] _ _ _ := hm_z
              replace hm_z := rn_goto (am_cur_of (i := (73, 3, .goto (-73), (0, 0, 0), 0)) (by decide +kernel)) hm_z
              have FC : ab_Fr rs_mS23 h h238_z := ab_Fr_trans (ab_Fr_up rfl ab_Fr_refl) (fun o k e => Pq239 o k (by
                have e' : ((Nat.beq 44 o && (Nat.beq 14 0 || Nat.beq 14 (k + 1))) || ab_in rs_mP23 o k) = false := e
                rw [Bool.or_eq_false_iff] at e'
                exact e'.2))
              have FM : ab_Fr rs_mB g h274_z := ab_Fr_trans (ab_Fr_trans (ab_Fr_up rfl ab_Fr_refl) (rs_GB Dq269)) (rs_GB Gq275)
              have y2_z := rt_cl (x := np - 1) (by omega)
              obtain ⟨i1_z, i2_z, i3_z, i4_z, np', i5_z, i6_z, i7_z, i8_z, i9_z, i10_z⟩ := ih_z n' (np - 1) h238_z h274_z _ _ ((rg_v_fr Pq239 (by decide)).trans rfl) (((rg_v_fr Gq275 (by decide)).trans (rg_v_fr Dq269 (by decide))).trans rfl) (by omega) (fun i hi_z => by
                rw [rg_v_fr FC (rg_v_in (by decide) i), rg_v_fr FM (rg_v_in (by decide) i)]
                exact ho i (by omega)) ((FC 44 6 (by decide)).trans er) g0_z g1_z g0m g1m hc_z hm_z
              rw [rg_v_fr FC (rg_v_in (by decide) _)] at i10_z
              refine ⟨i1_z, i2_z, ab_Fr_trans FC i3_z, ab_Fr_trans FM i4_z, np', i5_z, i6_z, i7_z, by omega, ?_, i10_z⟩
              have ec_z := rs_cnt_fr (g := g) (g' := h274_z) (fun k => rg_v_fr FM (rg_v_in (by decide) k))
              rw [ec_z, ec_z] at i9_z
              rw [i9_z, show np.toNatClampNeg = (np - 1).toNatClampNeg + 1 by omega]
              show _ = rs_cnt g (np - 1).toNatClampNeg + (if rg_v g 184 (np - 1).toNatClampNeg = 0 then 1 else 0)
              have hz0_z : ¬ rg_v g 184 (np - 1).toNatClampNeg = 0 := by
                intro qz
                rw [show np.toNatClampNeg - 1 = (np - 1).toNatClampNeg by omega, qz] at b245_z
                have zr : (rk_M 0).toInt = 0 := by decide
                omega
              rw [if_neg hz0_z]
              rfl
