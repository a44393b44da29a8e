set_option maxHeartbeats 400000
/-! ===== lawOf, valueOf OF THE MODEL (wip/r/gen99sk.py) ===== -/
/-- one knot over the values -/
def mvS (K A B : Int32) (M : Nat → Int64) (V : Nat → Int) : Option Int := if K = 0 then some A.toInt else if K = 1 then some (M A.toNatClampNeg).toInt else if K = 2 then lwT (V A.toNatClampNeg = 0) else mZ K (V A.toNatClampNeg) (V B.toNatClampNeg)
def mvF (K A B : Nat → Int32) (M : Nat → Int64) (f : Nat) (V0 : Nat → Int) : Nat → Option (Nat → Int)
  | 0 => some V0
  | m + 1 => match mvF K A B M f V0 m with
    | none => none
    | some V => match mvS (K (f + m)) (A (f + m)) (B (f + m)) M V with
      | none => none
      | some z => some (fun j => if j = f + m then z else V j)
/-- what a part of the model answers: the value; none: isError -/
def mO (q : Option Int) (w : Int) (E : Int32) : Prop := match q with
  | some z => w = z ∧ E = 0
  | none => ¬ E = 0
theorem mvF_n {K A B : Nat → Int32} {M : Nat → Int64} {f m : Nat} {V0 : Nat → Int} (e : mvF K A B M f V0 m = none) : mvF K A B M f V0 (m + 1) = none := by
  show (match mvF K A B M f V0 m with
    | none => none
    | some V => match mvS (K (f + m)) (A (f + m)) (B (f + m)) M V with
      | none => none
      | some z => some (fun j => if j = f + m then z else V j)) = none
  rw [e]
theorem mvF_s {K A B : Nat → Int32} {M : Nat → Int64} {f m : Nat} {V0 V : Nat → Int} {z : Int} (e : mvF K A B M f V0 m = some V) (p : mvS (K (f + m)) (A (f + m)) (B (f + m)) M V = some z) : mvF K A B M f V0 (m + 1) = some (fun j => if j = f + m then z else V j) := by
  show (match mvF K A B M f V0 m with
    | none => none
    | some V => match mvS (K (f + m)) (A (f + m)) (B (f + m)) M V with
      | none => none
      | some z => some (fun j => if j = f + m then z else V j)) = _
  rw [e]
  show (match mvS (K (f + m)) (A (f + m)) (B (f + m)) M V with
      | none => none
      | some z => some (fun j => if j = f + m then z else V j)) = _
  rw [p]
theorem mvF_e {K A B : Nat → Int32} {M : Nat → Int64} {f m : Nat} {V0 V : Nat → Int} (e : mvF K A B M f V0 m = some V) (p : mvS (K (f + m)) (A (f + m)) (B (f + m)) M V = none) : mvF K A B M f V0 (m + 1) = none := by
  show (match mvF K A B M f V0 m with
    | none => none
    | some V => match mvS (K (f + m)) (A (f + m)) (B (f + m)) M V with
      | none => none
      | some z => some (fun j => if j = f + m then z else V j)) = _
  rw [e]
  show (match mvS (K (f + m)) (A (f + m)) (B (f + m)) M V with
      | none => none
      | some z => some (fun j => if j = f + m then z else V j)) = _
  rw [p]
theorem mvS_0 {A B : Int32} {M : Nat → Int64} {V : Nat → Int} : mvS 0 A B M V = some A.toInt := by
  unfold mvS
  rw [if_pos rfl]
theorem mvS_1 {A B : Int32} {M : Nat → Int64} {V : Nat → Int} : mvS 1 A B M V = some (M A.toNatClampNeg).toInt := by
  unfold mvS
  rw [if_neg (by decide), if_pos rfl]
theorem mvS_2 {A B : Int32} {M : Nat → Int64} {V : Nat → Int} : mvS 2 A B M V = lwT (V A.toNatClampNeg = 0) := by
  unfold mvS
  rw [if_neg (by decide), if_neg (by decide), if_pos rfl]
theorem mvS_j {K A B : Int32} {M : Nat → Int64} {V : Nat → Int} (n0_z : ¬ K = 0) (n1_z : ¬ K = 1) (n2_z : ¬ K = 2) : mvS K A B M V = mZ K (V A.toNatClampNeg) (V B.toNatClampNeg) := by
  unfold mvS
  rw [if_neg n0_z, if_neg n1_z, if_neg n2_z]
theorem mO_s {z w : Int} {E : Int32} (e : w = z) (h : E = 0) : mO (some z) w E := ⟨e, h⟩
theorem mO_1 {p : Prop} [Decidable p] {w : Int} {E : Int32} (c : p) (e : w = 1) (h : E = 0) : mO (lwT p) w E := by
  rw [lwT_1 c]
  exact ⟨e, h⟩
theorem mO_0 {p : Prop} [Decidable p] {w : Int} {E : Int32} (c : ¬ p) (e : w = 0) (h : E = 0) : mO (lwT p) w E := by
  rw [lwT_0 c]
  exact ⟨e, h⟩
theorem mO_L {z w : Int} {E : Int32} (hz_z : lB z) (e : w = z) (h : E = 0) : mO (lwL z) w E := by
  unfold lwL
  rw [if_pos (show -1000000000000 ≤ z ∧ z ≤ 1000000000000 from hz_z)]
  exact ⟨e, h⟩
theorem mO_N {z w : Int} {E : Int32} (hz_z : z < -1000000000000 ∨ 1000000000000 < z) (h : ¬ E = 0) : mO (lwL z) w E := by
  unfold lwL
  rw [if_neg (by omega)]
  exact h
theorem mj_3 {a b : Int} : mZ 4 a b = jZ 3 a b := by
  rw [mZ_4, jZ_3]
theorem mj_4 {a b : Int} : mZ 3 a b = jZ 4 a b := by
  rw [mZ_3, jZ_4]
theorem mj_6 {a b : Int} : mZ 5 a b = jZ 6 a b := by
  rw [mZ_z (by decide) (by decide) (by decide) (by decide) (by decide) (by decide), cZ_5, jZ_6]
theorem mj_7 {a b : Int} : mZ 6 a b = jZ 7 a b := by
  rw [mZ_z (by decide) (by decide) (by decide) (by decide) (by decide) (by decide), cZ_6, jZ_7]
theorem mj_8 {a b : Int} : mZ 7 a b = jZ 8 a b := by
  rw [mZ_z (by decide) (by decide) (by decide) (by decide) (by decide) (by decide), cZ_7, jZ_8]
theorem mj_9 {a b : Int} : mZ 8 a b = jZ 9 a b := by
  rw [mZ_z (by decide) (by decide) (by decide) (by decide) (by decide) (by decide), cZ_8, jZ_9]
theorem mj_10 {a b : Int} : mZ 9 a b = jZ 10 a b := by
  rw [mZ_z (by decide) (by decide) (by decide) (by decide) (by decide) (by decide), cZ_9, jZ_10]
theorem mj_11 {a b : Int} : mZ 10 a b = jZ 11 a b := by
  rw [mZ_z (by decide) (by decide) (by decide) (by decide) (by decide) (by decide), cZ_z (by decide) (by decide) (by decide) (by decide) (by decide), jZ_z (by decide) (by decide) (by decide) (by decide) (by decide) (by decide) (by decide) (by decide) (by decide) (by decide) (by decide)]
theorem mj_12 {a b : Int} : mZ 11 a b = jZ 12 a b := by
  rw [mZ_11, jZ_12]
theorem mj_13 {a b : Int} : mZ 12 a b = jZ 13 a b := by
  rw [mZ_12, jZ_13]
theorem mj_14 {a b : Int} : mZ 13 a b = jZ 14 a b := by
  rw [mZ_13, jZ_14]
theorem mj_15 {a b : Int} : mZ 14 a b = jZ 15 a b := by
  rw [mZ_14, jZ_15]
theorem mZ_b {k : Int32} {a b z : Int} (A : lB a) (e : mZ k a b = some z) : lB z := by
  by_cases c4_z : k = 4
  · rw [c4_z, mj_3] at e
    exact jZ_b A e
  by_cases c3_z : k = 3
  · rw [c3_z, mj_4] at e
    exact jZ_b A e
  by_cases c5_z : k = 5
  · rw [c5_z, mj_6] at e
    exact jZ_b A e
  by_cases c6_z : k = 6
  · rw [c6_z, mj_7] at e
    exact jZ_b A e
  by_cases c7_z : k = 7
  · rw [c7_z, mj_8] at e
    exact jZ_b A e
  by_cases c8_z : k = 8
  · rw [c8_z, mj_9] at e
    exact jZ_b A e
  by_cases c9_z : k = 9
  · rw [c9_z, mj_10] at e
    exact jZ_b A e
  by_cases c10_z : k = 10
  · rw [c10_z, mj_11] at e
    exact jZ_b A e
  by_cases c11_z : k = 11
  · rw [c11_z, mj_12] at e
    exact jZ_b A e
  by_cases c12_z : k = 12
  · rw [c12_z, mj_13] at e
    exact jZ_b A e
  by_cases c13_z : k = 13
  · rw [c13_z, mj_14] at e
    exact jZ_b A e
  by_cases c14_z : k = 14
  · rw [c14_z, mj_15] at e
    exact jZ_b A e
  rw [mZ_z c3_z c4_z c11_z c12_z c13_z c14_z, cZ_z c5_z c6_z c7_z c8_z c9_z] at e
  exact jZ_b A ((jZ_z (o := 11) (by decide) (by decide) (by decide) (by decide) (by decide) (by decide) (by decide) (by decide) (by decide) (by decide) (by decide)).trans e)
theorem bd_193 {n : Nat} {r : Option Value} {g g' : am_H} {x : Int64} (hm_z : rn n am_m193 0 (lv_args 0 [.ref 164, .long x]) [] g r g') : ∃ w : Int64, r = some (.long w) ∧ (∀ o q, ¬ (o = 164 ∧ q = 49) → g' o q = g o q) ∧ (rg_v g 164 49 = 0 → mO (lwL x.toInt) w.toInt (rg_v g' 164 49)) ∧ (¬ rg_v g 164 49 = 0 → ¬ rg_v g' 164 49 = 0) := by
  have z0_z : (0 : Int32).toInt = 0 := by decide
  have zM := lw_M
  have zm := lw_m
  have zz := lw_z
  have g0_z : am_get (lv_args 0 [.ref 164, .long x]) 0 = some (.ref 164) := rfl
  have g1_z : am_get (lv_args 0 [.ref 164, .long x]) 1 = some (.long x) := rfl
  replace hm_z := rn_aload_n (am_cur_of (i := (0, 1, .aload_n 0, (0, 0, 0), 0)) (by decide +kernel)) g0_z hm_z
  replace hm_z := rn_aload_n (am_cur_of (i := (1, 1, .aload_n 0, (0, 0, 0), 0)) (by decide +kernel)) g0_z hm_z
  replace hm_z := rn_getI (v := rg_v g 164 49) (am_cur_of (i := (2, 3, .getfield 327, (12, 49, 1433), 0)) (by decide +kernel)) (by decide +kernel) rfl hm_z
  replace hm_z := rn_if (am_cur_of (i := (5, 3, .ifCond .ne 19, (12, 0, 0), 0)) (by decide +kernel)) hm_z
  rcases hm_z with ⟨b246_z, hm_z⟩ | ⟨b246_z, hm_z⟩
  · replace b246_z : ¬ (rg_v g 164 49) = (0 : Int32) ∧ ¬ (rg_v g 164 49).toInt = (0 : Int32).toInt := b246_z
    replace hm_z := rn_iconst (w := 1) (am_cur_of (i := (24, 1, .iconst 1, (0, 0, 0), 0)) (by decide +kernel)) (by decide) hm_z
    replace hm_z := rn_goto (am_cur_of (i := (25, 3, .goto 4, (15, 0, 0), 0)) (by decide +kernel)) hm_z
    replace hm_z := rn_put (am_cur_of (i := (29, 3, .putfield 327, (12, 49, 1433), 0)) (by decide +kernel)) (by decide +kernel) hm_z
    replace hm_z := rn_aload_n (am_cur_of (i := (32, 1, .aload_n 0, (0, 0, 0), 0)) (by decide +kernel)) g0_z hm_z
    replace hm_z := rn_getI (v := 1) (am_cur_of (i := (33, 3, .getfield 327, (12, 49, 1433), 0)) (by decide +kernel)) (by decide +kernel) rg_v_self hm_z
    replace hm_z := rn_ifF (am_cur_of (i := (36, 3, .ifCond .eq 7, (21, 0, 0), 0)) (by decide +kernel)) (by decide) hm_z
    replace hm_z := rn_lconst (w := 0) (am_cur_of (i := (39, 1, .lconst 0, (0, 0, 0), 0)) (by decide +kernel)) rfl hm_z
    replace hm_z := rn_goto (am_cur_of (i := (40, 3, .goto 4, (22, 0, 0), 0)) (by decide +kernel)) hm_z
    replace hm_z := rn_lret (am_cur_of (i := (44, 1, .lreturn, (0, 0, 0), 0)) (by decide +kernel)) hm_z
    obtain ⟨e247_z, e248_z⟩ := hm_z
    refine ⟨_, e247_z, fun o q ho => ?_, fun e0_z => ?_, fun e1_z => ?_⟩
    · rw [e248_z]
      exact (up_ne (fun z => ho z)).trans (rfl)
    · exact absurd e0_z b246_z.1
    · rw [e248_z, rg_v_self]
      decide
  · replace b246_z : (rg_v g 164 49) = (0 : Int32) ∧ (rg_v g 164 49).toInt = (0 : Int32).toInt := b246_z
    replace hm_z := rn_lload_n (am_cur_of (i := (8, 1, .lload_n 1, (0, 0, 0), 0)) (by decide +kernel)) g1_z hm_z
    replace hm_z := rn_ldc2 (w := 1000000000000) (am_cur_of (i := (9, 3, .ldc2_w 330, (0, 0, 1807), 1000000000000)) (by decide +kernel)) (by decide) hm_z
    replace hm_z := rn_lcmp (w := lg_cmp x 1000000000000) (am_cur_of (i := (12, 1, .lcmp, (0, 0, 0), 0)) (by decide +kernel)) rfl hm_z
    replace hm_z := rn_if (am_cur_of (i := (13, 3, .ifCond .gt 11, (12, 0, 0), 0)) (by decide +kernel)) hm_z
    rcases hm_z with ⟨b249_z, hm_z⟩ | ⟨b249_z, hm_z⟩
    · replace b249_z : (0 : Int32).toInt < (lg_cmp x 1000000000000).toInt := b249_z
      replace b249_z := lgc_gt b249_z
      replace hm_z := rn_iconst (w := 1) (am_cur_of (i := (24, 1, .iconst 1, (0, 0, 0), 0)) (by decide +kernel)) (by decide) hm_z
      replace hm_z := rn_goto (am_cur_of (i := (25, 3, .goto 4, (15, 0, 0), 0)) (by decide +kernel)) hm_z
      replace hm_z := rn_put (am_cur_of (i := (29, 3, .putfield 327, (12, 49, 1433), 0)) (by decide +kernel)) (by decide +kernel) hm_z
      replace hm_z := rn_aload_n (am_cur_of (i := (32, 1, .aload_n 0, (0, 0, 0), 0)) (by decide +kernel)) g0_z hm_z
      replace hm_z := rn_getI (v := 1) (am_cur_of (i := (33, 3, .getfield 327, (12, 49, 1433), 0)) (by decide +kernel)) (by decide +kernel) rg_v_self hm_z
      replace hm_z := rn_ifF (am_cur_of (i := (36, 3, .ifCond .eq 7, (21, 0, 0), 0)) (by decide +kernel)) (by decide) hm_z
      replace hm_z := rn_lconst (w := 0) (am_cur_of (i := (39, 1, .lconst 0, (0, 0, 0), 0)) (by decide +kernel)) rfl hm_z
      replace hm_z := rn_goto (am_cur_of (i := (40, 3, .goto 4, (22, 0, 0), 0)) (by decide +kernel)) hm_z
      replace hm_z := rn_lret (am_cur_of (i := (44, 1, .lreturn, (0, 0, 0), 0)) (by decide +kernel)) hm_z
      obtain ⟨e250_z, e251_z⟩ := hm_z
      refine ⟨_, e250_z, fun o q ho => ?_, fun e0_z => ?_, fun e1_z => ?_⟩
      · rw [e251_z]
        exact (up_ne (fun z => ho z)).trans (rfl)
      · exact mO_N (by omega) (by rw [e251_z, rg_v_self]; decide)
      · exact absurd b246_z.1 e1_z
    · replace b249_z : (lg_cmp x 1000000000000).toInt ≤ (0 : Int32).toInt := b249_z
      replace b249_z := lgc_le b249_z
      replace hm_z := rn_lload_n (am_cur_of (i := (16, 1, .lload_n 1, (0, 0, 0), 0)) (by decide +kernel)) g1_z hm_z
      replace hm_z := rn_ldc2 (w := (-1000000000000)) (am_cur_of (i := (17, 3, .ldc2_w 332, (0, 0, 1808), (-1000000000000))) (by decide +kernel)) (by decide) hm_z
      replace hm_z := rn_lcmp (w := lg_cmp x (-1000000000000)) (am_cur_of (i := (20, 1, .lcmp, (0, 0, 0), 0)) (by decide +kernel)) rfl hm_z
      replace hm_z := rn_if (am_cur_of (i := (21, 3, .ifCond .ge 7, (14, 0, 0), 0)) (by decide +kernel)) hm_z
      rcases hm_z with ⟨b252_z, hm_z⟩ | ⟨b252_z, hm_z⟩
      · replace b252_z : (0 : Int32).toInt ≤ (lg_cmp x (-1000000000000)).toInt := b252_z
        replace b252_z := lgc_ge b252_z
        replace hm_z := rn_iconst (w := 0) (am_cur_of (i := (28, 1, .iconst 0, (0, 0, 0), 0)) (by decide +kernel)) (by decide) hm_z
        replace hm_z := rn_put (am_cur_of (i := (29, 3, .putfield 327, (12, 49, 1433), 0)) (by decide +kernel)) (by decide +kernel) hm_z
        replace hm_z := rn_aload_n (am_cur_of (i := (32, 1, .aload_n 0, (0, 0, 0), 0)) (by decide +kernel)) g0_z hm_z
        replace hm_z := rn_getI (v := 0) (am_cur_of (i := (33, 3, .getfield 327, (12, 49, 1433), 0)) (by decide +kernel)) (by decide +kernel) rg_v_self hm_z
        replace hm_z := rn_ifT (am_cur_of (i := (36, 3, .ifCond .eq 7, (21, 0, 0), 0)) (by decide +kernel)) (by decide) hm_z
        replace hm_z := rn_lload_n (am_cur_of (i := (43, 1, .lload_n 1, (0, 0, 0), 0)) (by decide +kernel)) g1_z hm_z
        replace hm_z := rn_lret (am_cur_of (i := (44, 1, .lreturn, (0, 0, 0), 0)) (by decide +kernel)) hm_z
        obtain ⟨e253_z, e254_z⟩ := hm_z
        refine ⟨_, e253_z, fun o q ho => ?_, fun e0_z => ?_, fun e1_z => ?_⟩
        · rw [e254_z]
          exact (up_ne (fun z => ho z)).trans (rfl)
        · exact mO_L ⟨by omega, by omega⟩ rfl (by rw [e254_z, rg_v_self])
        · exact absurd b246_z.1 e1_z
      · replace b252_z : (lg_cmp x (-1000000000000)).toInt < (0 : Int32).toInt := b252_z
        replace b252_z := lgc_lt b252_z
        replace hm_z := rn_iconst (w := 1) (am_cur_of (i := (24, 1, .iconst 1, (0, 0, 0), 0)) (by decide +kernel)) (by decide) hm_z
        replace hm_z := rn_goto (am_cur_of (i := (25, 3, .goto 4, (15, 0, 0), 0)) (by decide +kernel)) hm_z
        replace hm_z := rn_put (am_cur_of (i := (29, 3, .putfield 327, (12, 49, 1433), 0)) (by decide +kernel)) (by decide +kernel) hm_z
        replace hm_z := rn_aload_n (am_cur_of (i := (32, 1, .aload_n 0, (0, 0, 0), 0)) (by decide +kernel)) g0_z hm_z
        replace hm_z := rn_getI (v := 1) (am_cur_of (i := (33, 3, .getfield 327, (12, 49, 1433), 0)) (by decide +kernel)) (by decide +kernel) rg_v_self hm_z
        replace hm_z := rn_ifF (am_cur_of (i := (36, 3, .ifCond .eq 7, (21, 0, 0), 0)) (by decide +kernel)) (by decide) hm_z
        replace hm_z := rn_lconst (w := 0) (am_cur_of (i := (39, 1, .lconst 0, (0, 0, 0), 0)) (by decide +kernel)) rfl hm_z
        replace hm_z := rn_goto (am_cur_of (i := (40, 3, .goto 4, (22, 0, 0), 0)) (by decide +kernel)) hm_z
        replace hm_z := rn_lret (am_cur_of (i := (44, 1, .lreturn, (0, 0, 0), 0)) (by decide +kernel)) hm_z
        obtain ⟨e255_z, e256_z⟩ := hm_z
        refine ⟨_, e255_z, fun o q ho => ?_, fun e0_z => ?_, fun e1_z => ?_⟩
        · rw [e256_z]
          exact (up_ne (fun z => ho z)).trans (rfl)
        · exact mO_N (by omega) (by rw [e256_z, rg_v_self]; decide)
        · exact absurd b246_z.1 e1_z
theorem tm_194 {n : Nat} {r : Option Value} {g g' : am_H} {a b : Int64} (hb_z : rg_v g 164 49 = 0 → lB a.toInt ∧ lB b.toInt) (hm_z : rn n am_m194 0 (lv_args 0 [.ref 164, .long a, .long b]) [] g r g') : ∃ w : Int64, r = some (.long w) ∧ (∀ o q, ¬ (o = 164 ∧ q = 49) → g' o q = g o q) ∧ (rg_v g 164 49 = 0 → mO (lwL (a.toInt * b.toInt)) w.toInt (rg_v g' 164 49)) ∧ (¬ rg_v g 164 49 = 0 → ¬ rg_v g' 164 49 = 0) := by
  have z0_z : (0 : Int32).toInt = 0 := by decide
  have zM := lw_M
  have zm := lw_m
  have zz := lw_z
  have g0_z : am_get (lv_args 0 [.ref 164, .long a, .long b]) 0 = some (.ref 164) := rfl
  have g1_z : am_get (lv_args 0 [.ref 164, .long a, .long b]) 1 = some (.long a) := rfl
  have g3_z : am_get (lv_args 0 [.ref 164, .long a, .long b]) 3 = some (.long b) := rfl
  replace hm_z := rn_lload_n (am_cur_of (i := (0, 1, .lload_n 1, (0, 0, 0), 0)) (by decide +kernel)) g1_z hm_z
  replace hm_z := rn_lconst (w := 0) (am_cur_of (i := (1, 1, .lconst 0, (0, 0, 0), 0)) (by decide +kernel)) rfl hm_z
  replace hm_z := rn_lcmp (w := lg_cmp a 0) (am_cur_of (i := (2, 1, .lcmp, (0, 0, 0), 0)) (by decide +kernel)) rfl hm_z
  replace hm_z := rn_if (am_cur_of (i := (3, 3, .ifCond .eq 45, (30, 0, 0), 0)) (by decide +kernel)) hm_z
  rcases hm_z with ⟨b257_z, hm_z⟩ | ⟨b257_z, hm_z⟩
  · replace b257_z : (lg_cmp a 0) = (0 : Int32) ∧ (lg_cmp a 0).toInt = (0 : Int32).toInt := b257_z
    replace b257_z := lgc_eq b257_z
    replace hm_z := rn_iconst (w := 0) (am_cur_of (i := (48, 1, .iconst 0, (0, 0, 0), 0)) (by decide +kernel)) (by decide) hm_z
    replace hm_z := rn_istore (am_cur_of (i := (49, 2, .istore 5, (0, 0, 0), 0)) (by decide +kernel)) hm_z
    obtain ⟨_, s258_z, s259_z, g5_z, hm_z⟩ := hm_z
    replace g0_z := s258_z 0 _ (by decide) rfl g0_z
    replace g1_z := s259_z 1 _ (by decide) (by decide) g1_z
    replace g3_z := s259_z 3 _ (by decide) (by decide) g3_z
    clear s258_z s259_z
    replace hm_z := rn_aload_n (am_cur_of (i := (51, 1, .aload_n 0, (0, 0, 0), 0)) (by decide +kernel)) g0_z hm_z
    replace hm_z := rn_aload_n (am_cur_of (i := (52, 1, .aload_n 0, (0, 0, 0), 0)) (by decide +kernel)) g0_z hm_z
    replace hm_z := rn_getI (v := rg_v g 164 49) (am_cur_of (i := (53, 3, .getfield 327, (12, 49, 1433), 0)) (by decide +kernel)) (by decide +kernel) rfl hm_z
    replace hm_z := rn_if (am_cur_of (i := (56, 3, .ifCond .ne 8, (38, 0, 0), 0)) (by decide +kernel)) hm_z
    rcases hm_z with ⟨b260_z, hm_z⟩ | ⟨b260_z, hm_z⟩
    · replace b260_z : ¬ (rg_v g 164 49) = (0 : Int32) ∧ ¬ (rg_v g 164 49).toInt = (0 : Int32).toInt := b260_z
      replace hm_z := rn_iconst (w := 1) (am_cur_of (i := (64, 1, .iconst 1, (0, 0, 0), 0)) (by decide +kernel)) (by decide) hm_z
      replace hm_z := rn_goto (am_cur_of (i := (65, 3, .goto 4, (41, 0, 0), 0)) (by decide +kernel)) hm_z
      replace hm_z := rn_put (am_cur_of (i := (69, 3, .putfield 327, (12, 49, 1433), 0)) (by decide +kernel)) (by decide +kernel) hm_z
      replace hm_z := rn_aload_n (am_cur_of (i := (72, 1, .aload_n 0, (0, 0, 0), 0)) (by decide +kernel)) g0_z hm_z
      replace hm_z := rn_getI (v := 1) (am_cur_of (i := (73, 3, .getfield 327, (12, 49, 1433), 0)) (by decide +kernel)) (by decide +kernel) rg_v_self hm_z
      replace hm_z := rn_ifF (am_cur_of (i := (76, 3, .ifCond .eq 7, (47, 0, 0), 0)) (by decide +kernel)) (by decide) hm_z
      replace hm_z := rn_lconst (w := 0) (am_cur_of (i := (79, 1, .lconst 0, (0, 0, 0), 0)) (by decide +kernel)) rfl hm_z
      replace hm_z := rn_goto (am_cur_of (i := (80, 3, .goto 6, (50, 0, 0), 0)) (by decide +kernel)) hm_z
      replace hm_z := rn_lret (am_cur_of (i := (86, 1, .lreturn, (0, 0, 0), 0)) (by decide +kernel)) hm_z
      obtain ⟨e261_z, e262_z⟩ := hm_z
      refine ⟨_, e261_z, fun o q ho => ?_, fun e0_z => ?_, fun e1_z => ?_⟩
      · rw [e262_z]
        exact (up_ne (fun z => ho z)).trans (rfl)
      · exact absurd e0_z b260_z.1
      · rw [e262_z, rg_v_self]
        decide
    · replace b260_z : (rg_v g 164 49) = (0 : Int32) ∧ (rg_v g 164 49).toInt = (0 : Int32).toInt := b260_z
      replace hm_z := rn_iload (am_cur_of (i := (59, 2, .iload 5, (0, 0, 0), 0)) (by decide +kernel)) g5_z hm_z
      replace hm_z := rn_ifT (am_cur_of (i := (61, 3, .ifCond .eq 7, (40, 0, 0), 0)) (by decide +kernel)) (by decide) hm_z
      replace hm_z := rn_iconst (w := 0) (am_cur_of (i := (68, 1, .iconst 0, (0, 0, 0), 0)) (by decide +kernel)) (by decide) hm_z
      replace hm_z := rn_put (am_cur_of (i := (69, 3, .putfield 327, (12, 49, 1433), 0)) (by decide +kernel)) (by decide +kernel) hm_z
      replace hm_z := rn_aload_n (am_cur_of (i := (72, 1, .aload_n 0, (0, 0, 0), 0)) (by decide +kernel)) g0_z hm_z
      replace hm_z := rn_getI (v := 0) (am_cur_of (i := (73, 3, .getfield 327, (12, 49, 1433), 0)) (by decide +kernel)) (by decide +kernel) rg_v_self hm_z
      replace hm_z := rn_ifT (am_cur_of (i := (76, 3, .ifCond .eq 7, (47, 0, 0), 0)) (by decide +kernel)) (by decide) hm_z
      replace hm_z := rn_lload_n (am_cur_of (i := (83, 1, .lload_n 1, (0, 0, 0), 0)) (by decide +kernel)) g1_z hm_z
      replace hm_z := rn_lload_n (am_cur_of (i := (84, 1, .lload_n 3, (0, 0, 0), 0)) (by decide +kernel)) g3_z hm_z
      replace hm_z := rn_lmul (w := a * b) (am_cur_of (i := (85, 1, .lmul, (0, 0, 0), 0)) (by decide +kernel)) rfl hm_z
      replace hm_z := rn_lret (am_cur_of (i := (86, 1, .lreturn, (0, 0, 0), 0)) (by decide +kernel)) hm_z
      obtain ⟨e263_z, e264_z⟩ := hm_z
      refine ⟨_, e263_z, fun o q ho => ?_, fun e0_z => ?_, fun e1_z => ?_⟩
      · rw [e264_z]
        exact (up_ne (fun z => ho z)).trans (rfl)
      · obtain ⟨A, B⟩ := hb_z e0_z
        have e2_z : a.toInt * b.toInt = 0 := by
          first
            | rw [show a.toInt = 0 by omega, Int.zero_mul]
            | rw [show b.toInt = 0 by omega, Int.mul_zero]
        have eb : lB (a.toInt * b.toInt) := by rw [e2_z]; exact ⟨by decide, by decide⟩
        exact mO_L eb (lw_mul eb) (by rw [e264_z, rg_v_self])
      · exact absurd b260_z.1 e1_z
  · replace b257_z : ¬ (lg_cmp a 0) = (0 : Int32) ∧ ¬ (lg_cmp a 0).toInt = (0 : Int32).toInt := b257_z
    replace b257_z := lgc_ne b257_z
    replace hm_z := rn_lload_n (am_cur_of (i := (6, 1, .lload_n 3, (0, 0, 0), 0)) (by decide +kernel)) g3_z hm_z
    replace hm_z := rn_lconst (w := 0) (am_cur_of (i := (7, 1, .lconst 0, (0, 0, 0), 0)) (by decide +kernel)) rfl hm_z
    replace hm_z := rn_lcmp (w := lg_cmp b 0) (am_cur_of (i := (8, 1, .lcmp, (0, 0, 0), 0)) (by decide +kernel)) rfl hm_z
    replace hm_z := rn_if (am_cur_of (i := (9, 3, .ifCond .eq 39, (30, 0, 0), 0)) (by decide +kernel)) hm_z
    rcases hm_z with ⟨b265_z, hm_z⟩ | ⟨b265_z, hm_z⟩
    · replace b265_z : (lg_cmp b 0) = (0 : Int32) ∧ (lg_cmp b 0).toInt = (0 : Int32).toInt := b265_z
      replace b265_z := lgc_eq b265_z
      replace hm_z := rn_iconst (w := 0) (am_cur_of (i := (48, 1, .iconst 0, (0, 0, 0), 0)) (by decide +kernel)) (by decide) hm_z
      replace hm_z := rn_istore (am_cur_of (i := (49, 2, .istore 5, (0, 0, 0), 0)) (by decide +kernel)) hm_z
      obtain ⟨_, s266_z, s267_z, g5_z, hm_z⟩ := hm_z
      replace g0_z := s266_z 0 _ (by decide) rfl g0_z
      replace g1_z := s267_z 1 _ (by decide) (by decide) g1_z
      replace g3_z := s267_z 3 _ (by decide) (by decide) g3_z
      clear s266_z s267_z
      replace hm_z := rn_aload_n (am_cur_of (i := (51, 1, .aload_n 0, (0, 0, 0), 0)) (by decide +kernel)) g0_z hm_z
      replace hm_z := rn_aload_n (am_cur_of (i := (52, 1, .aload_n 0, (0, 0, 0), 0)) (by decide +kernel)) g0_z hm_z
      replace hm_z := rn_getI (v := rg_v g 164 49) (am_cur_of (i := (53, 3, .getfield 327, (12, 49, 1433), 0)) (by decide +kernel)) (by decide +kernel) rfl hm_z
      replace hm_z := rn_if (am_cur_of (i := (56, 3, .ifCond .ne 8, (38, 0, 0), 0)) (by decide +kernel)) hm_z
      rcases hm_z with ⟨b268_z, hm_z⟩ | ⟨b268_z, hm_z⟩
      · replace b268_z : ¬ (rg_v g 164 49) = (0 : Int32) ∧ ¬ (rg_v g 164 49).toInt = (0 : Int32).toInt := b268_z
        replace hm_z := rn_iconst (w := 1) (am_cur_of (i := (64, 1, .iconst 1, (0, 0, 0), 0)) (by decide +kernel)) (by decide) hm_z
        replace hm_z := rn_goto (am_cur_of (i := (65, 3, .goto 4, (41, 0, 0), 0)) (by decide +kernel)) hm_z
        replace hm_z := rn_put (am_cur_of (i := (69, 3, .putfield 327, (12, 49, 1433), 0)) (by decide +kernel)) (by decide +kernel) hm_z
        replace hm_z := rn_aload_n (am_cur_of (i := (72, 1, .aload_n 0, (0, 0, 0), 0)) (by decide +kernel)) g0_z hm_z
        replace hm_z := rn_getI (v := 1) (am_cur_of (i := (73, 3, .getfield 327, (12, 49, 1433), 0)) (by decide +kernel)) (by decide +kernel) rg_v_self hm_z
        replace hm_z := rn_ifF (am_cur_of (i := (76, 3, .ifCond .eq 7, (47, 0, 0), 0)) (by decide +kernel)) (by decide) hm_z
        replace hm_z := rn_lconst (w := 0) (am_cur_of (i := (79, 1, .lconst 0, (0, 0, 0), 0)) (by decide +kernel)) rfl hm_z
        replace hm_z := rn_goto (am_cur_of (i := (80, 3, .goto 6, (50, 0, 0), 0)) (by decide +kernel)) hm_z
        replace hm_z := rn_lret (am_cur_of (i := (86, 1, .lreturn, (0, 0, 0), 0)) (by decide +kernel)) hm_z
        obtain ⟨e269_z, e270_z⟩ := hm_z
        refine ⟨_, e269_z, fun o q ho => ?_, fun e0_z => ?_, fun e1_z => ?_⟩
        · rw [e270_z]
          exact (up_ne (fun z => ho z)).trans (rfl)
        · exact absurd e0_z b268_z.1
        · rw [e270_z, rg_v_self]
          decide
      · replace b268_z : (rg_v g 164 49) = (0 : Int32) ∧ (rg_v g 164 49).toInt = (0 : Int32).toInt := b268_z
        replace hm_z := rn_iload (am_cur_of (i := (59, 2, .iload 5, (0, 0, 0), 0)) (by decide +kernel)) g5_z hm_z
        replace hm_z := rn_ifT (am_cur_of (i := (61, 3, .ifCond .eq 7, (40, 0, 0), 0)) (by decide +kernel)) (by decide) hm_z
        replace hm_z := rn_iconst (w := 0) (am_cur_of (i := (68, 1, .iconst 0, (0, 0, 0), 0)) (by decide +kernel)) (by decide) hm_z
        replace hm_z := rn_put (am_cur_of (i := (69, 3, .putfield 327, (12, 49, 1433), 0)) (by decide +kernel)) (by decide +kernel) hm_z
        replace hm_z := rn_aload_n (am_cur_of (i := (72, 1, .aload_n 0, (0, 0, 0), 0)) (by decide +kernel)) g0_z hm_z
        replace hm_z := rn_getI (v := 0) (am_cur_of (i := (73, 3, .getfield 327, (12, 49, 1433), 0)) (by decide +kernel)) (by decide +kernel) rg_v_self hm_z
        replace hm_z := rn_ifT (am_cur_of (i := (76, 3, .ifCond .eq 7, (47, 0, 0), 0)) (by decide +kernel)) (by decide) hm_z
        replace hm_z := rn_lload_n (am_cur_of (i := (83, 1, .lload_n 1, (0, 0, 0), 0)) (by decide +kernel)) g1_z hm_z
        replace hm_z := rn_lload_n (am_cur_of (i := (84, 1, .lload_n 3, (0, 0, 0), 0)) (by decide +kernel)) g3_z hm_z
        replace hm_z := rn_lmul (w := a * b) (am_cur_of (i := (85, 1, .lmul, (0, 0, 0), 0)) (by decide +kernel)) rfl hm_z
        replace hm_z := rn_lret (am_cur_of (i := (86, 1, .lreturn, (0, 0, 0), 0)) (by decide +kernel)) hm_z
        obtain ⟨e271_z, e272_z⟩ := hm_z
        refine ⟨_, e271_z, fun o q ho => ?_, fun e0_z => ?_, fun e1_z => ?_⟩
        · rw [e272_z]
          exact (up_ne (fun z => ho z)).trans (rfl)
        · obtain ⟨A, B⟩ := hb_z e0_z
          have e2_z : a.toInt * b.toInt = 0 := by
            first
              | rw [show a.toInt = 0 by omega, Int.zero_mul]
              | rw [show b.toInt = 0 by omega, Int.mul_zero]
          have eb : lB (a.toInt * b.toInt) := by rw [e2_z]; exact ⟨by decide, by decide⟩
          exact mO_L eb (lw_mul eb) (by rw [e272_z, rg_v_self])
        · exact absurd b268_z.1 e1_z
    · replace b265_z : ¬ (lg_cmp b 0) = (0 : Int32) ∧ ¬ (lg_cmp b 0).toInt = (0 : Int32).toInt := b265_z
      replace b265_z := lgc_ne b265_z
      replace hm_z := rn_lload_n (am_cur_of (i := (12, 1, .lload_n 3, (0, 0, 0), 0)) (by decide +kernel)) g3_z hm_z
      replace hm_z := rn_lconst (w := 0) (am_cur_of (i := (13, 1, .lconst 0, (0, 0, 0), 0)) (by decide +kernel)) rfl hm_z
      replace hm_z := rn_lcmp (w := lg_cmp b 0) (am_cur_of (i := (14, 1, .lcmp, (0, 0, 0), 0)) (by decide +kernel)) rfl hm_z
      replace hm_z := rn_if (am_cur_of (i := (15, 3, .ifCond .ge 8, (15, 0, 0), 0)) (by decide +kernel)) hm_z
      rcases hm_z with ⟨b273_z, hm_z⟩ | ⟨b273_z, hm_z⟩
      · replace b273_z : (0 : Int32).toInt ≤ (lg_cmp b 0).toInt := b273_z
        replace b273_z := lgc_ge b273_z
        replace hm_z := rn_lload_n (am_cur_of (i := (23, 1, .lload_n 3, (0, 0, 0), 0)) (by decide +kernel)) g3_z hm_z
        replace hm_z := rn_ldc2 (w := 1000000000000) (am_cur_of (i := (24, 3, .ldc2_w 330, (0, 0, 1807), 1000000000000)) (by decide +kernel)) (by decide) hm_z
        replace hm_z := rn_lload_n (am_cur_of (i := (27, 1, .lload_n 1, (0, 0, 0), 0)) (by decide +kernel)) g1_z hm_z
        replace hm_z := rn_lconst (w := 0) (am_cur_of (i := (28, 1, .lconst 0, (0, 0, 0), 0)) (by decide +kernel)) rfl hm_z
        replace hm_z := rn_lcmp (w := lg_cmp a 0) (am_cur_of (i := (29, 1, .lcmp, (0, 0, 0), 0)) (by decide +kernel)) rfl hm_z
        replace hm_z := rn_if (am_cur_of (i := (30, 3, .ifCond .ge 8, (24, 0, 0), 0)) (by decide +kernel)) hm_z
        rcases hm_z with ⟨b274_z, hm_z⟩ | ⟨b274_z, hm_z⟩
        · replace b274_z : (0 : Int32).toInt ≤ (lg_cmp a 0).toInt := b274_z
          replace b274_z := lgc_ge b274_z
          replace hm_z := rn_lload_n (am_cur_of (i := (38, 1, .lload_n 1, (0, 0, 0), 0)) (by decide +kernel)) g1_z hm_z
          replace hm_z := rn_ldiv (w := 1000000000000 / a) (am_cur_of (i := (39, 1, .ldiv, (0, 0, 0), 0)) (by decide +kernel)) rfl hm_z
          obtain ⟨d275_z, hm_z⟩ := hm_z
          replace hm_z := rn_lcmp (w := lg_cmp b (1000000000000 / a)) (am_cur_of (i := (40, 1, .lcmp, (0, 0, 0), 0)) (by decide +kernel)) rfl hm_z
          replace hm_z := rn_if (am_cur_of (i := (41, 3, .ifCond .le 7, (30, 0, 0), 0)) (by decide +kernel)) hm_z
          rcases hm_z with ⟨b276_z, hm_z⟩ | ⟨b276_z, hm_z⟩
          · replace b276_z : (lg_cmp b (1000000000000 / a)).toInt ≤ (0 : Int32).toInt := b276_z
            replace b276_z := lgc_le b276_z
            replace hm_z := rn_iconst (w := 0) (am_cur_of (i := (48, 1, .iconst 0, (0, 0, 0), 0)) (by decide +kernel)) (by decide) hm_z
            replace hm_z := rn_istore (am_cur_of (i := (49, 2, .istore 5, (0, 0, 0), 0)) (by decide +kernel)) hm_z
            obtain ⟨_, s277_z, s278_z, g5_z, hm_z⟩ := hm_z
            replace g0_z := s277_z 0 _ (by decide) rfl g0_z
            replace g1_z := s278_z 1 _ (by decide) (by decide) g1_z
            replace g3_z := s278_z 3 _ (by decide) (by decide) g3_z
            clear s277_z s278_z
            replace hm_z := rn_aload_n (am_cur_of (i := (51, 1, .aload_n 0, (0, 0, 0), 0)) (by decide +kernel)) g0_z hm_z
            replace hm_z := rn_aload_n (am_cur_of (i := (52, 1, .aload_n 0, (0, 0, 0), 0)) (by decide +kernel)) g0_z hm_z
            replace hm_z := rn_getI (v := rg_v g 164 49) (am_cur_of (i := (53, 3, .getfield 327, (12, 49, 1433), 0)) (by decide +kernel)) (by decide +kernel) rfl hm_z
            replace hm_z := rn_if (am_cur_of (i := (56, 3, .ifCond .ne 8, (38, 0, 0), 0)) (by decide +kernel)) hm_z
            rcases hm_z with ⟨b279_z, hm_z⟩ | ⟨b279_z, hm_z⟩
            · replace b279_z : ¬ (rg_v g 164 49) = (0 : Int32) ∧ ¬ (rg_v g 164 49).toInt = (0 : Int32).toInt := b279_z
              replace hm_z := rn_iconst (w := 1) (am_cur_of (i := (64, 1, .iconst 1, (0, 0, 0), 0)) (by decide +kernel)) (by decide) hm_z
              replace hm_z := rn_goto (am_cur_of (i := (65, 3, .goto 4, (41, 0, 0), 0)) (by decide +kernel)) hm_z
              replace hm_z := rn_put (am_cur_of (i := (69, 3, .putfield 327, (12, 49, 1433), 0)) (by decide +kernel)) (by decide +kernel) hm_z
              replace hm_z := rn_aload_n (am_cur_of (i := (72, 1, .aload_n 0, (0, 0, 0), 0)) (by decide +kernel)) g0_z hm_z
              replace hm_z := rn_getI (v := 1) (am_cur_of (i := (73, 3, .getfield 327, (12, 49, 1433), 0)) (by decide +kernel)) (by decide +kernel) rg_v_self hm_z
              replace hm_z := rn_ifF (am_cur_of (i := (76, 3, .ifCond .eq 7, (47, 0, 0), 0)) (by decide +kernel)) (by decide) hm_z
              replace hm_z := rn_lconst (w := 0) (am_cur_of (i := (79, 1, .lconst 0, (0, 0, 0), 0)) (by decide +kernel)) rfl hm_z
              replace hm_z := rn_goto (am_cur_of (i := (80, 3, .goto 6, (50, 0, 0), 0)) (by decide +kernel)) hm_z
              replace hm_z := rn_lret (am_cur_of (i := (86, 1, .lreturn, (0, 0, 0), 0)) (by decide +kernel)) hm_z
              obtain ⟨e280_z, e281_z⟩ := hm_z
              refine ⟨_, e280_z, fun o q ho => ?_, fun e0_z => ?_, fun e1_z => ?_⟩
              · rw [e281_z]
                exact (up_ne (fun z => ho z)).trans (rfl)
              · exact absurd e0_z b279_z.1
              · rw [e281_z, rg_v_self]
                decide
            · replace b279_z : (rg_v g 164 49) = (0 : Int32) ∧ (rg_v g 164 49).toInt = (0 : Int32).toInt := b279_z
              replace hm_z := rn_iload (am_cur_of (i := (59, 2, .iload 5, (0, 0, 0), 0)) (by decide +kernel)) g5_z hm_z
              replace hm_z := rn_ifT (am_cur_of (i := (61, 3, .ifCond .eq 7, (40, 0, 0), 0)) (by decide +kernel)) (by decide) hm_z
              replace hm_z := rn_iconst (w := 0) (am_cur_of (i := (68, 1, .iconst 0, (0, 0, 0), 0)) (by decide +kernel)) (by decide) hm_z
              replace hm_z := rn_put (am_cur_of (i := (69, 3, .putfield 327, (12, 49, 1433), 0)) (by decide +kernel)) (by decide +kernel) hm_z
              replace hm_z := rn_aload_n (am_cur_of (i := (72, 1, .aload_n 0, (0, 0, 0), 0)) (by decide +kernel)) g0_z hm_z
              replace hm_z := rn_getI (v := 0) (am_cur_of (i := (73, 3, .getfield 327, (12, 49, 1433), 0)) (by decide +kernel)) (by decide +kernel) rg_v_self hm_z
              replace hm_z := rn_ifT (am_cur_of (i := (76, 3, .ifCond .eq 7, (47, 0, 0), 0)) (by decide +kernel)) (by decide) hm_z
              replace hm_z := rn_lload_n (am_cur_of (i := (83, 1, .lload_n 1, (0, 0, 0), 0)) (by decide +kernel)) g1_z hm_z
              replace hm_z := rn_lload_n (am_cur_of (i := (84, 1, .lload_n 3, (0, 0, 0), 0)) (by decide +kernel)) g3_z hm_z
              replace hm_z := rn_lmul (w := a * b) (am_cur_of (i := (85, 1, .lmul, (0, 0, 0), 0)) (by decide +kernel)) rfl hm_z
              replace hm_z := rn_lret (am_cur_of (i := (86, 1, .lreturn, (0, 0, 0), 0)) (by decide +kernel)) hm_z
              obtain ⟨e282_z, e283_z⟩ := hm_z
              refine ⟨_, e282_z, fun o q ho => ?_, fun e0_z => ?_, fun e1_z => ?_⟩
              · rw [e283_z]
                exact (up_ne (fun z => ho z)).trans (rfl)
              · obtain ⟨A, B⟩ := hb_z e0_z
                have cp_z : 0 < a.toInt := by omega
                have em := lw_most cp_z
                have nb := lw_neg B
                have mr := lw_mr cp_z (by unfold lB at A; omega)
                have q := tm_in (b := b.toInt) cp_z (by omega) (by omega)
                have eb2_z : lB (a.toInt * b.toInt) := by unfold lB; omega
                exact mO_L eb2_z (lw_mul eb2_z) (by rw [e283_z, rg_v_self])
              · exact absurd b279_z.1 e1_z
          · replace b276_z : (0 : Int32).toInt < (lg_cmp b (1000000000000 / a)).toInt := b276_z
            replace b276_z := lgc_gt b276_z
            replace hm_z := rn_iconst (w := 1) (am_cur_of (i := (44, 1, .iconst 1, (0, 0, 0), 0)) (by decide +kernel)) (by decide) hm_z
            replace hm_z := rn_goto (am_cur_of (i := (45, 3, .goto 4, (31, 0, 0), 0)) (by decide +kernel)) hm_z
            replace hm_z := rn_istore (am_cur_of (i := (49, 2, .istore 5, (0, 0, 0), 0)) (by decide +kernel)) hm_z
            obtain ⟨_, s284_z, s285_z, g5_z, hm_z⟩ := hm_z
            replace g0_z := s284_z 0 _ (by decide) rfl g0_z
            replace g1_z := s285_z 1 _ (by decide) (by decide) g1_z
            replace g3_z := s285_z 3 _ (by decide) (by decide) g3_z
            clear s284_z s285_z
            replace hm_z := rn_aload_n (am_cur_of (i := (51, 1, .aload_n 0, (0, 0, 0), 0)) (by decide +kernel)) g0_z hm_z
            replace hm_z := rn_aload_n (am_cur_of (i := (52, 1, .aload_n 0, (0, 0, 0), 0)) (by decide +kernel)) g0_z hm_z
            replace hm_z := rn_getI (v := rg_v g 164 49) (am_cur_of (i := (53, 3, .getfield 327, (12, 49, 1433), 0)) (by decide +kernel)) (by decide +kernel) rfl hm_z
            replace hm_z := rn_if (am_cur_of (i := (56, 3, .ifCond .ne 8, (38, 0, 0), 0)) (by decide +kernel)) hm_z
            rcases hm_z with ⟨b286_z, hm_z⟩ | ⟨b286_z, hm_z⟩
            · replace b286_z : ¬ (rg_v g 164 49) = (0 : Int32) ∧ ¬ (rg_v g 164 49).toInt = (0 : Int32).toInt := b286_z
              replace hm_z := rn_iconst (w := 1) (am_cur_of (i := (64, 1, .iconst 1, (0, 0, 0), 0)) (by decide +kernel)) (by decide) hm_z
              replace hm_z := rn_goto (am_cur_of (i := (65, 3, .goto 4, (41, 0, 0), 0)) (by decide +kernel)) hm_z
              replace hm_z := rn_put (am_cur_of (i := (69, 3, .putfield 327, (12, 49, 1433), 0)) (by decide +kernel)) (by decide +kernel) hm_z
              replace hm_z := rn_aload_n (am_cur_of (i := (72, 1, .aload_n 0, (0, 0, 0), 0)) (by decide +kernel)) g0_z hm_z
              replace hm_z := rn_getI (v := 1) (am_cur_of (i := (73, 3, .getfield 327, (12, 49, 1433), 0)) (by decide +kernel)) (by decide +kernel) rg_v_self hm_z
              replace hm_z := rn_ifF (am_cur_of (i := (76, 3, .ifCond .eq 7, (47, 0, 0), 0)) (by decide +kernel)) (by decide) hm_z
              replace hm_z := rn_lconst (w := 0) (am_cur_of (i := (79, 1, .lconst 0, (0, 0, 0), 0)) (by decide +kernel)) rfl hm_z
              replace hm_z := rn_goto (am_cur_of (i := (80, 3, .goto 6, (50, 0, 0), 0)) (by decide +kernel)) hm_z
              replace hm_z := rn_lret (am_cur_of (i := (86, 1, .lreturn, (0, 0, 0), 0)) (by decide +kernel)) hm_z
              obtain ⟨e287_z, e288_z⟩ := hm_z
              refine ⟨_, e287_z, fun o q ho => ?_, fun e0_z => ?_, fun e1_z => ?_⟩
              · rw [e288_z]
                exact (up_ne (fun z => ho z)).trans (rfl)
              · exact absurd e0_z b286_z.1
              · rw [e288_z, rg_v_self]
                decide
            · replace b286_z : (rg_v g 164 49) = (0 : Int32) ∧ (rg_v g 164 49).toInt = (0 : Int32).toInt := b286_z
              replace hm_z := rn_iload (am_cur_of (i := (59, 2, .iload 5, (0, 0, 0), 0)) (by decide +kernel)) g5_z hm_z
              replace hm_z := rn_ifF (am_cur_of (i := (61, 3, .ifCond .eq 7, (40, 0, 0), 0)) (by decide +kernel)) (by decide) hm_z
              replace hm_z := rn_iconst (w := 1) (am_cur_of (i := (64, 1, .iconst 1, (0, 0, 0), 0)) (by decide +kernel)) (by decide) hm_z
              replace hm_z := rn_goto (am_cur_of (i := (65, 3, .goto 4, (41, 0, 0), 0)) (by decide +kernel)) hm_z
              replace hm_z := rn_put (am_cur_of (i := (69, 3, .putfield 327, (12, 49, 1433), 0)) (by decide +kernel)) (by decide +kernel) hm_z
              replace hm_z := rn_aload_n (am_cur_of (i := (72, 1, .aload_n 0, (0, 0, 0), 0)) (by decide +kernel)) g0_z hm_z
              replace hm_z := rn_getI (v := 1) (am_cur_of (i := (73, 3, .getfield 327, (12, 49, 1433), 0)) (by decide +kernel)) (by decide +kernel) rg_v_self hm_z
              replace hm_z := rn_ifF (am_cur_of (i := (76, 3, .ifCond .eq 7, (47, 0, 0), 0)) (by decide +kernel)) (by decide) hm_z
              replace hm_z := rn_lconst (w := 0) (am_cur_of (i := (79, 1, .lconst 0, (0, 0, 0), 0)) (by decide +kernel)) rfl hm_z
              replace hm_z := rn_goto (am_cur_of (i := (80, 3, .goto 6, (50, 0, 0), 0)) (by decide +kernel)) hm_z
              replace hm_z := rn_lret (am_cur_of (i := (86, 1, .lreturn, (0, 0, 0), 0)) (by decide +kernel)) hm_z
              obtain ⟨e289_z, e290_z⟩ := hm_z
              refine ⟨_, e289_z, fun o q ho => ?_, fun e0_z => ?_, fun e1_z => ?_⟩
              · rw [e290_z]
                exact (up_ne (fun z => ho z)).trans (rfl)
              · obtain ⟨A, B⟩ := hb_z e0_z
                have cp_z : 0 < a.toInt := by omega
                have em := lw_most cp_z
                have nb := lw_neg B
                have mr := lw_mr cp_z (by unfold lB at A; omega)
                have q := tm_out (b := b.toInt) cp_z (by omega)
                exact mO_N (by omega) (by rw [e290_z, rg_v_self]; decide)
              · exact absurd b286_z.1 e1_z
        · replace b274_z : (lg_cmp a 0).toInt < (0 : Int32).toInt := b274_z
          replace b274_z := lgc_lt b274_z
          replace hm_z := rn_lload_n (am_cur_of (i := (33, 1, .lload_n 1, (0, 0, 0), 0)) (by decide +kernel)) g1_z hm_z
          replace hm_z := rn_lneg (w := -a) (am_cur_of (i := (34, 1, .lneg, (0, 0, 0), 0)) (by decide +kernel)) rfl hm_z
          replace hm_z := rn_goto (am_cur_of (i := (35, 3, .goto 4, (25, 0, 0), 0)) (by decide +kernel)) hm_z
          replace hm_z := rn_ldiv (w := 1000000000000 / (-a)) (am_cur_of (i := (39, 1, .ldiv, (0, 0, 0), 0)) (by decide +kernel)) rfl hm_z
          obtain ⟨d291_z, hm_z⟩ := hm_z
          replace hm_z := rn_lcmp (w := lg_cmp b (1000000000000 / (-a))) (am_cur_of (i := (40, 1, .lcmp, (0, 0, 0), 0)) (by decide +kernel)) rfl hm_z
          replace hm_z := rn_if (am_cur_of (i := (41, 3, .ifCond .le 7, (30, 0, 0), 0)) (by decide +kernel)) hm_z
          rcases hm_z with ⟨b292_z, hm_z⟩ | ⟨b292_z, hm_z⟩
          · replace b292_z : (lg_cmp b (1000000000000 / (-a))).toInt ≤ (0 : Int32).toInt := b292_z
            replace b292_z := lgc_le b292_z
            replace hm_z := rn_iconst (w := 0) (am_cur_of (i := (48, 1, .iconst 0, (0, 0, 0), 0)) (by decide +kernel)) (by decide) hm_z
            replace hm_z := rn_istore (am_cur_of (i := (49, 2, .istore 5, (0, 0, 0), 0)) (by decide +kernel)) hm_z
            obtain ⟨_, s293_z, s294_z, g5_z, hm_z⟩ := hm_z
            replace g0_z := s293_z 0 _ (by decide) rfl g0_z
            replace g1_z := s294_z 1 _ (by decide) (by decide) g1_z
            replace g3_z := s294_z 3 _ (by decide) (by decide) g3_z
            clear s293_z s294_z
            replace hm_z := rn_aload_n (am_cur_of (i := (51, 1, .aload_n 0, (0, 0, 0), 0)) (by decide +kernel)) g0_z hm_z
            replace hm_z := rn_aload_n (am_cur_of (i := (52, 1, .aload_n 0, (0, 0, 0), 0)) (by decide +kernel)) g0_z hm_z
            replace hm_z := rn_getI (v := rg_v g 164 49) (am_cur_of (i := (53, 3, .getfield 327, (12, 49, 1433), 0)) (by decide +kernel)) (by decide +kernel) rfl hm_z
            replace hm_z := rn_if (am_cur_of (i := (56, 3, .ifCond .ne 8, (38, 0, 0), 0)) (by decide +kernel)) hm_z
            rcases hm_z with ⟨b295_z, hm_z⟩ | ⟨b295_z, hm_z⟩
            · replace b295_z : ¬ (rg_v g 164 49) = (0 : Int32) ∧ ¬ (rg_v g 164 49).toInt = (0 : Int32).toInt := b295_z
              replace hm_z := rn_iconst (w := 1) (am_cur_of (i := (64, 1, .iconst 1, (0, 0, 0), 0)) (by decide +kernel)) (by decide) hm_z
              replace hm_z := rn_goto (am_cur_of (i := (65, 3, .goto 4, (41, 0, 0), 0)) (by decide +kernel)) hm_z
              replace hm_z := rn_put (am_cur_of (i := (69, 3, .putfield 327, (12, 49, 1433), 0)) (by decide +kernel)) (by decide +kernel) hm_z
              replace hm_z := rn_aload_n (am_cur_of (i := (72, 1, .aload_n 0, (0, 0, 0), 0)) (by decide +kernel)) g0_z hm_z
              replace hm_z := rn_getI (v := 1) (am_cur_of (i := (73, 3, .getfield 327, (12, 49, 1433), 0)) (by decide +kernel)) (by decide +kernel) rg_v_self hm_z
              replace hm_z := rn_ifF (am_cur_of (i := (76, 3, .ifCond .eq 7, (47, 0, 0), 0)) (by decide +kernel)) (by decide) hm_z
              replace hm_z := rn_lconst (w := 0) (am_cur_of (i := (79, 1, .lconst 0, (0, 0, 0), 0)) (by decide +kernel)) rfl hm_z
              replace hm_z := rn_goto (am_cur_of (i := (80, 3, .goto 6, (50, 0, 0), 0)) (by decide +kernel)) hm_z
              replace hm_z := rn_lret (am_cur_of (i := (86, 1, .lreturn, (0, 0, 0), 0)) (by decide +kernel)) hm_z
              obtain ⟨e296_z, e297_z⟩ := hm_z
              refine ⟨_, e296_z, fun o q ho => ?_, fun e0_z => ?_, fun e1_z => ?_⟩
              · rw [e297_z]
                exact (up_ne (fun z => ho z)).trans (rfl)
              · exact absurd e0_z b295_z.1
              · rw [e297_z, rg_v_self]
                decide
            · replace b295_z : (rg_v g 164 49) = (0 : Int32) ∧ (rg_v g 164 49).toInt = (0 : Int32).toInt := b295_z
              replace hm_z := rn_iload (am_cur_of (i := (59, 2, .iload 5, (0, 0, 0), 0)) (by decide +kernel)) g5_z hm_z
              replace hm_z := rn_ifT (am_cur_of (i := (61, 3, .ifCond .eq 7, (40, 0, 0), 0)) (by decide +kernel)) (by decide) hm_z
              replace hm_z := rn_iconst (w := 0) (am_cur_of (i := (68, 1, .iconst 0, (0, 0, 0), 0)) (by decide +kernel)) (by decide) hm_z
              replace hm_z := rn_put (am_cur_of (i := (69, 3, .putfield 327, (12, 49, 1433), 0)) (by decide +kernel)) (by decide +kernel) hm_z
              replace hm_z := rn_aload_n (am_cur_of (i := (72, 1, .aload_n 0, (0, 0, 0), 0)) (by decide +kernel)) g0_z hm_z
              replace hm_z := rn_getI (v := 0) (am_cur_of (i := (73, 3, .getfield 327, (12, 49, 1433), 0)) (by decide +kernel)) (by decide +kernel) rg_v_self hm_z
              replace hm_z := rn_ifT (am_cur_of (i := (76, 3, .ifCond .eq 7, (47, 0, 0), 0)) (by decide +kernel)) (by decide) hm_z
              replace hm_z := rn_lload_n (am_cur_of (i := (83, 1, .lload_n 1, (0, 0, 0), 0)) (by decide +kernel)) g1_z hm_z
              replace hm_z := rn_lload_n (am_cur_of (i := (84, 1, .lload_n 3, (0, 0, 0), 0)) (by decide +kernel)) g3_z hm_z
              replace hm_z := rn_lmul (w := a * b) (am_cur_of (i := (85, 1, .lmul, (0, 0, 0), 0)) (by decide +kernel)) rfl hm_z
              replace hm_z := rn_lret (am_cur_of (i := (86, 1, .lreturn, (0, 0, 0), 0)) (by decide +kernel)) hm_z
              obtain ⟨e298_z, e299_z⟩ := hm_z
              refine ⟨_, e298_z, fun o q ho => ?_, fun e0_z => ?_, fun e1_z => ?_⟩
              · rw [e299_z]
                exact (up_ne (fun z => ho z)).trans (rfl)
              · obtain ⟨A, B⟩ := hb_z e0_z
                have cp_z : 0 < (-a).toInt := by rw [lw_neg A]; omega
                have em := lw_most cp_z
                have nb := lw_neg B
                have en := lw_neg A
                have eb : (-a).toInt * b.toInt = -(a.toInt * b.toInt) := by rw [en, Int.neg_mul]
                have mr := lw_mr cp_z (by rw [en]; unfold lB at A; omega)
                have q := tm_in (b := b.toInt) cp_z (by omega) (by omega)
                have eb2_z : lB (a.toInt * b.toInt) := by unfold lB; omega
                exact mO_L eb2_z (lw_mul eb2_z) (by rw [e299_z, rg_v_self])
              · exact absurd b295_z.1 e1_z
          · replace b292_z : (0 : Int32).toInt < (lg_cmp b (1000000000000 / (-a))).toInt := b292_z
            replace b292_z := lgc_gt b292_z
            replace hm_z := rn_iconst (w := 1) (am_cur_of (i := (44, 1, .iconst 1, (0, 0, 0), 0)) (by decide +kernel)) (by decide) hm_z
            replace hm_z := rn_goto (am_cur_of (i := (45, 3, .goto 4, (31, 0, 0), 0)) (by decide +kernel)) hm_z
            replace hm_z := rn_istore (am_cur_of (i := (49, 2, .istore 5, (0, 0, 0), 0)) (by decide +kernel)) hm_z
            obtain ⟨_, s300_z, s301_z, g5_z, hm_z⟩ := hm_z
            replace g0_z := s300_z 0 _ (by decide) rfl g0_z
            replace g1_z := s301_z 1 _ (by decide) (by decide) g1_z
            replace g3_z := s301_z 3 _ (by decide) (by decide) g3_z
            clear s300_z s301_z
            replace hm_z := rn_aload_n (am_cur_of (i := (51, 1, .aload_n 0, (0, 0, 0), 0)) (by decide +kernel)) g0_z hm_z
            replace hm_z := rn_aload_n (am_cur_of (i := (52, 1, .aload_n 0, (0, 0, 0), 0)) (by decide +kernel)) g0_z hm_z
            replace hm_z := rn_getI (v := rg_v g 164 49) (am_cur_of (i := (53, 3, .getfield 327, (12, 49, 1433), 0)) (by decide +kernel)) (by decide +kernel) rfl hm_z
            replace hm_z := rn_if (am_cur_of (i := (56, 3, .ifCond .ne 8, (38, 0, 0), 0)) (by decide +kernel)) hm_z
            rcases hm_z with ⟨b302_z, hm_z⟩ | ⟨b302_z, hm_z⟩
            · replace b302_z : ¬ (rg_v g 164 49) = (0 : Int32) ∧ ¬ (rg_v g 164 49).toInt = (0 : Int32).toInt := b302_z
              replace hm_z := rn_iconst (w := 1) (am_cur_of (i := (64, 1, .iconst 1, (0, 0, 0), 0)) (by decide +kernel)) (by decide) hm_z
              replace hm_z := rn_goto (am_cur_of (i := (65, 3, .goto 4, (41, 0, 0), 0)) (by decide +kernel)) hm_z
              replace hm_z := rn_put (am_cur_of (i := (69, 3, .putfield 327, (12, 49, 1433), 0)) (by decide +kernel)) (by decide +kernel) hm_z
              replace hm_z := rn_aload_n (am_cur_of (i := (72, 1, .aload_n 0, (0, 0, 0), 0)) (by decide +kernel)) g0_z hm_z
              replace hm_z := rn_getI (v := 1) (am_cur_of (i := (73, 3, .getfield 327, (12, 49, 1433), 0)) (by decide +kernel)) (by decide +kernel) rg_v_self hm_z
              replace hm_z := rn_ifF (am_cur_of (i := (76, 3, .ifCond .eq 7, (47, 0, 0), 0)) (by decide +kernel)) (by decide) hm_z
              replace hm_z := rn_lconst (w := 0) (am_cur_of (i := (79, 1, .lconst 0, (0, 0, 0), 0)) (by decide +kernel)) rfl hm_z
              replace hm_z := rn_goto (am_cur_of (i := (80, 3, .goto 6, (50, 0, 0), 0)) (by decide +kernel)) hm_z
              replace hm_z := rn_lret (am_cur_of (i := (86, 1, .lreturn, (0, 0, 0), 0)) (by decide +kernel)) hm_z
              obtain ⟨e303_z, e304_z⟩ := hm_z
              refine ⟨_, e303_z, fun o q ho => ?_, fun e0_z => ?_, fun e1_z => ?_⟩
              · rw [e304_z]
                exact (up_ne (fun z => ho z)).trans (rfl)
              · exact absurd e0_z b302_z.1
              · rw [e304_z, rg_v_self]
                decide
            · replace b302_z : (rg_v g 164 49) = (0 : Int32) ∧ (rg_v g 164 49).toInt = (0 : Int32).toInt := b302_z
              replace hm_z := rn_iload (am_cur_of (i := (59, 2, .iload 5, (0, 0, 0), 0)) (by decide +kernel)) g5_z hm_z
              replace hm_z := rn_ifF (am_cur_of (i := (61, 3, .ifCond .eq 7, (40, 0, 0), 0)) (by decide +kernel)) (by decide) hm_z
              replace hm_z := rn_iconst (w := 1) (am_cur_of (i := (64, 1, .iconst 1, (0, 0, 0), 0)) (by decide +kernel)) (by decide) hm_z
              replace hm_z := rn_goto (am_cur_of (i := (65, 3, .goto 4, (41, 0, 0), 0)) (by decide +kernel)) hm_z
              replace hm_z := rn_put (am_cur_of (i := (69, 3, .putfield 327, (12, 49, 1433), 0)) (by decide +kernel)) (by decide +kernel) hm_z
              replace hm_z := rn_aload_n (am_cur_of (i := (72, 1, .aload_n 0, (0, 0, 0), 0)) (by decide +kernel)) g0_z hm_z
              replace hm_z := rn_getI (v := 1) (am_cur_of (i := (73, 3, .getfield 327, (12, 49, 1433), 0)) (by decide +kernel)) (by decide +kernel) rg_v_self hm_z
              replace hm_z := rn_ifF (am_cur_of (i := (76, 3, .ifCond .eq 7, (47, 0, 0), 0)) (by decide +kernel)) (by decide) hm_z
              replace hm_z := rn_lconst (w := 0) (am_cur_of (i := (79, 1, .lconst 0, (0, 0, 0), 0)) (by decide +kernel)) rfl hm_z
              replace hm_z := rn_goto (am_cur_of (i := (80, 3, .goto 6, (50, 0, 0), 0)) (by decide +kernel)) hm_z
              replace hm_z := rn_lret (am_cur_of (i := (86, 1, .lreturn, (0, 0, 0), 0)) (by decide +kernel)) hm_z
              obtain ⟨e305_z, e306_z⟩ := hm_z
              refine ⟨_, e305_z, fun o q ho => ?_, fun e0_z => ?_, fun e1_z => ?_⟩
              · rw [e306_z]
                exact (up_ne (fun z => ho z)).trans (rfl)
              · obtain ⟨A, B⟩ := hb_z e0_z
                have cp_z : 0 < (-a).toInt := by rw [lw_neg A]; omega
                have em := lw_most cp_z
                have nb := lw_neg B
                have en := lw_neg A
                have eb : (-a).toInt * b.toInt = -(a.toInt * b.toInt) := by rw [en, Int.neg_mul]
                have mr := lw_mr cp_z (by rw [en]; unfold lB at A; omega)
                have q := tm_out (b := b.toInt) cp_z (by omega)
                exact mO_N (by omega) (by rw [e306_z, rg_v_self]; decide)
              · exact absurd b302_z.1 e1_z
      · replace b273_z : (lg_cmp b 0).toInt < (0 : Int32).toInt := b273_z
        replace b273_z := lgc_lt b273_z
        replace hm_z := rn_lload_n (am_cur_of (i := (18, 1, .lload_n 3, (0, 0, 0), 0)) (by decide +kernel)) g3_z hm_z
        replace hm_z := rn_lneg (w := -b) (am_cur_of (i := (19, 1, .lneg, (0, 0, 0), 0)) (by decide +kernel)) rfl hm_z
        replace hm_z := rn_goto (am_cur_of (i := (20, 3, .goto 4, (16, 0, 0), 0)) (by decide +kernel)) hm_z
        replace hm_z := rn_ldc2 (w := 1000000000000) (am_cur_of (i := (24, 3, .ldc2_w 330, (0, 0, 1807), 1000000000000)) (by decide +kernel)) (by decide) hm_z
        replace hm_z := rn_lload_n (am_cur_of (i := (27, 1, .lload_n 1, (0, 0, 0), 0)) (by decide +kernel)) g1_z hm_z
        replace hm_z := rn_lconst (w := 0) (am_cur_of (i := (28, 1, .lconst 0, (0, 0, 0), 0)) (by decide +kernel)) rfl hm_z
        replace hm_z := rn_lcmp (w := lg_cmp a 0) (am_cur_of (i := (29, 1, .lcmp, (0, 0, 0), 0)) (by decide +kernel)) rfl hm_z
        replace hm_z := rn_if (am_cur_of (i := (30, 3, .ifCond .ge 8, (24, 0, 0), 0)) (by decide +kernel)) hm_z
        rcases hm_z with ⟨b307_z, hm_z⟩ | ⟨b307_z, hm_z⟩
        · replace b307_z : (0 : Int32).toInt ≤ (lg_cmp a 0).toInt := b307_z
          replace b307_z := lgc_ge b307_z
          replace hm_z := rn_lload_n (am_cur_of (i := (38, 1, .lload_n 1, (0, 0, 0), 0)) (by decide +kernel)) g1_z hm_z
          replace hm_z := rn_ldiv (w := 1000000000000 / a) (am_cur_of (i := (39, 1, .ldiv, (0, 0, 0), 0)) (by decide +kernel)) rfl hm_z
          obtain ⟨d308_z, hm_z⟩ := hm_z
          replace hm_z := rn_lcmp (w := lg_cmp (-b) (1000000000000 / a)) (am_cur_of (i := (40, 1, .lcmp, (0, 0, 0), 0)) (by decide +kernel)) rfl hm_z
          replace hm_z := rn_if (am_cur_of (i := (41, 3, .ifCond .le 7, (30, 0, 0), 0)) (by decide +kernel)) hm_z
          rcases hm_z with ⟨b309_z, hm_z⟩ | ⟨b309_z, hm_z⟩
          · replace b309_z : (lg_cmp (-b) (1000000000000 / a)).toInt ≤ (0 : Int32).toInt := b309_z
            replace b309_z := lgc_le b309_z
            replace hm_z := rn_iconst (w := 0) (am_cur_of (i := (48, 1, .iconst 0, (0, 0, 0), 0)) (by decide +kernel)) (by decide) hm_z
            replace hm_z := rn_istore (am_cur_of (i := (49, 2, .istore 5, (0, 0, 0), 0)) (by decide +kernel)) hm_z
            obtain ⟨_, s310_z, s311_z, g5_z, hm_z⟩ := hm_z
            replace g0_z := s310_z 0 _ (by decide) rfl g0_z
            replace g1_z := s311_z 1 _ (by decide) (by decide) g1_z
            replace g3_z := s311_z 3 _ (by decide) (by decide) g3_z
            clear s310_z s311_z
            replace hm_z := rn_aload_n (am_cur_of (i := (51, 1, .aload_n 0, (0, 0, 0), 0)) (by decide +kernel)) g0_z hm_z
            replace hm_z := rn_aload_n (am_cur_of (i := (52, 1, .aload_n 0, (0, 0, 0), 0)) (by decide +kernel)) g0_z hm_z
            replace hm_z := rn_getI (v := rg_v g 164 49) (am_cur_of (i := (53, 3, .getfield 327, (12, 49, 1433), 0)) (by decide +kernel)) (by decide +kernel) rfl hm_z
            replace hm_z := rn_if (am_cur_of (i := (56, 3, .ifCond .ne 8, (38, 0, 0), 0)) (by decide +kernel)) hm_z
            rcases hm_z with ⟨b312_z, hm_z⟩ | ⟨b312_z, hm_z⟩
            · replace b312_z : ¬ (rg_v g 164 49) = (0 : Int32) ∧ ¬ (rg_v g 164 49).toInt = (0 : Int32).toInt := b312_z
              replace hm_z := rn_iconst (w := 1) (am_cur_of (i := (64, 1, .iconst 1, (0, 0, 0), 0)) (by decide +kernel)) (by decide) hm_z
              replace hm_z := rn_goto (am_cur_of (i := (65, 3, .goto 4, (41, 0, 0), 0)) (by decide +kernel)) hm_z
              replace hm_z := rn_put (am_cur_of (i := (69, 3, .putfield 327, (12, 49, 1433), 0)) (by decide +kernel)) (by decide +kernel) hm_z
              replace hm_z := rn_aload_n (am_cur_of (i := (72, 1, .aload_n 0, (0, 0, 0), 0)) (by decide +kernel)) g0_z hm_z
              replace hm_z := rn_getI (v := 1) (am_cur_of (i := (73, 3, .getfield 327, (12, 49, 1433), 0)) (by decide +kernel)) (by decide +kernel) rg_v_self hm_z
              replace hm_z := rn_ifF (am_cur_of (i := (76, 3, .ifCond .eq 7, (47, 0, 0), 0)) (by decide +kernel)) (by decide) hm_z
              replace hm_z := rn_lconst (w := 0) (am_cur_of (i := (79, 1, .lconst 0, (0, 0, 0), 0)) (by decide +kernel)) rfl hm_z
              replace hm_z := rn_goto (am_cur_of (i := (80, 3, .goto 6, (50, 0, 0), 0)) (by decide +kernel)) hm_z
              replace hm_z := rn_lret (am_cur_of (i := (86, 1, .lreturn, (0, 0, 0), 0)) (by decide +kernel)) hm_z
              obtain ⟨e313_z, e314_z⟩ := hm_z
              refine ⟨_, e313_z, fun o q ho => ?_, fun e0_z => ?_, fun e1_z => ?_⟩
              · rw [e314_z]
                exact (up_ne (fun z => ho z)).trans (rfl)
              · exact absurd e0_z b312_z.1
              · rw [e314_z, rg_v_self]
                decide
            · replace b312_z : (rg_v g 164 49) = (0 : Int32) ∧ (rg_v g 164 49).toInt = (0 : Int32).toInt := b312_z
              replace hm_z := rn_iload (am_cur_of (i := (59, 2, .iload 5, (0, 0, 0), 0)) (by decide +kernel)) g5_z hm_z
              replace hm_z := rn_ifT (am_cur_of (i := (61, 3, .ifCond .eq 7, (40, 0, 0), 0)) (by decide +kernel)) (by decide) hm_z
              replace hm_z := rn_iconst (w := 0) (am_cur_of (i := (68, 1, .iconst 0, (0, 0, 0), 0)) (by decide +kernel)) (by decide) hm_z
              replace hm_z := rn_put (am_cur_of (i := (69, 3, .putfield 327, (12, 49, 1433), 0)) (by decide +kernel)) (by decide +kernel) hm_z
              replace hm_z := rn_aload_n (am_cur_of (i := (72, 1, .aload_n 0, (0, 0, 0), 0)) (by decide +kernel)) g0_z hm_z
              replace hm_z := rn_getI (v := 0) (am_cur_of (i := (73, 3, .getfield 327, (12, 49, 1433), 0)) (by decide +kernel)) (by decide +kernel) rg_v_self hm_z
              replace hm_z := rn_ifT (am_cur_of (i := (76, 3, .ifCond .eq 7, (47, 0, 0), 0)) (by decide +kernel)) (by decide) hm_z
              replace hm_z := rn_lload_n (am_cur_of (i := (83, 1, .lload_n 1, (0, 0, 0), 0)) (by decide +kernel)) g1_z hm_z
              replace hm_z := rn_lload_n (am_cur_of (i := (84, 1, .lload_n 3, (0, 0, 0), 0)) (by decide +kernel)) g3_z hm_z
              replace hm_z := rn_lmul (w := a * b) (am_cur_of (i := (85, 1, .lmul, (0, 0, 0), 0)) (by decide +kernel)) rfl hm_z
              replace hm_z := rn_lret (am_cur_of (i := (86, 1, .lreturn, (0, 0, 0), 0)) (by decide +kernel)) hm_z
              obtain ⟨e315_z, e316_z⟩ := hm_z
              refine ⟨_, e315_z, fun o q ho => ?_, fun e0_z => ?_, fun e1_z => ?_⟩
              · rw [e316_z]
                exact (up_ne (fun z => ho z)).trans (rfl)
              · obtain ⟨A, B⟩ := hb_z e0_z
                have cp_z : 0 < a.toInt := by omega
                have em := lw_most cp_z
                have nb := lw_neg B
                have mr := lw_mr cp_z (by unfold lB at A; omega)
                have q := tm_in (b := b.toInt) cp_z (by omega) (by omega)
                have eb2_z : lB (a.toInt * b.toInt) := by unfold lB; omega
                exact mO_L eb2_z (lw_mul eb2_z) (by rw [e316_z, rg_v_self])
              · exact absurd b312_z.1 e1_z
          · replace b309_z : (0 : Int32).toInt < (lg_cmp (-b) (1000000000000 / a)).toInt := b309_z
            replace b309_z := lgc_gt b309_z
            replace hm_z := rn_iconst (w := 1) (am_cur_of (i := (44, 1, .iconst 1, (0, 0, 0), 0)) (by decide +kernel)) (by decide) hm_z
            replace hm_z := rn_goto (am_cur_of (i := (45, 3, .goto 4, (31, 0, 0), 0)) (by decide +kernel)) hm_z
            replace hm_z := rn_istore (am_cur_of (i := (49, 2, .istore 5, (0, 0, 0), 0)) (by decide +kernel)) hm_z
            obtain ⟨_, s317_z, s318_z, g5_z, hm_z⟩ := hm_z
            replace g0_z := s317_z 0 _ (by decide) rfl g0_z
            replace g1_z := s318_z 1 _ (by decide) (by decide) g1_z
            replace g3_z := s318_z 3 _ (by decide) (by decide) g3_z
            clear s317_z s318_z
            replace hm_z := rn_aload_n (am_cur_of (i := (51, 1, .aload_n 0, (0, 0, 0), 0)) (by decide +kernel)) g0_z hm_z
            replace hm_z := rn_aload_n (am_cur_of (i := (52, 1, .aload_n 0, (0, 0, 0), 0)) (by decide +kernel)) g0_z hm_z
            replace hm_z := rn_getI (v := rg_v g 164 49) (am_cur_of (i := (53, 3, .getfield 327, (12, 49, 1433), 0)) (by decide +kernel)) (by decide +kernel) rfl hm_z
            replace hm_z := rn_if (am_cur_of (i := (56, 3, .ifCond .ne 8, (38, 0, 0), 0)) (by decide +kernel)) hm_z
            rcases hm_z with ⟨b319_z, hm_z⟩ | ⟨b319_z, hm_z⟩
            · replace b319_z : ¬ (rg_v g 164 49) = (0 : Int32) ∧ ¬ (rg_v g 164 49).toInt = (0 : Int32).toInt := b319_z
              replace hm_z := rn_iconst (w := 1) (am_cur_of (i := (64, 1, .iconst 1, (0, 0, 0), 0)) (by decide +kernel)) (by decide) hm_z
              replace hm_z := rn_goto (am_cur_of (i := (65, 3, .goto 4, (41, 0, 0), 0)) (by decide +kernel)) hm_z
              replace hm_z := rn_put (am_cur_of (i := (69, 3, .putfield 327, (12, 49, 1433), 0)) (by decide +kernel)) (by decide +kernel) hm_z
              replace hm_z := rn_aload_n (am_cur_of (i := (72, 1, .aload_n 0, (0, 0, 0), 0)) (by decide +kernel)) g0_z hm_z
              replace hm_z := rn_getI (v := 1) (am_cur_of (i := (73, 3, .getfield 327, (12, 49, 1433), 0)) (by decide +kernel)) (by decide +kernel) rg_v_self hm_z
              replace hm_z := rn_ifF (am_cur_of (i := (76, 3, .ifCond .eq 7, (47, 0, 0), 0)) (by decide +kernel)) (by decide) hm_z
              replace hm_z := rn_lconst (w := 0) (am_cur_of (i := (79, 1, .lconst 0, (0, 0, 0), 0)) (by decide +kernel)) rfl hm_z
              replace hm_z := rn_goto (am_cur_of (i := (80, 3, .goto 6, (50, 0, 0), 0)) (by decide +kernel)) hm_z
              replace hm_z := rn_lret (am_cur_of (i := (86, 1, .lreturn, (0, 0, 0), 0)) (by decide +kernel)) hm_z
              obtain ⟨e320_z, e321_z⟩ := hm_z
              refine ⟨_, e320_z, fun o q ho => ?_, fun e0_z => ?_, fun e1_z => ?_⟩
              · rw [e321_z]
                exact (up_ne (fun z => ho z)).trans (rfl)
              · exact absurd e0_z b319_z.1
              · rw [e321_z, rg_v_self]
                decide
            · replace b319_z : (rg_v g 164 49) = (0 : Int32) ∧ (rg_v g 164 49).toInt = (0 : Int32).toInt := b319_z
              replace hm_z := rn_iload (am_cur_of (i := (59, 2, .iload 5, (0, 0, 0), 0)) (by decide +kernel)) g5_z hm_z
              replace hm_z := rn_ifF (am_cur_of (i := (61, 3, .ifCond .eq 7, (40, 0, 0), 0)) (by decide +kernel)) (by decide) hm_z
              replace hm_z := rn_iconst (w := 1) (am_cur_of (i := (64, 1, .iconst 1, (0, 0, 0), 0)) (by decide +kernel)) (by decide) hm_z
              replace hm_z := rn_goto (am_cur_of (i := (65, 3, .goto 4, (41, 0, 0), 0)) (by decide +kernel)) hm_z
              replace hm_z := rn_put (am_cur_of (i := (69, 3, .putfield 327, (12, 49, 1433), 0)) (by decide +kernel)) (by decide +kernel) hm_z
              replace hm_z := rn_aload_n (am_cur_of (i := (72, 1, .aload_n 0, (0, 0, 0), 0)) (by decide +kernel)) g0_z hm_z
              replace hm_z := rn_getI (v := 1) (am_cur_of (i := (73, 3, .getfield 327, (12, 49, 1433), 0)) (by decide +kernel)) (by decide +kernel) rg_v_self hm_z
              replace hm_z := rn_ifF (am_cur_of (i := (76, 3, .ifCond .eq 7, (47, 0, 0), 0)) (by decide +kernel)) (by decide) hm_z
              replace hm_z := rn_lconst (w := 0) (am_cur_of (i := (79, 1, .lconst 0, (0, 0, 0), 0)) (by decide +kernel)) rfl hm_z
              replace hm_z := rn_goto (am_cur_of (i := (80, 3, .goto 6, (50, 0, 0), 0)) (by decide +kernel)) hm_z
              replace hm_z := rn_lret (am_cur_of (i := (86, 1, .lreturn, (0, 0, 0), 0)) (by decide +kernel)) hm_z
              obtain ⟨e322_z, e323_z⟩ := hm_z
              refine ⟨_, e322_z, fun o q ho => ?_, fun e0_z => ?_, fun e1_z => ?_⟩
              · rw [e323_z]
                exact (up_ne (fun z => ho z)).trans (rfl)
              · obtain ⟨A, B⟩ := hb_z e0_z
                have cp_z : 0 < a.toInt := by omega
                have em := lw_most cp_z
                have nb := lw_neg B
                have mr := lw_mr cp_z (by unfold lB at A; omega)
                have q := tm_out (b := b.toInt) cp_z (by omega)
                exact mO_N (by omega) (by rw [e323_z, rg_v_self]; decide)
              · exact absurd b319_z.1 e1_z
        · replace b307_z : (lg_cmp a 0).toInt < (0 : Int32).toInt := b307_z
          replace b307_z := lgc_lt b307_z
          replace hm_z := rn_lload_n (am_cur_of (i := (33, 1, .lload_n 1, (0, 0, 0), 0)) (by decide +kernel)) g1_z hm_z
          replace hm_z := rn_lneg (w := -a) (am_cur_of (i := (34, 1, .lneg, (0, 0, 0), 0)) (by decide +kernel)) rfl hm_z
          replace hm_z := rn_goto (am_cur_of (i := (35, 3, .goto 4, (25, 0, 0), 0)) (by decide +kernel)) hm_z
          replace hm_z := rn_ldiv (w := 1000000000000 / (-a)) (am_cur_of (i := (39, 1, .ldiv, (0, 0, 0), 0)) (by decide +kernel)) rfl hm_z
          obtain ⟨d324_z, hm_z⟩ := hm_z
          replace hm_z := rn_lcmp (w := lg_cmp (-b) (1000000000000 / (-a))) (am_cur_of (i := (40, 1, .lcmp, (0, 0, 0), 0)) (by decide +kernel)) rfl hm_z
          replace hm_z := rn_if (am_cur_of (i := (41, 3, .ifCond .le 7, (30, 0, 0), 0)) (by decide +kernel)) hm_z
          rcases hm_z with ⟨b325_z, hm_z⟩ | ⟨b325_z, hm_z⟩
          · replace b325_z : (lg_cmp (-b) (1000000000000 / (-a))).toInt ≤ (0 : Int32).toInt := b325_z
            replace b325_z := lgc_le b325_z
            replace hm_z := rn_iconst (w := 0) (am_cur_of (i := (48, 1, .iconst 0, (0, 0, 0), 0)) (by decide +kernel)) (by decide) hm_z
            replace hm_z := rn_istore (am_cur_of (i := (49, 2, .istore 5, (0, 0, 0), 0)) (by decide +kernel)) hm_z
            obtain ⟨_, s326_z, s327_z, g5_z, hm_z⟩ := hm_z
            replace g0_z := s326_z 0 _ (by decide) rfl g0_z
            replace g1_z := s327_z 1 _ (by decide) (by decide) g1_z
            replace g3_z := s327_z 3 _ (by decide) (by decide) g3_z
            clear s326_z s327_z
            replace hm_z := rn_aload_n (am_cur_of (i := (51, 1, .aload_n 0, (0, 0, 0), 0)) (by decide +kernel)) g0_z hm_z
            replace hm_z := rn_aload_n (am_cur_of (i := (52, 1, .aload_n 0, (0, 0, 0), 0)) (by decide +kernel)) g0_z hm_z
            replace hm_z := rn_getI (v := rg_v g 164 49) (am_cur_of (i := (53, 3, .getfield 327, (12, 49, 1433), 0)) (by decide +kernel)) (by decide +kernel) rfl hm_z
            replace hm_z := rn_if (am_cur_of (i := (56, 3, .ifCond .ne 8, (38, 0, 0), 0)) (by decide +kernel)) hm_z
            rcases hm_z with ⟨b328_z, hm_z⟩ | ⟨b328_z, hm_z⟩
            · replace b328_z : ¬ (rg_v g 164 49) = (0 : Int32) ∧ ¬ (rg_v g 164 49).toInt = (0 : Int32).toInt := b328_z
              replace hm_z := rn_iconst (w := 1) (am_cur_of (i := (64, 1, .iconst 1, (0, 0, 0), 0)) (by decide +kernel)) (by decide) hm_z
              replace hm_z := rn_goto (am_cur_of (i := (65, 3, .goto 4, (41, 0, 0), 0)) (by decide +kernel)) hm_z
              replace hm_z := rn_put (am_cur_of (i := (69, 3, .putfield 327, (12, 49, 1433), 0)) (by decide +kernel)) (by decide +kernel) hm_z
              replace hm_z := rn_aload_n (am_cur_of (i := (72, 1, .aload_n 0, (0, 0, 0), 0)) (by decide +kernel)) g0_z hm_z
              replace hm_z := rn_getI (v := 1) (am_cur_of (i := (73, 3, .getfield 327, (12, 49, 1433), 0)) (by decide +kernel)) (by decide +kernel) rg_v_self hm_z
              replace hm_z := rn_ifF (am_cur_of (i := (76, 3, .ifCond .eq 7, (47, 0, 0), 0)) (by decide +kernel)) (by decide) hm_z
              replace hm_z := rn_lconst (w := 0) (am_cur_of (i := (79, 1, .lconst 0, (0, 0, 0), 0)) (by decide +kernel)) rfl hm_z
              replace hm_z := rn_goto (am_cur_of (i := (80, 3, .goto 6, (50, 0, 0), 0)) (by decide +kernel)) hm_z
              replace hm_z := rn_lret (am_cur_of (i := (86, 1, .lreturn, (0, 0, 0), 0)) (by decide +kernel)) hm_z
              obtain ⟨e329_z, e330_z⟩ := hm_z
              refine ⟨_, e329_z, fun o q ho => ?_, fun e0_z => ?_, fun e1_z => ?_⟩
              · rw [e330_z]
                exact (up_ne (fun z => ho z)).trans (rfl)
              · exact absurd e0_z b328_z.1
              · rw [e330_z, rg_v_self]
                decide
            · replace b328_z : (rg_v g 164 49) = (0 : Int32) ∧ (rg_v g 164 49).toInt = (0 : Int32).toInt := b328_z
              replace hm_z := rn_iload (am_cur_of (i := (59, 2, .iload 5, (0, 0, 0), 0)) (by decide +kernel)) g5_z hm_z
              replace hm_z := rn_ifT (am_cur_of (i := (61, 3, .ifCond .eq 7, (40, 0, 0), 0)) (by decide +kernel)) (by decide) hm_z
              replace hm_z := rn_iconst (w := 0) (am_cur_of (i := (68, 1, .iconst 0, (0, 0, 0), 0)) (by decide +kernel)) (by decide) hm_z
              replace hm_z := rn_put (am_cur_of (i := (69, 3, .putfield 327, (12, 49, 1433), 0)) (by decide +kernel)) (by decide +kernel) hm_z
              replace hm_z := rn_aload_n (am_cur_of (i := (72, 1, .aload_n 0, (0, 0, 0), 0)) (by decide +kernel)) g0_z hm_z
              replace hm_z := rn_getI (v := 0) (am_cur_of (i := (73, 3, .getfield 327, (12, 49, 1433), 0)) (by decide +kernel)) (by decide +kernel) rg_v_self hm_z
              replace hm_z := rn_ifT (am_cur_of (i := (76, 3, .ifCond .eq 7, (47, 0, 0), 0)) (by decide +kernel)) (by decide) hm_z
              replace hm_z := rn_lload_n (am_cur_of (i := (83, 1, .lload_n 1, (0, 0, 0), 0)) (by decide +kernel)) g1_z hm_z
              replace hm_z := rn_lload_n (am_cur_of (i := (84, 1, .lload_n 3, (0, 0, 0), 0)) (by decide +kernel)) g3_z hm_z
              replace hm_z := rn_lmul (w := a * b) (am_cur_of (i := (85, 1, .lmul, (0, 0, 0), 0)) (by decide +kernel)) rfl hm_z
              replace hm_z := rn_lret (am_cur_of (i := (86, 1, .lreturn, (0, 0, 0), 0)) (by decide +kernel)) hm_z
              obtain ⟨e331_z, e332_z⟩ := hm_z
              refine ⟨_, e331_z, fun o q ho => ?_, fun e0_z => ?_, fun e1_z => ?_⟩
              · rw [e332_z]
                exact (up_ne (fun z => ho z)).trans (rfl)
              · obtain ⟨A, B⟩ := hb_z e0_z
                have cp_z : 0 < (-a).toInt := by rw [lw_neg A]; omega
                have em := lw_most cp_z
                have nb := lw_neg B
                have en := lw_neg A
                have eb : (-a).toInt * b.toInt = -(a.toInt * b.toInt) := by rw [en, Int.neg_mul]
                have mr := lw_mr cp_z (by rw [en]; unfold lB at A; omega)
                have q := tm_in (b := b.toInt) cp_z (by omega) (by omega)
                have eb2_z : lB (a.toInt * b.toInt) := by unfold lB; omega
                exact mO_L eb2_z (lw_mul eb2_z) (by rw [e332_z, rg_v_self])
              · exact absurd b328_z.1 e1_z
          · replace b325_z : (0 : Int32).toInt < (lg_cmp (-b) (1000000000000 / (-a))).toInt := b325_z
            replace b325_z := lgc_gt b325_z
            replace hm_z := rn_iconst (w := 1) (am_cur_of (i := (44, 1, .iconst 1, (0, 0, 0), 0)) (by decide +kernel)) (by decide) hm_z
            replace hm_z := rn_goto (am_cur_of (i := (45, 3, .goto 4, (31, 0, 0), 0)) (by decide +kernel)) hm_z
            replace hm_z := rn_istore (am_cur_of (i := (49, 2, .istore 5, (0, 0, 0), 0)) (by decide +kernel)) hm_z
            obtain ⟨_, s333_z, s334_z, g5_z, hm_z⟩ := hm_z
            replace g0_z := s333_z 0 _ (by decide) rfl g0_z
            replace g1_z := s334_z 1 _ (by decide) (by decide) g1_z
            replace g3_z := s334_z 3 _ (by decide) (by decide) g3_z
            clear s333_z s334_z
            replace hm_z := rn_aload_n (am_cur_of (i := (51, 1, .aload_n 0, (0, 0, 0), 0)) (by decide +kernel)) g0_z hm_z
            replace hm_z := rn_aload_n (am_cur_of (i := (52, 1, .aload_n 0, (0, 0, 0), 0)) (by decide +kernel)) g0_z hm_z
            replace hm_z := rn_getI (v := rg_v g 164 49) (am_cur_of (i := (53, 3, .getfield 327, (12, 49, 1433), 0)) (by decide +kernel)) (by decide +kernel) rfl hm_z
            replace hm_z := rn_if (am_cur_of (i := (56, 3, .ifCond .ne 8, (38, 0, 0), 0)) (by decide +kernel)) hm_z
            rcases hm_z with ⟨b335_z, hm_z⟩ | ⟨b335_z, hm_z⟩
            · replace b335_z : ¬ (rg_v g 164 49) = (0 : Int32) ∧ ¬ (rg_v g 164 49).toInt = (0 : Int32).toInt := b335_z
              replace hm_z := rn_iconst (w := 1) (am_cur_of (i := (64, 1, .iconst 1, (0, 0, 0), 0)) (by decide +kernel)) (by decide) hm_z
              replace hm_z := rn_goto (am_cur_of (i := (65, 3, .goto 4, (41, 0, 0), 0)) (by decide +kernel)) hm_z
              replace hm_z := rn_put (am_cur_of (i := (69, 3, .putfield 327, (12, 49, 1433), 0)) (by decide +kernel)) (by decide +kernel) hm_z
              replace hm_z := rn_aload_n (am_cur_of (i := (72, 1, .aload_n 0, (0, 0, 0), 0)) (by decide +kernel)) g0_z hm_z
              replace hm_z := rn_getI (v := 1) (am_cur_of (i := (73, 3, .getfield 327, (12, 49, 1433), 0)) (by decide +kernel)) (by decide +kernel) rg_v_self hm_z
              replace hm_z := rn_ifF (am_cur_of (i := (76, 3, .ifCond .eq 7, (47, 0, 0), 0)) (by decide +kernel)) (by decide) hm_z
              replace hm_z := rn_lconst (w := 0) (am_cur_of (i := (79, 1, .lconst 0, (0, 0, 0), 0)) (by decide +kernel)) rfl hm_z
              replace hm_z := rn_goto (am_cur_of (i := (80, 3, .goto 6, (50, 0, 0), 0)) (by decide +kernel)) hm_z
              replace hm_z := rn_lret (am_cur_of (i := (86, 1, .lreturn, (0, 0, 0), 0)) (by decide +kernel)) hm_z
              obtain ⟨e336_z, e337_z⟩ := hm_z
              refine ⟨_, e336_z, fun o q ho => ?_, fun e0_z => ?_, fun e1_z => ?_⟩
              · rw [e337_z]
                exact (up_ne (fun z => ho z)).trans (rfl)
              · exact absurd e0_z b335_z.1
              · rw [e337_z, rg_v_self]
                decide
            · replace b335_z : (rg_v g 164 49) = (0 : Int32) ∧ (rg_v g 164 49).toInt = (0 : Int32).toInt := b335_z
              replace hm_z := rn_iload (am_cur_of (i := (59, 2, .iload 5, (0, 0, 0), 0)) (by decide +kernel)) g5_z hm_z
              replace hm_z := rn_ifF (am_cur_of (i := (61, 3, .ifCond .eq 7, (40, 0, 0), 0)) (by decide +kernel)) (by decide) hm_z
              replace hm_z := rn_iconst (w := 1) (am_cur_of (i := (64, 1, .iconst 1, (0, 0, 0), 0)) (by decide +kernel)) (by decide) hm_z
              replace hm_z := rn_goto (am_cur_of (i := (65, 3, .goto 4, (41, 0, 0), 0)) (by decide +kernel)) hm_z
              replace hm_z := rn_put (am_cur_of (i := (69, 3, .putfield 327, (12, 49, 1433), 0)) (by decide +kernel)) (by decide +kernel) hm_z
              replace hm_z := rn_aload_n (am_cur_of (i := (72, 1, .aload_n 0, (0, 0, 0), 0)) (by decide +kernel)) g0_z hm_z
              replace hm_z := rn_getI (v := 1) (am_cur_of (i := (73, 3, .getfield 327, (12, 49, 1433), 0)) (by decide +kernel)) (by decide +kernel) rg_v_self hm_z
              replace hm_z := rn_ifF (am_cur_of (i := (76, 3, .ifCond .eq 7, (47, 0, 0), 0)) (by decide +kernel)) (by decide) hm_z
              replace hm_z := rn_lconst (w := 0) (am_cur_of (i := (79, 1, .lconst 0, (0, 0, 0), 0)) (by decide +kernel)) rfl hm_z
              replace hm_z := rn_goto (am_cur_of (i := (80, 3, .goto 6, (50, 0, 0), 0)) (by decide +kernel)) hm_z
              replace hm_z := rn_lret (am_cur_of (i := (86, 1, .lreturn, (0, 0, 0), 0)) (by decide +kernel)) hm_z
              obtain ⟨e338_z, e339_z⟩ := hm_z
              refine ⟨_, e338_z, fun o q ho => ?_, fun e0_z => ?_, fun e1_z => ?_⟩
              · rw [e339_z]
                exact (up_ne (fun z => ho z)).trans (rfl)
              · obtain ⟨A, B⟩ := hb_z e0_z
                have cp_z : 0 < (-a).toInt := by rw [lw_neg A]; omega
                have em := lw_most cp_z
                have nb := lw_neg B
                have en := lw_neg A
                have eb : (-a).toInt * b.toInt = -(a.toInt * b.toInt) := by rw [en, Int.neg_mul]
                have mr := lw_mr cp_z (by rw [en]; unfold lB at A; omega)
                have q := tm_out (b := b.toInt) cp_z (by omega)
                exact mO_N (by omega) (by rw [e339_z, rg_v_self]; decide)
              · exact absurd b335_z.1 e1_z
theorem co_195 {n : Nat} {r : Option Value} {g g' : am_H} {k : Int32} {a b : Int64} (hm_z : rn n am_m195 0 (lv_args 0 [.int k, .long a, .long b]) [] g r g') : ∃ x : Int32, r = some (.int x) ∧ g' = g ∧ cZ k a.toInt b.toInt = some x.toInt := by
  have z0_z : (0 : Int32).toInt = 0 := by decide
  have g0_z : am_get (lv_args 0 [.int k, .long a, .long b]) 0 = some (.int k) := rfl
  have g1_z : am_get (lv_args 0 [.int k, .long a, .long b]) 1 = some (.long a) := rfl
  have g3_z : am_get (lv_args 0 [.int k, .long a, .long b]) 3 = some (.long b) := rfl
  replace hm_z := rn_iload_n (am_cur_of (i := (0, 1, .iload_n 0, (0, 0, 0), 0)) (by decide +kernel)) g0_z hm_z
  by_cases v340_z : k = 5
  · replace hm_z := rn_swI (off := 35) (a := 2) (am_cur_of (i := (1, 35, .tableswitch 95 5 9 #[35, 47, 59, 71, 83], (0, 0, 0), 0)) (by decide +kernel)) (by rw [v340_z]; decide) (by rw [v340_z]; decide) (by decide +kernel) hm_z
    replace hm_z := rn_lload_n (am_cur_of (i := (36, 1, .lload_n 1, (0, 0, 0), 0)) (by decide +kernel)) g1_z hm_z
    replace hm_z := rn_lload_n (am_cur_of (i := (37, 1, .lload_n 3, (0, 0, 0), 0)) (by decide +kernel)) g3_z hm_z
    replace hm_z := rn_lcmp (w := lg_cmp a b) (am_cur_of (i := (38, 1, .lcmp, (0, 0, 0), 0)) (by decide +kernel)) rfl hm_z
    replace hm_z := rn_if (am_cur_of (i := (39, 3, .ifCond .ge 7, (8, 0, 0), 0)) (by decide +kernel)) hm_z
    rcases hm_z with ⟨b341_z, hm_z⟩ | ⟨b341_z, hm_z⟩
    · replace b341_z : (0 : Int32).toInt ≤ (lg_cmp a b).toInt := b341_z
      replace b341_z := lgc_ge b341_z
      replace hm_z := rn_iconst (w := 0) (am_cur_of (i := (46, 1, .iconst 0, (0, 0, 0), 0)) (by decide +kernel)) (by decide) hm_z
      replace hm_z := rn_iret (am_cur_of (i := (47, 1, .ireturn, (0, 0, 0), 0)) (by decide +kernel)) hm_z
      obtain ⟨e342_z, e343_z⟩ := hm_z
      refine ⟨_, e342_z, e343_z, ?_⟩
      rw [v340_z, cZ_5, lwT_0 (by omega)]
      rfl
    · replace b341_z : (lg_cmp a b).toInt < (0 : Int32).toInt := b341_z
      replace b341_z := lgc_lt b341_z
      replace hm_z := rn_iconst (w := 1) (am_cur_of (i := (42, 1, .iconst 1, (0, 0, 0), 0)) (by decide +kernel)) (by decide) hm_z
      replace hm_z := rn_goto (am_cur_of (i := (43, 3, .goto 4, (9, 0, 0), 0)) (by decide +kernel)) hm_z
      replace hm_z := rn_iret (am_cur_of (i := (47, 1, .ireturn, (0, 0, 0), 0)) (by decide +kernel)) hm_z
      obtain ⟨e344_z, e345_z⟩ := hm_z
      refine ⟨_, e344_z, e345_z, ?_⟩
      rw [v340_z, cZ_5, lwT_1 (by omega)]
      rfl
  by_cases v346_z : k = 6
  · replace hm_z := rn_swI (off := 47) (a := 10) (am_cur_of (i := (1, 35, .tableswitch 95 5 9 #[35, 47, 59, 71, 83], (0, 0, 0), 0)) (by decide +kernel)) (by rw [v346_z]; decide) (by rw [v346_z]; decide) (by decide +kernel) hm_z
    replace hm_z := rn_lload_n (am_cur_of (i := (48, 1, .lload_n 1, (0, 0, 0), 0)) (by decide +kernel)) g1_z hm_z
    replace hm_z := rn_lload_n (am_cur_of (i := (49, 1, .lload_n 3, (0, 0, 0), 0)) (by decide +kernel)) g3_z hm_z
    replace hm_z := rn_lcmp (w := lg_cmp a b) (am_cur_of (i := (50, 1, .lcmp, (0, 0, 0), 0)) (by decide +kernel)) rfl hm_z
    replace hm_z := rn_if (am_cur_of (i := (51, 3, .ifCond .gt 7, (16, 0, 0), 0)) (by decide +kernel)) hm_z
    rcases hm_z with ⟨b347_z, hm_z⟩ | ⟨b347_z, hm_z⟩
    · replace b347_z : (0 : Int32).toInt < (lg_cmp a b).toInt := b347_z
      replace b347_z := lgc_gt b347_z
      replace hm_z := rn_iconst (w := 0) (am_cur_of (i := (58, 1, .iconst 0, (0, 0, 0), 0)) (by decide +kernel)) (by decide) hm_z
      replace hm_z := rn_iret (am_cur_of (i := (59, 1, .ireturn, (0, 0, 0), 0)) (by decide +kernel)) hm_z
      obtain ⟨e348_z, e349_z⟩ := hm_z
      refine ⟨_, e348_z, e349_z, ?_⟩
      rw [v346_z, cZ_6, lwT_0 (by omega)]
      rfl
    · replace b347_z : (lg_cmp a b).toInt ≤ (0 : Int32).toInt := b347_z
      replace b347_z := lgc_le b347_z
      replace hm_z := rn_iconst (w := 1) (am_cur_of (i := (54, 1, .iconst 1, (0, 0, 0), 0)) (by decide +kernel)) (by decide) hm_z
      replace hm_z := rn_goto (am_cur_of (i := (55, 3, .goto 4, (17, 0, 0), 0)) (by decide +kernel)) hm_z
      replace hm_z := rn_iret (am_cur_of (i := (59, 1, .ireturn, (0, 0, 0), 0)) (by decide +kernel)) hm_z
      obtain ⟨e350_z, e351_z⟩ := hm_z
      refine ⟨_, e350_z, e351_z, ?_⟩
      rw [v346_z, cZ_6, lwT_1 (by omega)]
      rfl
  by_cases v352_z : k = 7
  · replace hm_z := rn_swI (off := 59) (a := 18) (am_cur_of (i := (1, 35, .tableswitch 95 5 9 #[35, 47, 59, 71, 83], (0, 0, 0), 0)) (by decide +kernel)) (by rw [v352_z]; decide) (by rw [v352_z]; decide) (by decide +kernel) hm_z
    replace hm_z := rn_lload_n (am_cur_of (i := (60, 1, .lload_n 1, (0, 0, 0), 0)) (by decide +kernel)) g1_z hm_z
    replace hm_z := rn_lload_n (am_cur_of (i := (61, 1, .lload_n 3, (0, 0, 0), 0)) (by decide +kernel)) g3_z hm_z
    replace hm_z := rn_lcmp (w := lg_cmp a b) (am_cur_of (i := (62, 1, .lcmp, (0, 0, 0), 0)) (by decide +kernel)) rfl hm_z
    replace hm_z := rn_if (am_cur_of (i := (63, 3, .ifCond .ne 7, (24, 0, 0), 0)) (by decide +kernel)) hm_z
    rcases hm_z with ⟨b353_z, hm_z⟩ | ⟨b353_z, hm_z⟩
    · replace b353_z : ¬ (lg_cmp a b) = (0 : Int32) ∧ ¬ (lg_cmp a b).toInt = (0 : Int32).toInt := b353_z
      replace b353_z := lgc_ne b353_z
      replace hm_z := rn_iconst (w := 0) (am_cur_of (i := (70, 1, .iconst 0, (0, 0, 0), 0)) (by decide +kernel)) (by decide) hm_z
      replace hm_z := rn_iret (am_cur_of (i := (71, 1, .ireturn, (0, 0, 0), 0)) (by decide +kernel)) hm_z
      obtain ⟨e354_z, e355_z⟩ := hm_z
      refine ⟨_, e354_z, e355_z, ?_⟩
      rw [v352_z, cZ_7, lwT_0 (by omega)]
      rfl
    · replace b353_z : (lg_cmp a b) = (0 : Int32) ∧ (lg_cmp a b).toInt = (0 : Int32).toInt := b353_z
      replace b353_z := lgc_eq b353_z
      replace hm_z := rn_iconst (w := 1) (am_cur_of (i := (66, 1, .iconst 1, (0, 0, 0), 0)) (by decide +kernel)) (by decide) hm_z
      replace hm_z := rn_goto (am_cur_of (i := (67, 3, .goto 4, (25, 0, 0), 0)) (by decide +kernel)) hm_z
      replace hm_z := rn_iret (am_cur_of (i := (71, 1, .ireturn, (0, 0, 0), 0)) (by decide +kernel)) hm_z
      obtain ⟨e356_z, e357_z⟩ := hm_z
      refine ⟨_, e356_z, e357_z, ?_⟩
      rw [v352_z, cZ_7, lwT_1 (by omega)]
      rfl
  by_cases v358_z : k = 8
  · replace hm_z := rn_swI (off := 71) (a := 26) (am_cur_of (i := (1, 35, .tableswitch 95 5 9 #[35, 47, 59, 71, 83], (0, 0, 0), 0)) (by decide +kernel)) (by rw [v358_z]; decide) (by rw [v358_z]; decide) (by decide +kernel) hm_z
    replace hm_z := rn_lload_n (am_cur_of (i := (72, 1, .lload_n 1, (0, 0, 0), 0)) (by decide +kernel)) g1_z hm_z
    replace hm_z := rn_lload_n (am_cur_of (i := (73, 1, .lload_n 3, (0, 0, 0), 0)) (by decide +kernel)) g3_z hm_z
    replace hm_z := rn_lcmp (w := lg_cmp a b) (am_cur_of (i := (74, 1, .lcmp, (0, 0, 0), 0)) (by decide +kernel)) rfl hm_z
    replace hm_z := rn_if (am_cur_of (i := (75, 3, .ifCond .eq 7, (32, 0, 0), 0)) (by decide +kernel)) hm_z
    rcases hm_z with ⟨b359_z, hm_z⟩ | ⟨b359_z, hm_z⟩
    · replace b359_z : (lg_cmp a b) = (0 : Int32) ∧ (lg_cmp a b).toInt = (0 : Int32).toInt := b359_z
      replace b359_z := lgc_eq b359_z
      replace hm_z := rn_iconst (w := 0) (am_cur_of (i := (82, 1, .iconst 0, (0, 0, 0), 0)) (by decide +kernel)) (by decide) hm_z
      replace hm_z := rn_iret (am_cur_of (i := (83, 1, .ireturn, (0, 0, 0), 0)) (by decide +kernel)) hm_z
      obtain ⟨e360_z, e361_z⟩ := hm_z
      refine ⟨_, e360_z, e361_z, ?_⟩
      rw [v358_z, cZ_8, lwT_0 (by omega)]
      rfl
    · replace b359_z : ¬ (lg_cmp a b) = (0 : Int32) ∧ ¬ (lg_cmp a b).toInt = (0 : Int32).toInt := b359_z
      replace b359_z := lgc_ne b359_z
      replace hm_z := rn_iconst (w := 1) (am_cur_of (i := (78, 1, .iconst 1, (0, 0, 0), 0)) (by decide +kernel)) (by decide) hm_z
      replace hm_z := rn_goto (am_cur_of (i := (79, 3, .goto 4, (33, 0, 0), 0)) (by decide +kernel)) hm_z
      replace hm_z := rn_iret (am_cur_of (i := (83, 1, .ireturn, (0, 0, 0), 0)) (by decide +kernel)) hm_z
      obtain ⟨e362_z, e363_z⟩ := hm_z
      refine ⟨_, e362_z, e363_z, ?_⟩
      rw [v358_z, cZ_8, lwT_1 (by omega)]
      rfl
  by_cases v364_z : k = 9
  · replace hm_z := rn_swI (off := 83) (a := 34) (am_cur_of (i := (1, 35, .tableswitch 95 5 9 #[35, 47, 59, 71, 83], (0, 0, 0), 0)) (by decide +kernel)) (by rw [v364_z]; decide) (by rw [v364_z]; decide) (by decide +kernel) hm_z
    replace hm_z := rn_lload_n (am_cur_of (i := (84, 1, .lload_n 1, (0, 0, 0), 0)) (by decide +kernel)) g1_z hm_z
    replace hm_z := rn_lload_n (am_cur_of (i := (85, 1, .lload_n 3, (0, 0, 0), 0)) (by decide +kernel)) g3_z hm_z
    replace hm_z := rn_lcmp (w := lg_cmp a b) (am_cur_of (i := (86, 1, .lcmp, (0, 0, 0), 0)) (by decide +kernel)) rfl hm_z
    replace hm_z := rn_if (am_cur_of (i := (87, 3, .ifCond .lt 7, (40, 0, 0), 0)) (by decide +kernel)) hm_z
    rcases hm_z with ⟨b365_z, hm_z⟩ | ⟨b365_z, hm_z⟩
    · replace b365_z : (lg_cmp a b).toInt < (0 : Int32).toInt := b365_z
      replace b365_z := lgc_lt b365_z
      replace hm_z := rn_iconst (w := 0) (am_cur_of (i := (94, 1, .iconst 0, (0, 0, 0), 0)) (by decide +kernel)) (by decide) hm_z
      replace hm_z := rn_iret (am_cur_of (i := (95, 1, .ireturn, (0, 0, 0), 0)) (by decide +kernel)) hm_z
      obtain ⟨e366_z, e367_z⟩ := hm_z
      refine ⟨_, e366_z, e367_z, ?_⟩
      rw [v364_z, cZ_9, lwT_0 (by omega)]
      rfl
    · replace b365_z : (0 : Int32).toInt ≤ (lg_cmp a b).toInt := b365_z
      replace b365_z := lgc_ge b365_z
      replace hm_z := rn_iconst (w := 1) (am_cur_of (i := (90, 1, .iconst 1, (0, 0, 0), 0)) (by decide +kernel)) (by decide) hm_z
      replace hm_z := rn_goto (am_cur_of (i := (91, 3, .goto 4, (41, 0, 0), 0)) (by decide +kernel)) hm_z
      replace hm_z := rn_iret (am_cur_of (i := (95, 1, .ireturn, (0, 0, 0), 0)) (by decide +kernel)) hm_z
      obtain ⟨e368_z, e369_z⟩ := hm_z
      refine ⟨_, e368_z, e369_z, ?_⟩
      rw [v364_z, cZ_9, lwT_1 (by omega)]
      rfl
  have hsw : ∀ m, m < 5 → (m = 0 ∨ m = 1 ∨ m = 2 ∨ m = 3 ∨ m = 4 ∨ (#[35, 47, 59, 71, 83] : Array Int)[m]? = some 95) := by decide
  have wv340_z : ¬ k.toInt = 5 := fun q => v340_z (Int32.toInt_inj.mp (q.trans (by decide)))
  have wv346_z : ¬ k.toInt = 6 := fun q => v346_z (Int32.toInt_inj.mp (q.trans (by decide)))
  have wv352_z : ¬ k.toInt = 7 := fun q => v352_z (Int32.toInt_inj.mp (q.trans (by decide)))
  have wv358_z : ¬ k.toInt = 8 := fun q => v358_z (Int32.toInt_inj.mp (q.trans (by decide)))
  have wv364_z : ¬ k.toInt = 9 := fun q => v364_z (Int32.toInt_inj.mp (q.trans (by decide)))
  have hx_z : k.toInt < 5 ∨ 9 < k.toInt ∨ (#[35, 47, 59, 71, 83] : Array Int)[(k.toInt - 5).toNat]? = some 95 := by
    by_cases q1_z : k.toInt < 5
    · exact Or.inl q1_z
    · by_cases q2_z : 9 < k.toInt
      · exact Or.inr (Or.inl q2_z)
      · refine Or.inr (Or.inr ?_)
        rcases hsw (k.toInt - 5).toNat (by omega) with qq | qq | qq | qq | qq | qq <;> first | exact qq | (exfalso; omega)
  replace hm_z := rn_swX (a := 42) (am_cur_of (i := (1, 35, .tableswitch 95 5 9 #[35, 47, 59, 71, 83], (0, 0, 0), 0)) (by decide +kernel)) hx_z (by decide +kernel) hm_z
  replace hm_z := rn_lload_n (am_cur_of (i := (96, 1, .lload_n 1, (0, 0, 0), 0)) (by decide +kernel)) g1_z hm_z
  replace hm_z := rn_lload_n (am_cur_of (i := (97, 1, .lload_n 3, (0, 0, 0), 0)) (by decide +kernel)) g3_z hm_z
  replace hm_z := rn_lcmp (w := lg_cmp a b) (am_cur_of (i := (98, 1, .lcmp, (0, 0, 0), 0)) (by decide +kernel)) rfl hm_z
  replace hm_z := rn_if (am_cur_of (i := (99, 3, .ifCond .le 7, (48, 0, 0), 0)) (by decide +kernel)) hm_z
  rcases hm_z with ⟨b370_z, hm_z⟩ | ⟨b370_z, hm_z⟩
  · replace b370_z : (lg_cmp a b).toInt ≤ (0 : Int32).toInt := b370_z
    replace b370_z := lgc_le b370_z
    replace hm_z := rn_iconst (w := 0) (am_cur_of (i := (106, 1, .iconst 0, (0, 0, 0), 0)) (by decide +kernel)) (by decide) hm_z
    replace hm_z := rn_iret (am_cur_of (i := (107, 1, .ireturn, (0, 0, 0), 0)) (by decide +kernel)) hm_z
    obtain ⟨e371_z, e372_z⟩ := hm_z
    refine ⟨_, e371_z, e372_z, ?_⟩
    rw [cZ_z v340_z v346_z v352_z v358_z v364_z, lwT_0 (by omega)]
    rfl
  · replace b370_z : (0 : Int32).toInt < (lg_cmp a b).toInt := b370_z
    replace b370_z := lgc_gt b370_z
    replace hm_z := rn_iconst (w := 1) (am_cur_of (i := (102, 1, .iconst 1, (0, 0, 0), 0)) (by decide +kernel)) (by decide) hm_z
    replace hm_z := rn_goto (am_cur_of (i := (103, 3, .goto 4, (49, 0, 0), 0)) (by decide +kernel)) hm_z
    replace hm_z := rn_iret (am_cur_of (i := (107, 1, .ireturn, (0, 0, 0), 0)) (by decide +kernel)) hm_z
    obtain ⟨e373_z, e374_z⟩ := hm_z
    refine ⟨_, e373_z, e374_z, ?_⟩
    rw [cZ_z v340_z v346_z v352_z v358_z v364_z, lwT_1 (by omega)]
    rfl
theorem co_01 {k x : Int32} {a b : Int} (h : cZ k a b = some x.toInt) : x.toInt = 0 ∨ x.toInt = 1 := by
  have hT : ∀ {p : Prop} [Decidable p], lwT p = some x.toInt → x.toInt = 0 ∨ x.toInt = 1 := by
    intro p _ h
    by_cases c : p
    · rw [lwT_1 c] at h
      exact Or.inr (Option.some.inj h).symm
    · rw [lwT_0 c] at h
      exact Or.inl (Option.some.inj h).symm
  unfold cZ at h
  by_cases c5_z : k = 5
  · rw [if_pos c5_z] at h
    exact hT h
  rw [if_neg c5_z] at h
  by_cases c6_z : k = 6
  · rw [if_pos c6_z] at h
    exact hT h
  rw [if_neg c6_z] at h
  by_cases c7_z : k = 7
  · rw [if_pos c7_z] at h
    exact hT h
  rw [if_neg c7_z] at h
  by_cases c8_z : k = 8
  · rw [if_pos c8_z] at h
    exact hT h
  rw [if_neg c8_z] at h
  by_cases c9_z : k = 9
  · rw [if_pos c9_z] at h
    exact hT h
  rw [if_neg c9_z] at h
  exact hT h
theorem mv_192 {n : Nat} {r : Option Value} {g g' : am_H} {i K A B : Int32} (eK : rg_v g 181 i.toNatClampNeg = K) (eA : rg_v g 182 i.toNatClampNeg = A) (eB : rg_v g 183 i.toNatClampNeg = B) (hb_z : rg_v g 164 49 = 0 → ¬ K = 0 → ¬ K = 1 → lB (rg_l g 187 A.toNatClampNeg).toInt ∧ (¬ K = 2 → lB (rg_l g 187 B.toNatClampNeg).toInt)) (hm_z : rn n am_m192 0 (lv_args 0 [.ref 164, .int i]) [] g r g') : ∃ w : Int64, r = some (.long w) ∧ (∀ o q, ¬ (o = 164 ∧ q = 49) → g' o q = g o q) ∧ (rg_v g 164 49 = 0 → mO (mvS K A B (fun j => rg_l g 186 j) (fun j => (rg_l g 187 j).toInt)) w.toInt (rg_v g' 164 49)) ∧ (¬ rg_v g 164 49 = 0 → ¬ rg_v g' 164 49 = 0) := by
  have z0_z : (0 : Int32).toInt = 0 := by decide
  have z1_z : (1 : Int32).toInt = 1 := by decide
  have z2_z : (2 : Int32).toInt = 2 := by decide
  have zM := lw_M
  have zm := lw_m
  have zz := lw_z
  have g0_z : am_get (lv_args 0 [.ref 164, .int i]) 0 = some (.ref 164) := rfl
  have g1_z : am_get (lv_args 0 [.ref 164, .int i]) 1 = some (.int i) := rfl
  replace hm_z := rn_aload_n (am_cur_of (i := (0, 1, .aload_n 0, (0, 0, 0), 0)) (by decide +kernel)) g0_z hm_z
  replace hm_z := rn_getR (x := 181) (am_cur_of (i := (1, 3, .getfield 63, (12, 36, 1420), 0)) (by decide +kernel)) (by decide +kernel) hm_z
  replace hm_z := rn_iload_n (am_cur_of (i := (4, 1, .iload_n 1, (0, 0, 0), 0)) (by decide +kernel)) g1_z hm_z
  replace hm_z := rn_iaload (N := 128) (q := i.toNatClampNeg) (v := K) (am_cur_of (i := (5, 1, .iaload, (0, 0, 0), 0)) (by decide +kernel)) (by decide +kernel) rfl eK hm_z
  obtain ⟨p375_z, hm_z⟩ := hm_z
  replace hm_z := rn_if (am_cur_of (i := (6, 3, .ifCond .ne 11, (11, 0, 0), 0)) (by decide +kernel)) hm_z
  rcases hm_z with ⟨b376_z, hm_z⟩ | ⟨b376_z, hm_z⟩
  · replace b376_z : ¬ K = (0 : Int32) ∧ ¬ K.toInt = (0 : Int32).toInt := b376_z
    replace hm_z := rn_aload_n (am_cur_of (i := (17, 1, .aload_n 0, (0, 0, 0), 0)) (by decide +kernel)) g0_z hm_z
    replace hm_z := rn_getR (x := 181) (am_cur_of (i := (18, 3, .getfield 63, (12, 36, 1420), 0)) (by decide +kernel)) (by decide +kernel) hm_z
    replace hm_z := rn_iload_n (am_cur_of (i := (21, 1, .iload_n 1, (0, 0, 0), 0)) (by decide +kernel)) g1_z hm_z
    replace hm_z := rn_iaload (N := 128) (q := i.toNatClampNeg) (v := K) (am_cur_of (i := (22, 1, .iaload, (0, 0, 0), 0)) (by decide +kernel)) (by decide +kernel) rfl eK hm_z
    obtain ⟨p377_z, hm_z⟩ := hm_z
    replace hm_z := rn_iconst (w := 1) (am_cur_of (i := (23, 1, .iconst 1, (0, 0, 0), 0)) (by decide +kernel)) (by decide) hm_z
    replace hm_z := rn_cmp (am_cur_of (i := (24, 3, .if_icmp .ne 15, (25, 0, 0), 0)) (by decide +kernel)) hm_z
    rcases hm_z with ⟨b378_z, hm_z⟩ | ⟨b378_z, hm_z⟩
    · replace b378_z : ¬ K = (1 : Int32) ∧ ¬ K.toInt = (1 : Int32).toInt := b378_z
      replace hm_z := rn_aload_n (am_cur_of (i := (39, 1, .aload_n 0, (0, 0, 0), 0)) (by decide +kernel)) g0_z hm_z
      replace hm_z := rn_getR (x := 187) (am_cur_of (i := (40, 3, .getfield 82, (12, 48, 1432), 0)) (by decide +kernel)) (by decide +kernel) hm_z
      replace hm_z := rn_aload_n (am_cur_of (i := (43, 1, .aload_n 0, (0, 0, 0), 0)) (by decide +kernel)) g0_z hm_z
      replace hm_z := rn_getR (x := 182) (am_cur_of (i := (44, 3, .getfield 66, (12, 37, 1421), 0)) (by decide +kernel)) (by decide +kernel) hm_z
      replace hm_z := rn_iload_n (am_cur_of (i := (47, 1, .iload_n 1, (0, 0, 0), 0)) (by decide +kernel)) g1_z hm_z
      replace hm_z := rn_iaload (N := 128) (q := i.toNatClampNeg) (v := A) (am_cur_of (i := (48, 1, .iaload, (0, 0, 0), 0)) (by decide +kernel)) (by decide +kernel) rfl eA hm_z
      obtain ⟨p379_z, hm_z⟩ := hm_z
      replace hm_z := rn_laload (N := 64) (q := A.toNatClampNeg) (v := rg_l g 187 A.toNatClampNeg) (am_cur_of (i := (49, 1, .laload, (0, 0, 0), 0)) (by decide +kernel)) (by decide +kernel) rfl rfl hm_z
      obtain ⟨p380_z, hm_z⟩ := hm_z
      replace hm_z := rn_lstore_n (am_cur_of (i := (50, 1, .lstore_n 2, (0, 0, 0), 0)) (by decide +kernel)) hm_z
      obtain ⟨_, s381_z, s382_z, g2_z, hm_z⟩ := hm_z
      replace g0_z := s381_z 0 _ (by decide) (by decide) rfl g0_z
      replace g1_z := s381_z 1 _ (by decide) (by decide) rfl g1_z
      clear s381_z s382_z
      replace hm_z := rn_aload_n (am_cur_of (i := (51, 1, .aload_n 0, (0, 0, 0), 0)) (by decide +kernel)) g0_z hm_z
      replace hm_z := rn_getR (x := 181) (am_cur_of (i := (52, 3, .getfield 63, (12, 36, 1420), 0)) (by decide +kernel)) (by decide +kernel) hm_z
      replace hm_z := rn_iload_n (am_cur_of (i := (55, 1, .iload_n 1, (0, 0, 0), 0)) (by decide +kernel)) g1_z hm_z
      replace hm_z := rn_iaload (N := 128) (q := i.toNatClampNeg) (v := K) (am_cur_of (i := (56, 1, .iaload, (0, 0, 0), 0)) (by decide +kernel)) (by decide +kernel) rfl eK hm_z
      obtain ⟨p383_z, hm_z⟩ := hm_z
      replace hm_z := rn_iconst (w := 2) (am_cur_of (i := (57, 1, .iconst 2, (0, 0, 0), 0)) (by decide +kernel)) (by decide) hm_z
      replace hm_z := rn_cmp (am_cur_of (i := (58, 3, .if_icmp .ne 15, (47, 0, 0), 0)) (by decide +kernel)) hm_z
      rcases hm_z with ⟨b384_z, hm_z⟩ | ⟨b384_z, hm_z⟩
      · replace b384_z : ¬ K = (2 : Int32) ∧ ¬ K.toInt = (2 : Int32).toInt := b384_z
        replace hm_z := rn_aload_n (am_cur_of (i := (73, 1, .aload_n 0, (0, 0, 0), 0)) (by decide +kernel)) g0_z hm_z
        replace hm_z := rn_getR (x := 187) (am_cur_of (i := (74, 3, .getfield 82, (12, 48, 1432), 0)) (by decide +kernel)) (by decide +kernel) hm_z
        replace hm_z := rn_aload_n (am_cur_of (i := (77, 1, .aload_n 0, (0, 0, 0), 0)) (by decide +kernel)) g0_z hm_z
        replace hm_z := rn_getR (x := 183) (am_cur_of (i := (78, 3, .getfield 69, (12, 38, 1422), 0)) (by decide +kernel)) (by decide +kernel) hm_z
        replace hm_z := rn_iload_n (am_cur_of (i := (81, 1, .iload_n 1, (0, 0, 0), 0)) (by decide +kernel)) g1_z hm_z
        replace hm_z := rn_iaload (N := 128) (q := i.toNatClampNeg) (v := B) (am_cur_of (i := (82, 1, .iaload, (0, 0, 0), 0)) (by decide +kernel)) (by decide +kernel) rfl eB hm_z
        obtain ⟨p385_z, hm_z⟩ := hm_z
        replace hm_z := rn_laload (N := 64) (q := B.toNatClampNeg) (v := rg_l g 187 B.toNatClampNeg) (am_cur_of (i := (83, 1, .laload, (0, 0, 0), 0)) (by decide +kernel)) (by decide +kernel) rfl rfl hm_z
        obtain ⟨p386_z, hm_z⟩ := hm_z
        replace hm_z := rn_lstore (am_cur_of (i := (84, 2, .lstore 4, (0, 0, 0), 0)) (by decide +kernel)) hm_z
        obtain ⟨_, s387_z, s388_z, g4_z, hm_z⟩ := hm_z
        replace g0_z := s387_z 0 _ (by decide) (by decide) rfl g0_z
        replace g1_z := s387_z 1 _ (by decide) (by decide) rfl g1_z
        replace g2_z := s388_z 2 _ (by decide) (by decide) (by decide) g2_z
        clear s387_z s388_z
        replace hm_z := rn_aload_n (am_cur_of (i := (86, 1, .aload_n 0, (0, 0, 0), 0)) (by decide +kernel)) g0_z hm_z
        replace hm_z := rn_getR (x := 181) (am_cur_of (i := (87, 3, .getfield 63, (12, 36, 1420), 0)) (by decide +kernel)) (by decide +kernel) hm_z
        replace hm_z := rn_iload_n (am_cur_of (i := (90, 1, .iload_n 1, (0, 0, 0), 0)) (by decide +kernel)) g1_z hm_z
        replace hm_z := rn_iaload (N := 128) (q := i.toNatClampNeg) (v := K) (am_cur_of (i := (91, 1, .iaload, (0, 0, 0), 0)) (by decide +kernel)) (by decide +kernel) rfl eK hm_z
        obtain ⟨p389_z, hm_z⟩ := hm_z
        by_cases v390_z : K = 3
        · replace hm_z := rn_swI (off := 64) (a := 60) (am_cur_of (i := (92, 64, .tableswitch 167 3 14 #[64, 83, 167, 167, 167, 167, 167, 167, 102, 111, 120, 128], (0, 0, 0), 0)) (by decide +kernel)) (by rw [v390_z]; decide) (by rw [v390_z]; decide) (by decide +kernel) hm_z
          replace hm_z := rn_lload_n (am_cur_of (i := (156, 1, .lload_n 2, (0, 0, 0), 0)) (by decide +kernel)) g2_z hm_z
          replace hm_z := rn_lconst (w := 0) (am_cur_of (i := (157, 1, .lconst 0, (0, 0, 0), 0)) (by decide +kernel)) rfl hm_z
          replace hm_z := rn_lcmp (w := lg_cmp (rg_l g 187 A.toNatClampNeg) 0) (am_cur_of (i := (158, 1, .lcmp, (0, 0, 0), 0)) (by decide +kernel)) rfl hm_z
          replace hm_z := rn_if (am_cur_of (i := (159, 3, .ifCond .eq 14, (70, 0, 0), 0)) (by decide +kernel)) hm_z
          rcases hm_z with ⟨b391_z, hm_z⟩ | ⟨b391_z, hm_z⟩
          · replace b391_z : (lg_cmp (rg_l g 187 A.toNatClampNeg) 0) = (0 : Int32) ∧ (lg_cmp (rg_l g 187 A.toNatClampNeg) 0).toInt = (0 : Int32).toInt := b391_z
            replace b391_z := lgc_eq b391_z
            replace hm_z := rn_lconst (w := 0) (am_cur_of (i := (173, 1, .lconst 0, (0, 0, 0), 0)) (by decide +kernel)) rfl hm_z
            replace hm_z := rn_lret (am_cur_of (i := (174, 1, .lreturn, (0, 0, 0), 0)) (by decide +kernel)) hm_z
            obtain ⟨e392_z, e393_z⟩ := hm_z
            refine ⟨_, e392_z, fun o q _ => by rw [e393_z], fun e0_z => ?_, fun e1_z => by rw [e393_z]; exact e1_z⟩
            rw [mvS_j b376_z.1 b378_z.1 b384_z.1, v390_z, mZ_3]
            exact mO_0 (by omega) (by decide) (by rw [e393_z]; exact e0_z)
          · replace b391_z : ¬ (lg_cmp (rg_l g 187 A.toNatClampNeg) 0) = (0 : Int32) ∧ ¬ (lg_cmp (rg_l g 187 A.toNatClampNeg) 0).toInt = (0 : Int32).toInt := b391_z
            replace b391_z := lgc_ne b391_z
            replace hm_z := rn_lload (am_cur_of (i := (162, 2, .lload 4, (0, 0, 0), 0)) (by decide +kernel)) g4_z hm_z
            replace hm_z := rn_lconst (w := 0) (am_cur_of (i := (164, 1, .lconst 0, (0, 0, 0), 0)) (by decide +kernel)) rfl hm_z
            replace hm_z := rn_lcmp (w := lg_cmp (rg_l g 187 B.toNatClampNeg) 0) (am_cur_of (i := (165, 1, .lcmp, (0, 0, 0), 0)) (by decide +kernel)) rfl hm_z
            replace hm_z := rn_if (am_cur_of (i := (166, 3, .ifCond .eq 7, (70, 0, 0), 0)) (by decide +kernel)) hm_z
            rcases hm_z with ⟨b394_z, hm_z⟩ | ⟨b394_z, hm_z⟩
            · replace b394_z : (lg_cmp (rg_l g 187 B.toNatClampNeg) 0) = (0 : Int32) ∧ (lg_cmp (rg_l g 187 B.toNatClampNeg) 0).toInt = (0 : Int32).toInt := b394_z
              replace b394_z := lgc_eq b394_z
              replace hm_z := rn_lconst (w := 0) (am_cur_of (i := (173, 1, .lconst 0, (0, 0, 0), 0)) (by decide +kernel)) rfl hm_z
              replace hm_z := rn_lret (am_cur_of (i := (174, 1, .lreturn, (0, 0, 0), 0)) (by decide +kernel)) hm_z
              obtain ⟨e395_z, e396_z⟩ := hm_z
              refine ⟨_, e395_z, fun o q _ => by rw [e396_z], fun e0_z => ?_, fun e1_z => by rw [e396_z]; exact e1_z⟩
              rw [mvS_j b376_z.1 b378_z.1 b384_z.1, v390_z, mZ_3]
              exact mO_0 (by omega) (by decide) (by rw [e396_z]; exact e0_z)
            · replace b394_z : ¬ (lg_cmp (rg_l g 187 B.toNatClampNeg) 0) = (0 : Int32) ∧ ¬ (lg_cmp (rg_l g 187 B.toNatClampNeg) 0).toInt = (0 : Int32).toInt := b394_z
              replace b394_z := lgc_ne b394_z
              replace hm_z := rn_lconst (w := 1) (am_cur_of (i := (169, 1, .lconst 1, (0, 0, 0), 0)) (by decide +kernel)) rfl hm_z
              replace hm_z := rn_goto (am_cur_of (i := (170, 3, .goto 4, (71, 0, 0), 0)) (by decide +kernel)) hm_z
              replace hm_z := rn_lret (am_cur_of (i := (174, 1, .lreturn, (0, 0, 0), 0)) (by decide +kernel)) hm_z
              obtain ⟨e397_z, e398_z⟩ := hm_z
              refine ⟨_, e397_z, fun o q _ => by rw [e398_z], fun e0_z => ?_, fun e1_z => by rw [e398_z]; exact e1_z⟩
              rw [mvS_j b376_z.1 b378_z.1 b384_z.1, v390_z, mZ_3]
              exact mO_1 (by omega) (by decide) (by rw [e398_z]; exact e0_z)
        by_cases v399_z : K = 4
        · replace hm_z := rn_swI (off := 83) (a := 72) (am_cur_of (i := (92, 64, .tableswitch 167 3 14 #[64, 83, 167, 167, 167, 167, 167, 167, 102, 111, 120, 128], (0, 0, 0), 0)) (by decide +kernel)) (by rw [v399_z]; decide) (by rw [v399_z]; decide) (by decide +kernel) hm_z
          replace hm_z := rn_lload_n (am_cur_of (i := (175, 1, .lload_n 2, (0, 0, 0), 0)) (by decide +kernel)) g2_z hm_z
          replace hm_z := rn_lconst (w := 0) (am_cur_of (i := (176, 1, .lconst 0, (0, 0, 0), 0)) (by decide +kernel)) rfl hm_z
          replace hm_z := rn_lcmp (w := lg_cmp (rg_l g 187 A.toNatClampNeg) 0) (am_cur_of (i := (177, 1, .lcmp, (0, 0, 0), 0)) (by decide +kernel)) rfl hm_z
          replace hm_z := rn_if (am_cur_of (i := (178, 3, .ifCond .ne 10, (80, 0, 0), 0)) (by decide +kernel)) hm_z
          rcases hm_z with ⟨b400_z, hm_z⟩ | ⟨b400_z, hm_z⟩
          · replace b400_z : ¬ (lg_cmp (rg_l g 187 A.toNatClampNeg) 0) = (0 : Int32) ∧ ¬ (lg_cmp (rg_l g 187 A.toNatClampNeg) 0).toInt = (0 : Int32).toInt := b400_z
            replace b400_z := lgc_ne b400_z
            replace hm_z := rn_lconst (w := 1) (am_cur_of (i := (188, 1, .lconst 1, (0, 0, 0), 0)) (by decide +kernel)) rfl hm_z
            replace hm_z := rn_goto (am_cur_of (i := (189, 3, .goto 4, (83, 0, 0), 0)) (by decide +kernel)) hm_z
            replace hm_z := rn_lret (am_cur_of (i := (193, 1, .lreturn, (0, 0, 0), 0)) (by decide +kernel)) hm_z
            obtain ⟨e401_z, e402_z⟩ := hm_z
            refine ⟨_, e401_z, fun o q _ => by rw [e402_z], fun e0_z => ?_, fun e1_z => by rw [e402_z]; exact e1_z⟩
            rw [mvS_j b376_z.1 b378_z.1 b384_z.1, v399_z, mZ_4]
            exact mO_1 (by omega) (by decide) (by rw [e402_z]; exact e0_z)
          · replace b400_z : (lg_cmp (rg_l g 187 A.toNatClampNeg) 0) = (0 : Int32) ∧ (lg_cmp (rg_l g 187 A.toNatClampNeg) 0).toInt = (0 : Int32).toInt := b400_z
            replace b400_z := lgc_eq b400_z
            replace hm_z := rn_lload (am_cur_of (i := (181, 2, .lload 4, (0, 0, 0), 0)) (by decide +kernel)) g4_z hm_z
            replace hm_z := rn_lconst (w := 0) (am_cur_of (i := (183, 1, .lconst 0, (0, 0, 0), 0)) (by decide +kernel)) rfl hm_z
            replace hm_z := rn_lcmp (w := lg_cmp (rg_l g 187 B.toNatClampNeg) 0) (am_cur_of (i := (184, 1, .lcmp, (0, 0, 0), 0)) (by decide +kernel)) rfl hm_z
            replace hm_z := rn_if (am_cur_of (i := (185, 3, .ifCond .eq 7, (82, 0, 0), 0)) (by decide +kernel)) hm_z
            rcases hm_z with ⟨b403_z, hm_z⟩ | ⟨b403_z, hm_z⟩
            · replace b403_z : (lg_cmp (rg_l g 187 B.toNatClampNeg) 0) = (0 : Int32) ∧ (lg_cmp (rg_l g 187 B.toNatClampNeg) 0).toInt = (0 : Int32).toInt := b403_z
              replace b403_z := lgc_eq b403_z
              replace hm_z := rn_lconst (w := 0) (am_cur_of (i := (192, 1, .lconst 0, (0, 0, 0), 0)) (by decide +kernel)) rfl hm_z
              replace hm_z := rn_lret (am_cur_of (i := (193, 1, .lreturn, (0, 0, 0), 0)) (by decide +kernel)) hm_z
              obtain ⟨e404_z, e405_z⟩ := hm_z
              refine ⟨_, e404_z, fun o q _ => by rw [e405_z], fun e0_z => ?_, fun e1_z => by rw [e405_z]; exact e1_z⟩
              rw [mvS_j b376_z.1 b378_z.1 b384_z.1, v399_z, mZ_4]
              exact mO_0 (by omega) (by decide) (by rw [e405_z]; exact e0_z)
            · replace b403_z : ¬ (lg_cmp (rg_l g 187 B.toNatClampNeg) 0) = (0 : Int32) ∧ ¬ (lg_cmp (rg_l g 187 B.toNatClampNeg) 0).toInt = (0 : Int32).toInt := b403_z
              replace b403_z := lgc_ne b403_z
              replace hm_z := rn_lconst (w := 1) (am_cur_of (i := (188, 1, .lconst 1, (0, 0, 0), 0)) (by decide +kernel)) rfl hm_z
              replace hm_z := rn_goto (am_cur_of (i := (189, 3, .goto 4, (83, 0, 0), 0)) (by decide +kernel)) hm_z
              replace hm_z := rn_lret (am_cur_of (i := (193, 1, .lreturn, (0, 0, 0), 0)) (by decide +kernel)) hm_z
              obtain ⟨e406_z, e407_z⟩ := hm_z
              refine ⟨_, e406_z, fun o q _ => by rw [e407_z], fun e0_z => ?_, fun e1_z => by rw [e407_z]; exact e1_z⟩
              rw [mvS_j b376_z.1 b378_z.1 b384_z.1, v399_z, mZ_4]
              exact mO_1 (by omega) (by decide) (by rw [e407_z]; exact e0_z)
        by_cases v408_z : K = 11
        · replace hm_z := rn_swI (off := 102) (a := 84) (am_cur_of (i := (92, 64, .tableswitch 167 3 14 #[64, 83, 167, 167, 167, 167, 167, 167, 102, 111, 120, 128], (0, 0, 0), 0)) (by decide +kernel)) (by rw [v408_z]; decide) (by rw [v408_z]; decide) (by decide +kernel) hm_z
          replace hm_z := rn_aload_n (am_cur_of (i := (194, 1, .aload_n 0, (0, 0, 0), 0)) (by decide +kernel)) g0_z hm_z
          replace hm_z := rn_lload_n (am_cur_of (i := (195, 1, .lload_n 2, (0, 0, 0), 0)) (by decide +kernel)) g2_z hm_z
          replace hm_z := rn_lload (am_cur_of (i := (196, 2, .lload 4, (0, 0, 0), 0)) (by decide +kernel)) g4_z hm_z
          replace hm_z := rn_ladd (w := (rg_l g 187 A.toNatClampNeg) + (rg_l g 187 B.toNatClampNeg)) (am_cur_of (i := (198, 1, .ladd, (0, 0, 0), 0)) (by decide +kernel)) rfl hm_z
          replace hm_z := rn_callV (M' := am_m193) (o := 164) (ar := [.long ((rg_l g 187 A.toNatClampNeg) + (rg_l g 187 B.toNatClampNeg))]) (rest := []) (L := lv_args 0 [.ref 164, .long ((rg_l g 187 A.toNatClampNeg) + (rg_l g 187 B.toNatClampNeg))]) (am_cur_of (i := (199, 3, .invokevirtual 334, (193, 1803, 3), 0)) (by decide +kernel)) rfl rfl rfl rfl hm_z
          obtain ⟨r409_z, h410_z, q411_z, hm_z⟩ := hm_z
          obtain ⟨wx, rr, fx, x0_z, x1_z⟩ := bd_193 q411_z
          subst rr
          replace hm_z : rn _ _ _ _ [.long wx] _ _ _ := hm_z
          replace hm_z := rn_lret (am_cur_of (i := (202, 1, .lreturn, (0, 0, 0), 0)) (by decide +kernel)) hm_z
          obtain ⟨e412_z, e413_z⟩ := hm_z
          refine ⟨_, e412_z, fun o q ho => by rw [e413_z]; exact fx o q ho, fun e0_z => ?_, fun e1_z => by rw [e413_z]; exact x1_z e1_z⟩
          rw [mvS_j b376_z.1 b378_z.1 b384_z.1, v408_z, mZ_11, e413_z]
          rw [← lw_add (hb_z e0_z b376_z.1 b378_z.1).1 ((hb_z e0_z b376_z.1 b378_z.1).2 b384_z.1)]
          exact x0_z e0_z
        by_cases v414_z : K = 12
        · replace hm_z := rn_swI (off := 111) (a := 90) (am_cur_of (i := (92, 64, .tableswitch 167 3 14 #[64, 83, 167, 167, 167, 167, 167, 167, 102, 111, 120, 128], (0, 0, 0), 0)) (by decide +kernel)) (by rw [v414_z]; decide) (by rw [v414_z]; decide) (by decide +kernel) hm_z
          replace hm_z := rn_aload_n (am_cur_of (i := (203, 1, .aload_n 0, (0, 0, 0), 0)) (by decide +kernel)) g0_z hm_z
          replace hm_z := rn_lload_n (am_cur_of (i := (204, 1, .lload_n 2, (0, 0, 0), 0)) (by decide +kernel)) g2_z hm_z
          replace hm_z := rn_lload (am_cur_of (i := (205, 2, .lload 4, (0, 0, 0), 0)) (by decide +kernel)) g4_z hm_z
          replace hm_z := rn_lsub (w := (rg_l g 187 A.toNatClampNeg) - (rg_l g 187 B.toNatClampNeg)) (am_cur_of (i := (207, 1, .lsub, (0, 0, 0), 0)) (by decide +kernel)) rfl hm_z
          replace hm_z := rn_callV (M' := am_m193) (o := 164) (ar := [.long ((rg_l g 187 A.toNatClampNeg) - (rg_l g 187 B.toNatClampNeg))]) (rest := []) (L := lv_args 0 [.ref 164, .long ((rg_l g 187 A.toNatClampNeg) - (rg_l g 187 B.toNatClampNeg))]) (am_cur_of (i := (208, 3, .invokevirtual 334, (193, 1803, 3), 0)) (by decide +kernel)) rfl rfl rfl rfl hm_z
          obtain ⟨r415_z, h416_z, q417_z, hm_z⟩ := hm_z
          obtain ⟨wx, rr, fx, x0_z, x1_z⟩ := bd_193 q417_z
          subst rr
          replace hm_z : rn _ _ _ _ [.long wx] _ _ _ := hm_z
          replace hm_z := rn_lret (am_cur_of (i := (211, 1, .lreturn, (0, 0, 0), 0)) (by decide +kernel)) hm_z
          obtain ⟨e418_z, e419_z⟩ := hm_z
          refine ⟨_, e418_z, fun o q ho => by rw [e419_z]; exact fx o q ho, fun e0_z => ?_, fun e1_z => by rw [e419_z]; exact x1_z e1_z⟩
          rw [mvS_j b376_z.1 b378_z.1 b384_z.1, v414_z, mZ_12, e419_z]
          rw [← lw_sub (hb_z e0_z b376_z.1 b378_z.1).1 ((hb_z e0_z b376_z.1 b378_z.1).2 b384_z.1)]
          exact x0_z e0_z
        by_cases v420_z : K = 13
        · replace hm_z := rn_swI (off := 120) (a := 96) (am_cur_of (i := (92, 64, .tableswitch 167 3 14 #[64, 83, 167, 167, 167, 167, 167, 167, 102, 111, 120, 128], (0, 0, 0), 0)) (by decide +kernel)) (by rw [v420_z]; decide) (by rw [v420_z]; decide) (by decide +kernel) hm_z
          replace hm_z := rn_aload_n (am_cur_of (i := (212, 1, .aload_n 0, (0, 0, 0), 0)) (by decide +kernel)) g0_z hm_z
          replace hm_z := rn_lload_n (am_cur_of (i := (213, 1, .lload_n 2, (0, 0, 0), 0)) (by decide +kernel)) g2_z hm_z
          replace hm_z := rn_lload (am_cur_of (i := (214, 2, .lload 4, (0, 0, 0), 0)) (by decide +kernel)) g4_z hm_z
          replace hm_z := rn_callV (M' := am_m194) (o := 164) (ar := [.long (rg_l g 187 B.toNatClampNeg), .long (rg_l g 187 A.toNatClampNeg)]) (rest := []) (L := lv_args 0 [.ref 164, .long (rg_l g 187 A.toNatClampNeg), .long (rg_l g 187 B.toNatClampNeg)]) (am_cur_of (i := (216, 3, .invokevirtual 338, (194, 1809, 3), 0)) (by decide +kernel)) rfl rfl rfl rfl hm_z
          obtain ⟨r421_z, h422_z, q423_z, hm_z⟩ := hm_z
          obtain ⟨wx, rr, fx, x0_z, x1_z⟩ := tm_194 (fun e0_z => ⟨(hb_z e0_z b376_z.1 b378_z.1).1, (hb_z e0_z b376_z.1 b378_z.1).2 b384_z.1⟩) q423_z
          subst rr
          replace hm_z : rn _ _ _ _ [.long wx] _ _ _ := hm_z
          replace hm_z := rn_lret (am_cur_of (i := (219, 1, .lreturn, (0, 0, 0), 0)) (by decide +kernel)) hm_z
          obtain ⟨e424_z, e425_z⟩ := hm_z
          refine ⟨_, e424_z, fun o q ho => by rw [e425_z]; exact fx o q ho, fun e0_z => ?_, fun e1_z => by rw [e425_z]; exact x1_z e1_z⟩
          rw [mvS_j b376_z.1 b378_z.1 b384_z.1, v420_z, mZ_13, e425_z]
          exact x0_z e0_z
        by_cases v426_z : K = 14
        · replace hm_z := rn_swI (off := 128) (a := 101) (am_cur_of (i := (92, 64, .tableswitch 167 3 14 #[64, 83, 167, 167, 167, 167, 167, 167, 102, 111, 120, 128], (0, 0, 0), 0)) (by decide +kernel)) (by rw [v426_z]; decide) (by rw [v426_z]; decide) (by decide +kernel) hm_z
          replace hm_z := rn_aload_n (am_cur_of (i := (220, 1, .aload_n 0, (0, 0, 0), 0)) (by decide +kernel)) g0_z hm_z
          replace hm_z := rn_aload_n (am_cur_of (i := (221, 1, .aload_n 0, (0, 0, 0), 0)) (by decide +kernel)) g0_z hm_z
          replace hm_z := rn_getI (v := rg_v g 164 49) (am_cur_of (i := (222, 3, .getfield 327, (12, 49, 1433), 0)) (by decide +kernel)) (by decide +kernel) rfl hm_z
          replace hm_z := rn_if (am_cur_of (i := (225, 3, .ifCond .ne 10, (109, 0, 0), 0)) (by decide +kernel)) hm_z
          rcases hm_z with ⟨b427_z, hm_z⟩ | ⟨b427_z, hm_z⟩
          · replace b427_z : ¬ (rg_v g 164 49) = (0 : Int32) ∧ ¬ (rg_v g 164 49).toInt = (0 : Int32).toInt := b427_z
            replace hm_z := rn_iconst (w := 1) (am_cur_of (i := (235, 1, .iconst 1, (0, 0, 0), 0)) (by decide +kernel)) (by decide) hm_z
            replace hm_z := rn_goto (am_cur_of (i := (236, 3, .goto 4, (112, 0, 0), 0)) (by decide +kernel)) hm_z
            replace hm_z := rn_put (am_cur_of (i := (240, 3, .putfield 327, (12, 49, 1433), 0)) (by decide +kernel)) (by decide +kernel) hm_z
            replace hm_z := rn_aload_n (am_cur_of (i := (243, 1, .aload_n 0, (0, 0, 0), 0)) (by decide +kernel)) g0_z hm_z
            replace hm_z := rn_getI (v := 1) (am_cur_of (i := (244, 3, .getfield 327, (12, 49, 1433), 0)) (by decide +kernel)) (by decide +kernel) rg_v_self hm_z
            replace hm_z := rn_ifF (am_cur_of (i := (247, 3, .ifCond .eq 7, (118, 0, 0), 0)) (by decide +kernel)) (by decide) hm_z
            replace hm_z := rn_lconst (w := 0) (am_cur_of (i := (250, 1, .lconst 0, (0, 0, 0), 0)) (by decide +kernel)) rfl hm_z
            replace hm_z := rn_goto (am_cur_of (i := (251, 3, .goto 7, (121, 0, 0), 0)) (by decide +kernel)) hm_z
            replace hm_z := rn_lret (am_cur_of (i := (258, 1, .lreturn, (0, 0, 0), 0)) (by decide +kernel)) hm_z
            obtain ⟨e428_z, e429_z⟩ := hm_z
            refine ⟨_, e428_z, fun o q ho => ?_, fun e0_z => ?_, fun e1_z => ?_⟩
            · rw [e429_z]
              exact (up_ne (fun z => ho z)).trans (rfl)
            · exact absurd e0_z b427_z.1
            · rw [e429_z, rg_v_self]
              decide
          · replace b427_z : (rg_v g 164 49) = (0 : Int32) ∧ (rg_v g 164 49).toInt = (0 : Int32).toInt := b427_z
            replace hm_z := rn_lload (am_cur_of (i := (228, 2, .lload 4, (0, 0, 0), 0)) (by decide +kernel)) g4_z hm_z
            replace hm_z := rn_lconst (w := 0) (am_cur_of (i := (230, 1, .lconst 0, (0, 0, 0), 0)) (by decide +kernel)) rfl hm_z
            replace hm_z := rn_lcmp (w := lg_cmp (rg_l g 187 B.toNatClampNeg) 0) (am_cur_of (i := (231, 1, .lcmp, (0, 0, 0), 0)) (by decide +kernel)) rfl hm_z
            replace hm_z := rn_if (am_cur_of (i := (232, 3, .ifCond .ne 7, (111, 0, 0), 0)) (by decide +kernel)) hm_z
            rcases hm_z with ⟨b430_z, hm_z⟩ | ⟨b430_z, hm_z⟩
            · replace b430_z : ¬ (lg_cmp (rg_l g 187 B.toNatClampNeg) 0) = (0 : Int32) ∧ ¬ (lg_cmp (rg_l g 187 B.toNatClampNeg) 0).toInt = (0 : Int32).toInt := b430_z
              replace b430_z := lgc_ne b430_z
              replace hm_z := rn_iconst (w := 0) (am_cur_of (i := (239, 1, .iconst 0, (0, 0, 0), 0)) (by decide +kernel)) (by decide) hm_z
              replace hm_z := rn_put (am_cur_of (i := (240, 3, .putfield 327, (12, 49, 1433), 0)) (by decide +kernel)) (by decide +kernel) hm_z
              replace hm_z := rn_aload_n (am_cur_of (i := (243, 1, .aload_n 0, (0, 0, 0), 0)) (by decide +kernel)) g0_z hm_z
              replace hm_z := rn_getI (v := 0) (am_cur_of (i := (244, 3, .getfield 327, (12, 49, 1433), 0)) (by decide +kernel)) (by decide +kernel) rg_v_self hm_z
              replace hm_z := rn_ifT (am_cur_of (i := (247, 3, .ifCond .eq 7, (118, 0, 0), 0)) (by decide +kernel)) (by decide) hm_z
              replace hm_z := rn_lload_n (am_cur_of (i := (254, 1, .lload_n 2, (0, 0, 0), 0)) (by decide +kernel)) g2_z hm_z
              replace hm_z := rn_lload (am_cur_of (i := (255, 2, .lload 4, (0, 0, 0), 0)) (by decide +kernel)) g4_z hm_z
              replace hm_z := rn_ldiv (w := (rg_l g 187 A.toNatClampNeg) / (rg_l g 187 B.toNatClampNeg)) (am_cur_of (i := (257, 1, .ldiv, (0, 0, 0), 0)) (by decide +kernel)) rfl hm_z
              obtain ⟨d431_z, hm_z⟩ := hm_z
              replace hm_z := rn_lret (am_cur_of (i := (258, 1, .lreturn, (0, 0, 0), 0)) (by decide +kernel)) hm_z
              obtain ⟨e432_z, e433_z⟩ := hm_z
              refine ⟨_, e432_z, fun o q ho => ?_, fun e0_z => ?_, fun e1_z => ?_⟩
              · rw [e433_z]
                exact (up_ne (fun z => ho z)).trans (rfl)
              · rw [mvS_j b376_z.1 b378_z.1 b384_z.1, v426_z, mZ_14]
                rw [if_neg (by omega)]
                exact mO_s (lw_div (hb_z e0_z b376_z.1 b378_z.1).1) (by rw [e433_z, rg_v_self])
              · exact absurd b427_z.1 e1_z
            · replace b430_z : (lg_cmp (rg_l g 187 B.toNatClampNeg) 0) = (0 : Int32) ∧ (lg_cmp (rg_l g 187 B.toNatClampNeg) 0).toInt = (0 : Int32).toInt := b430_z
              replace b430_z := lgc_eq b430_z
              replace hm_z := rn_iconst (w := 1) (am_cur_of (i := (235, 1, .iconst 1, (0, 0, 0), 0)) (by decide +kernel)) (by decide) hm_z
              replace hm_z := rn_goto (am_cur_of (i := (236, 3, .goto 4, (112, 0, 0), 0)) (by decide +kernel)) hm_z
              replace hm_z := rn_put (am_cur_of (i := (240, 3, .putfield 327, (12, 49, 1433), 0)) (by decide +kernel)) (by decide +kernel) hm_z
              replace hm_z := rn_aload_n (am_cur_of (i := (243, 1, .aload_n 0, (0, 0, 0), 0)) (by decide +kernel)) g0_z hm_z
              replace hm_z := rn_getI (v := 1) (am_cur_of (i := (244, 3, .getfield 327, (12, 49, 1433), 0)) (by decide +kernel)) (by decide +kernel) rg_v_self hm_z
              replace hm_z := rn_ifF (am_cur_of (i := (247, 3, .ifCond .eq 7, (118, 0, 0), 0)) (by decide +kernel)) (by decide) hm_z
              replace hm_z := rn_lconst (w := 0) (am_cur_of (i := (250, 1, .lconst 0, (0, 0, 0), 0)) (by decide +kernel)) rfl hm_z
              replace hm_z := rn_goto (am_cur_of (i := (251, 3, .goto 7, (121, 0, 0), 0)) (by decide +kernel)) hm_z
              replace hm_z := rn_lret (am_cur_of (i := (258, 1, .lreturn, (0, 0, 0), 0)) (by decide +kernel)) hm_z
              obtain ⟨e434_z, e435_z⟩ := hm_z
              refine ⟨_, e434_z, fun o q ho => ?_, fun e0_z => ?_, fun e1_z => ?_⟩
              · rw [e435_z]
                exact (up_ne (fun z => ho z)).trans (rfl)
              · rw [mvS_j b376_z.1 b378_z.1 b384_z.1, v426_z, mZ_14]
                rw [if_pos (by omega)]
                show ¬ _ = (0 : Int32)
                rw [e435_z, rg_v_self]
                decide
              · exact absurd b427_z.1 e1_z
        have hsw : ∀ m, m < 12 → (m = 0 ∨ m = 1 ∨ m = 8 ∨ m = 9 ∨ m = 10 ∨ m = 11 ∨ (#[64, 83, 167, 167, 167, 167, 167, 167, 102, 111, 120, 128] : Array Int)[m]? = some 167) := by decide
        have wv390_z : ¬ K.toInt = 3 := fun q => v390_z (Int32.toInt_inj.mp (q.trans (by decide)))
        have wv399_z : ¬ K.toInt = 4 := fun q => v399_z (Int32.toInt_inj.mp (q.trans (by decide)))
        have wv408_z : ¬ K.toInt = 11 := fun q => v408_z (Int32.toInt_inj.mp (q.trans (by decide)))
        have wv414_z : ¬ K.toInt = 12 := fun q => v414_z (Int32.toInt_inj.mp (q.trans (by decide)))
        have wv420_z : ¬ K.toInt = 13 := fun q => v420_z (Int32.toInt_inj.mp (q.trans (by decide)))
        have wv426_z : ¬ K.toInt = 14 := fun q => v426_z (Int32.toInt_inj.mp (q.trans (by decide)))
        have hx_z : K.toInt < 3 ∨ 14 < K.toInt ∨ (#[64, 83, 167, 167, 167, 167, 167, 167, 102, 111, 120, 128] : Array Int)[(K.toInt - 3).toNat]? = some 167 := by
          by_cases q1_z : K.toInt < 3
          · exact Or.inl q1_z
          · by_cases q2_z : 14 < K.toInt
            · exact Or.inr (Or.inl q2_z)
            · refine Or.inr (Or.inr ?_)
              rcases hsw (K.toInt - 3).toNat (by omega) with qq | qq | qq | qq | qq | qq | qq <;> first | exact qq | (exfalso; omega)
        replace hm_z := rn_swX (a := 122) (am_cur_of (i := (92, 64, .tableswitch 167 3 14 #[64, 83, 167, 167, 167, 167, 167, 167, 102, 111, 120, 128], (0, 0, 0), 0)) (by decide +kernel)) hx_z (by decide +kernel) hm_z
        replace hm_z := rn_aload_n (am_cur_of (i := (259, 1, .aload_n 0, (0, 0, 0), 0)) (by decide +kernel)) g0_z hm_z
        replace hm_z := rn_getR (x := 181) (am_cur_of (i := (260, 3, .getfield 63, (12, 36, 1420), 0)) (by decide +kernel)) (by decide +kernel) hm_z
        replace hm_z := rn_iload_n (am_cur_of (i := (263, 1, .iload_n 1, (0, 0, 0), 0)) (by decide +kernel)) g1_z hm_z
        replace hm_z := rn_iaload (N := 128) (q := i.toNatClampNeg) (v := K) (am_cur_of (i := (264, 1, .iaload, (0, 0, 0), 0)) (by decide +kernel)) (by decide +kernel) rfl eK hm_z
        obtain ⟨p436_z, hm_z⟩ := hm_z
        replace hm_z := rn_lload_n (am_cur_of (i := (265, 1, .lload_n 2, (0, 0, 0), 0)) (by decide +kernel)) g2_z hm_z
        replace hm_z := rn_lload (am_cur_of (i := (266, 2, .lload 4, (0, 0, 0), 0)) (by decide +kernel)) g4_z hm_z
        replace hm_z := rn_callS (M' := am_m195) (ar := [.long (rg_l g 187 B.toNatClampNeg), .long (rg_l g 187 A.toNatClampNeg), .int K]) (rest := []) (L := lv_args 0 [.int K, .long (rg_l g 187 A.toNatClampNeg), .long (rg_l g 187 B.toNatClampNeg)]) (am_cur_of (i := (268, 3, .invokestatic 342, (195, 1813, 3), 0)) (by decide +kernel)) rfl rfl rfl rfl hm_z
        obtain ⟨r437_z, h438_z, q439_z, hm_z⟩ := hm_z
        obtain ⟨wx, rr, hh, cx_z⟩ := co_195 q439_z
        replace hh := hh.symm
        subst rr
        subst hh
        replace hm_z : rn _ _ _ _ [.int wx] _ _ _ := hm_z
        replace hm_z := rn_if (am_cur_of (i := (271, 3, .ifCond .eq 7, (132, 0, 0), 0)) (by decide +kernel)) hm_z
        rcases hm_z with ⟨b440_z, hm_z⟩ | ⟨b440_z, hm_z⟩
        · replace b440_z : wx = (0 : Int32) ∧ wx.toInt = (0 : Int32).toInt := b440_z
          replace hm_z := rn_lconst (w := 0) (am_cur_of (i := (278, 1, .lconst 0, (0, 0, 0), 0)) (by decide +kernel)) rfl hm_z
          replace hm_z := rn_lret (am_cur_of (i := (279, 1, .lreturn, (0, 0, 0), 0)) (by decide +kernel)) hm_z
          obtain ⟨e441_z, e442_z⟩ := hm_z
          refine ⟨_, e441_z, fun o q _ => by rw [e442_z], fun e0_z => ?_, fun e1_z => by rw [e442_z]; exact e1_z⟩
          have ez : mvS K A B (fun j => rg_l g 186 j) (fun j => (rg_l g 187 j).toInt) = some wx.toInt := by
            rw [mvS_j b376_z.1 b378_z.1 b384_z.1, mZ_z v390_z v399_z v408_z v414_z v420_z v426_z]
            exact cx_z
          rw [ez]
          exact mO_s (by have := co_01 cx_z; have l1_z : (1 : Int64).toInt = 1 := (by decide); have l0_z : (0 : Int64).toInt = 0 := (by decide); omega) (by rw [e442_z]; exact e0_z)
        · replace b440_z : ¬ wx = (0 : Int32) ∧ ¬ wx.toInt = (0 : Int32).toInt := b440_z
          replace hm_z := rn_lconst (w := 1) (am_cur_of (i := (274, 1, .lconst 1, (0, 0, 0), 0)) (by decide +kernel)) rfl hm_z
          replace hm_z := rn_goto (am_cur_of (i := (275, 3, .goto 4, (133, 0, 0), 0)) (by decide +kernel)) hm_z
          replace hm_z := rn_lret (am_cur_of (i := (279, 1, .lreturn, (0, 0, 0), 0)) (by decide +kernel)) hm_z
          obtain ⟨e443_z, e444_z⟩ := hm_z
          refine ⟨_, e443_z, fun o q _ => by rw [e444_z], fun e0_z => ?_, fun e1_z => by rw [e444_z]; exact e1_z⟩
          have ez : mvS K A B (fun j => rg_l g 186 j) (fun j => (rg_l g 187 j).toInt) = some wx.toInt := by
            rw [mvS_j b376_z.1 b378_z.1 b384_z.1, mZ_z v390_z v399_z v408_z v414_z v420_z v426_z]
            exact cx_z
          rw [ez]
          exact mO_s (by have := co_01 cx_z; have l1_z : (1 : Int64).toInt = 1 := (by decide); have l0_z : (0 : Int64).toInt = 0 := (by decide); omega) (by rw [e444_z]; exact e0_z)
      · replace b384_z : K = (2 : Int32) ∧ K.toInt = (2 : Int32).toInt := b384_z
        replace hm_z := rn_lload_n (am_cur_of (i := (61, 1, .lload_n 2, (0, 0, 0), 0)) (by decide +kernel)) g2_z hm_z
        replace hm_z := rn_lconst (w := 0) (am_cur_of (i := (62, 1, .lconst 0, (0, 0, 0), 0)) (by decide +kernel)) rfl hm_z
        replace hm_z := rn_lcmp (w := lg_cmp (rg_l g 187 A.toNatClampNeg) 0) (am_cur_of (i := (63, 1, .lcmp, (0, 0, 0), 0)) (by decide +kernel)) rfl hm_z
        replace hm_z := rn_if (am_cur_of (i := (64, 3, .ifCond .ne 7, (45, 0, 0), 0)) (by decide +kernel)) hm_z
        rcases hm_z with ⟨b445_z, hm_z⟩ | ⟨b445_z, hm_z⟩
        · replace b445_z : ¬ (lg_cmp (rg_l g 187 A.toNatClampNeg) 0) = (0 : Int32) ∧ ¬ (lg_cmp (rg_l g 187 A.toNatClampNeg) 0).toInt = (0 : Int32).toInt := b445_z
          replace b445_z := lgc_ne b445_z
          replace hm_z := rn_lconst (w := 0) (am_cur_of (i := (71, 1, .lconst 0, (0, 0, 0), 0)) (by decide +kernel)) rfl hm_z
          replace hm_z := rn_lret (am_cur_of (i := (72, 1, .lreturn, (0, 0, 0), 0)) (by decide +kernel)) hm_z
          obtain ⟨e446_z, e447_z⟩ := hm_z
          refine ⟨_, e446_z, fun o q _ => by rw [e447_z], fun e0_z => ?_, fun e1_z => by rw [e447_z]; exact e1_z⟩
          rw [b384_z.1, mvS_2]
          exact mO_0 (by omega) (by decide) (by rw [e447_z]; exact e0_z)
        · replace b445_z : (lg_cmp (rg_l g 187 A.toNatClampNeg) 0) = (0 : Int32) ∧ (lg_cmp (rg_l g 187 A.toNatClampNeg) 0).toInt = (0 : Int32).toInt := b445_z
          replace b445_z := lgc_eq b445_z
          replace hm_z := rn_lconst (w := 1) (am_cur_of (i := (67, 1, .lconst 1, (0, 0, 0), 0)) (by decide +kernel)) rfl hm_z
          replace hm_z := rn_goto (am_cur_of (i := (68, 3, .goto 4, (46, 0, 0), 0)) (by decide +kernel)) hm_z
          replace hm_z := rn_lret (am_cur_of (i := (72, 1, .lreturn, (0, 0, 0), 0)) (by decide +kernel)) hm_z
          obtain ⟨e448_z, e449_z⟩ := hm_z
          refine ⟨_, e448_z, fun o q _ => by rw [e449_z], fun e0_z => ?_, fun e1_z => by rw [e449_z]; exact e1_z⟩
          rw [b384_z.1, mvS_2]
          exact mO_1 (by omega) (by decide) (by rw [e449_z]; exact e0_z)
    · replace b378_z : K = (1 : Int32) ∧ K.toInt = (1 : Int32).toInt := b378_z
      replace hm_z := rn_aload_n (am_cur_of (i := (27, 1, .aload_n 0, (0, 0, 0), 0)) (by decide +kernel)) g0_z hm_z
      replace hm_z := rn_getR (x := 186) (am_cur_of (i := (28, 3, .getfield 78, (12, 47, 1431), 0)) (by decide +kernel)) (by decide +kernel) hm_z
      replace hm_z := rn_aload_n (am_cur_of (i := (31, 1, .aload_n 0, (0, 0, 0), 0)) (by decide +kernel)) g0_z hm_z
      replace hm_z := rn_getR (x := 182) (am_cur_of (i := (32, 3, .getfield 66, (12, 37, 1421), 0)) (by decide +kernel)) (by decide +kernel) hm_z
      replace hm_z := rn_iload_n (am_cur_of (i := (35, 1, .iload_n 1, (0, 0, 0), 0)) (by decide +kernel)) g1_z hm_z
      replace hm_z := rn_iaload (N := 128) (q := i.toNatClampNeg) (v := A) (am_cur_of (i := (36, 1, .iaload, (0, 0, 0), 0)) (by decide +kernel)) (by decide +kernel) rfl eA hm_z
      obtain ⟨p450_z, hm_z⟩ := hm_z
      replace hm_z := rn_laload (N := 6) (q := A.toNatClampNeg) (v := rg_l g 186 A.toNatClampNeg) (am_cur_of (i := (37, 1, .laload, (0, 0, 0), 0)) (by decide +kernel)) (by decide +kernel) rfl rfl hm_z
      obtain ⟨p451_z, hm_z⟩ := hm_z
      replace hm_z := rn_lret (am_cur_of (i := (38, 1, .lreturn, (0, 0, 0), 0)) (by decide +kernel)) hm_z
      obtain ⟨e452_z, e453_z⟩ := hm_z
      refine ⟨_, e452_z, fun o q _ => by rw [e453_z], fun e0_z => ?_, fun e1_z => by rw [e453_z]; exact e1_z⟩
      rw [b378_z.1, mvS_1]
      exact mO_s rfl (by rw [e453_z]; exact e0_z)
  · replace b376_z : K = (0 : Int32) ∧ K.toInt = (0 : Int32).toInt := b376_z
    replace hm_z := rn_aload_n (am_cur_of (i := (9, 1, .aload_n 0, (0, 0, 0), 0)) (by decide +kernel)) g0_z hm_z
    replace hm_z := rn_getR (x := 182) (am_cur_of (i := (10, 3, .getfield 66, (12, 37, 1421), 0)) (by decide +kernel)) (by decide +kernel) hm_z
    replace hm_z := rn_iload_n (am_cur_of (i := (13, 1, .iload_n 1, (0, 0, 0), 0)) (by decide +kernel)) g1_z hm_z
    replace hm_z := rn_iaload (N := 128) (q := i.toNatClampNeg) (v := A) (am_cur_of (i := (14, 1, .iaload, (0, 0, 0), 0)) (by decide +kernel)) (by decide +kernel) rfl eA hm_z
    obtain ⟨p454_z, hm_z⟩ := hm_z
    replace hm_z := rn_i2l (w := A.toInt64) (am_cur_of (i := (15, 1, .i2l, (0, 0, 0), 0)) (by decide +kernel)) rfl hm_z
    replace hm_z := rn_lret (am_cur_of (i := (16, 1, .lreturn, (0, 0, 0), 0)) (by decide +kernel)) hm_z
    obtain ⟨e455_z, e456_z⟩ := hm_z
    refine ⟨_, e455_z, fun o q _ => by rw [e456_z], fun e0_z => ?_, fun e1_z => by rw [e456_z]; exact e1_z⟩
    rw [b376_z.1, mvS_0]
    exact mO_s (Int32.toInt_toInt64 A) (by rw [e456_z]; exact e0_z)
