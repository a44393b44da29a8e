/-! ===== WHAT IS TOLD ONCE, NAMES, THE PLAN OF BOTH (wip/r/gen99qk.py) ===== -/
/-- what the reader counts stays through a LINE -/
def rl_ok (a : Nat) : Bool := Nat.ble 19 a && Nat.ble a 52
def rl_w : rw_W := (fun ci_z f => !(Nat.beq (rg_cl ci_z f) 9) && !(Nat.beq ci_z 4 && Nat.beq f 0), true, rl_ok)
def rl_P (q : Int32) (h : am_H) : Prop := rg_Gd h ∧ rg_v h 44 0 = q
theorem rl_wP (q : Int32) : rw_P rl_w (rl_P q) := by
  refine ⟨fun h o ci_z f v hP hk_z hc_z hf_z => ?_, fun _ h o r n ty v hP hk_z ht hq_z hf_z => ?_⟩
  · have hc_z' : (!(Nat.beq (rg_cl ci_z f) 9) && !(Nat.beq ci_z 4 && Nat.beq f 0)) = true := hc_z
    rw [Bool.and_eq_true] at hc_z'
    refine ⟨rn_wP.1 h o ci_z f v hP.1 hk_z hc_z'.1 hf_z, ?_⟩
    rw [rg_v_other]
    · exact hP.2
    · rintro ⟨e1_z, e2_z⟩
      subst e1_z; subst e2_z
      rw [rs_k44] at hk_z
      cases hk_z
      exact absurd hc_z'.2 (by decide)
  · have hne : ¬ ((44 : Nat) = o ∧ 0 = r) := by
      rintro ⟨e1_z, -⟩
      subst e1_z
      rw [rs_k44] at hk_z
      cases hk_z
    exact ⟨rn_wP.2 rfl h o r n ty v hP.1 hk_z ht hq_z hf_z, (rg_v_other hne).trans hP.2⟩
def rl_M (a : Nat) : Bool := !(rl_ok a) || (match am_prog[a]? with
  | some M => M.2.2.2.all (rw_I rl_w)
  | none => true)
set_option maxRecDepth 1000000 in
theorem rl_M_all : (List.range 256).all rl_M = true := by decide +kernel
theorem rl_K {a : Nat} {M : am_M} (ha_z : rl_ok a = true) (hM : am_prog[a]? = some M) : rw_K rl_w M.2.2.2 := by
  have hl_z : a < am_prog.length := (List.getElem?_eq_some_iff.mp hM).1
  rw [am_prog_len] at hl_z
  have hb_z := List.all_eq_true.mp rl_M_all a (List.mem_range.mpr (by omega))
  unfold rl_M at hb_z
  rw [ha_z, hM] at hb_z
  exact List.all_eq_true.mp hb_z
theorem rl_keep {a n : Nat} {M : am_M} {k : Nat} {ls : am_L} {st : List Value} {h h' : am_H} {r : Option Value} (ha_z : rl_ok a = true) (hM : am_prog[a]? = some M) (hr : rn n M k ls st h r h') : rg_v h' 44 0 = rg_v h 44 0 := by
  obtain ⟨-, hG, nc, ns, m, -, hrun⟩ := hr
  exact (rw_run (rl_wP (rg_v h 44 0)) (fun a M ha_z hM => Or.inl (rl_K ha_z hM)) m M _ ls st h nc ns _ (rl_K ha_z hM) (fun j hj_z => rl_K ha_z hM j (List.mem_of_mem_drop hj_z)) ⟨hG, rfl⟩ hrun).2.2
def rp_bi (b : Bool) : Int32 := if b then 1 else 0
/-- the class's bits of what is told: bed, pump, slip, seed, three laws -/
def rp_tb (b0_z b1_z b2_z b3_z b4_z b5_z b6_z : Bool) : Int32 := (if b0_z then 1 else 0) ||| (if b1_z then 8 else 0) ||| (if b2_z then 64 else 0) ||| (if b3_z then 128 else 0) ||| (if b4_z then 512 else 0) ||| (if b5_z then 1024 else 0) ||| (if b6_z then 2048 else 0)
def rp_t (h g : am_H) : Prop := ∃ b0_z b1_z b2_z b3_z b4_z b5_z b6_z : Bool, rg_v h 44 7 = rp_tb b0_z b1_z b2_z b3_z b4_z b5_z b6_z ∧ rg_v g 167 0 = rp_bi b0_z ∧ rg_v g 167 1 = rp_bi b1_z ∧ rg_v g 167 2 = rp_bi b2_z ∧ rg_v g 167 3 = rp_bi b3_z ∧ rg_v g 178 3 = rp_bi b4_z ∧ rg_v g 178 4 = rp_bi b5_z ∧ rg_v g 178 5 = rp_bi b6_z
theorem rp_tb0 : ∀ b0_z b1_z b2_z b3_z b4_z b5_z b6_z : Bool, ((rp_tb b0_z b1_z b2_z b3_z b4_z b5_z b6_z) >>> (0 &&& 31)) &&& 1 = rp_bi b0_z ∧ rp_tb b0_z b1_z b2_z b3_z b4_z b5_z b6_z ||| ((1 : Int32) <<< (0 &&& 31)) = rp_tb true b1_z b2_z b3_z b4_z b5_z b6_z := by decide +kernel
theorem rp_tb1 : ∀ b0_z b1_z b2_z b3_z b4_z b5_z b6_z : Bool, ((rp_tb b0_z b1_z b2_z b3_z b4_z b5_z b6_z) >>> (3 &&& 31)) &&& 1 = rp_bi b1_z ∧ rp_tb b0_z b1_z b2_z b3_z b4_z b5_z b6_z ||| ((1 : Int32) <<< (3 &&& 31)) = rp_tb b0_z true b2_z b3_z b4_z b5_z b6_z := by decide +kernel
theorem rp_tb2 : ∀ b0_z b1_z b2_z b3_z b4_z b5_z b6_z : Bool, ((rp_tb b0_z b1_z b2_z b3_z b4_z b5_z b6_z) >>> (6 &&& 31)) &&& 1 = rp_bi b2_z ∧ rp_tb b0_z b1_z b2_z b3_z b4_z b5_z b6_z ||| ((1 : Int32) <<< (6 &&& 31)) = rp_tb b0_z b1_z true b3_z b4_z b5_z b6_z := by decide +kernel
theorem rp_tb3 : ∀ b0_z b1_z b2_z b3_z b4_z b5_z b6_z : Bool, ((rp_tb b0_z b1_z b2_z b3_z b4_z b5_z b6_z) >>> (7 &&& 31)) &&& 1 = rp_bi b3_z ∧ rp_tb b0_z b1_z b2_z b3_z b4_z b5_z b6_z ||| ((1 : Int32) <<< (7 &&& 31)) = rp_tb b0_z b1_z b2_z true b4_z b5_z b6_z := by decide +kernel
theorem rp_tb4 : ∀ b0_z b1_z b2_z b3_z b4_z b5_z b6_z : Bool, ((rp_tb b0_z b1_z b2_z b3_z b4_z b5_z b6_z) >>> (9 &&& 31)) &&& 1 = rp_bi b4_z ∧ rp_tb b0_z b1_z b2_z b3_z b4_z b5_z b6_z ||| ((1 : Int32) <<< (9 &&& 31)) = rp_tb b0_z b1_z b2_z b3_z true b5_z b6_z := by decide +kernel
theorem rp_tb5 : ∀ b0_z b1_z b2_z b3_z b4_z b5_z b6_z : Bool, ((rp_tb b0_z b1_z b2_z b3_z b4_z b5_z b6_z) >>> (10 &&& 31)) &&& 1 = rp_bi b5_z ∧ rp_tb b0_z b1_z b2_z b3_z b4_z b5_z b6_z ||| ((1 : Int32) <<< (10 &&& 31)) = rp_tb b0_z b1_z b2_z b3_z b4_z true b6_z := by decide +kernel
theorem rp_tb6 : ∀ b0_z b1_z b2_z b3_z b4_z b5_z b6_z : Bool, ((rp_tb b0_z b1_z b2_z b3_z b4_z b5_z b6_z) >>> (11 &&& 31)) &&& 1 = rp_bi b6_z ∧ rp_tb b0_z b1_z b2_z b3_z b4_z b5_z b6_z ||| ((1 : Int32) <<< (11 &&& 31)) = rp_tb b0_z b1_z b2_z b3_z b4_z b5_z true := by decide +kernel
theorem rp_onceC {n : Nat} {h h' : am_H} {r : Option Value} {wd : Int32} (hf_z : rg_v h 44 1 = 0) (hc_z : rn n am_m28 0 (lv_args 0 [.ref 44, .int wd]) [] h r h') : (¬ ((rg_v h 44 7) >>> (wd &&& 31)) &&& 1 = 0 ∧ rg_v h' 44 1 = 3 ∧ rg_v h' 44 2 = rg_v h 44 9) ∨ (((rg_v h 44 7) >>> (wd &&& 31)) &&& 1 = 0 ∧ ∃ n2_z r2_z, rn n2_z am_m19 0 (lv_args 0 [.ref 44]) [] (am_up h 44 7 (.int ((rg_v h 44 7) ||| ((1 : Int32) <<< (wd &&& 31))))) r2_z h') := by
  have z0_z : (0 : Int32).toInt = 0 := by decide
  have g0_z : am_get (lv_args 0 [.ref 44, .int wd]) 0 = some (.ref 44) := rfl
  have g1_z : am_get (lv_args 0 [.ref 44, .int wd]) 1 = some (.int wd) := rfl
  replace hc_z := rn_aload_n (am_cur_of (i := (0, 1, .aload_n 0, (0, 0, 0), 0)) (by decide +kernel)) g0_z hc_z
  replace hc_z := rn_getI (v := rg_v h 44 7) (am_cur_of (i := (1, 3, .getfield 45, (4, 7, 416), 0)) (by decide +kernel)) (by decide +kernel) rfl hc_z
  replace hc_z := rn_iload_n (am_cur_of (i := (4, 1, .iload_n 1, (0, 0, 0), 0)) (by decide +kernel)) g1_z hc_z
  replace hc_z := rn_ishr (w := (rg_v h 44 7) >>> (wd &&& 31)) (am_cur_of (i := (5, 1, .ishr, (0, 0, 0), 0)) (by decide +kernel)) rfl hc_z
  replace hc_z := rn_iconst (w := 1) (am_cur_of (i := (6, 1, .iconst 1, (0, 0, 0), 0)) (by decide +kernel)) (by decide) hc_z
  replace hc_z := rn_iand (w := ((rg_v h 44 7) >>> (wd &&& 31)) &&& 1) (am_cur_of (i := (7, 1, .iand, (0, 0, 0), 0)) (by decide +kernel)) rfl hc_z
  replace hc_z := rn_if (am_cur_of (i := (8, 3, .ifCond .eq 8, (10, 0, 0), 0)) (by decide +kernel)) hc_z
  rcases hc_z with ⟨b94_z, hc_z⟩ | ⟨b94_z, hc_z⟩
  · replace b94_z : (((rg_v h 44 7) >>> (wd &&& 31)) &&& 1) = (0 : Int32) ∧ (((rg_v h 44 7) >>> (wd &&& 31)) &&& 1).toInt = (0 : Int32).toInt := b94_z
    replace hc_z := rn_aload_n (am_cur_of (i := (16, 1, .aload_n 0, (0, 0, 0), 0)) (by decide +kernel)) g0_z hc_z
    replace hc_z := rn_dup (am_cur_of (i := (17, 1, .dup, (0, 0, 0), 0)) (by decide +kernel)) hc_z
    replace hc_z := rn_getI (v := rg_v h 44 7) (am_cur_of (i := (18, 3, .getfield 45, (4, 7, 416), 0)) (by decide +kernel)) (by decide +kernel) rfl hc_z
    replace hc_z := rn_iconst (w := 1) (am_cur_of (i := (21, 1, .iconst 1, (0, 0, 0), 0)) (by decide +kernel)) (by decide) hc_z
    replace hc_z := rn_iload_n (am_cur_of (i := (22, 1, .iload_n 1, (0, 0, 0), 0)) (by decide +kernel)) g1_z hc_z
    replace hc_z := rn_ishl (w := (1 : Int32) <<< (wd &&& 31)) (am_cur_of (i := (23, 1, .ishl, (0, 0, 0), 0)) (by decide +kernel)) rfl hc_z
    replace hc_z := rn_ior (w := (rg_v h 44 7) ||| ((1 : Int32) <<< (wd &&& 31))) (am_cur_of (i := (24, 1, .ior, (0, 0, 0), 0)) (by decide +kernel)) rfl hc_z
    replace hc_z := rn_put (am_cur_of (i := (25, 3, .putfield 45, (4, 7, 416), 0)) (by decide +kernel)) (by decide +kernel) hc_z
    replace hc_z := rn_aload_n (am_cur_of (i := (28, 1, .aload_n 0, (0, 0, 0), 0)) (by decide +kernel)) g0_z hc_z
    replace hc_z := rn_callV (M' := am_m19) (o := 44) (ar := []) (rest := []) (L := lv_args 0 [.ref 44]) (am_cur_of (i := (29, 3, .invokevirtual 57, (19, 727, 3), 0)) (by decide +kernel)) rfl rfl rfl rfl hc_z
    obtain ⟨r95_z, h96_z, q97_z, hc_z⟩ := hc_z
    have vq97_z := rn_void rfl q97_z
    subst vq97_z
    replace hc_z : rn _ _ _ _ [] _ _ _ := hc_z
    replace hc_z := rn_vret (am_cur_of (i := (32, 1, .return_, (0, 0, 0), 0)) (by decide +kernel)) hc_z
    obtain ⟨e98_z, e99_z⟩ := hc_z
    subst e98_z e99_z
    exact Or.inr ⟨b94_z.1, _, none, q97_z⟩
  · replace b94_z : ¬ (((rg_v h 44 7) >>> (wd &&& 31)) &&& 1) = (0 : Int32) ∧ ¬ (((rg_v h 44 7) >>> (wd &&& 31)) &&& 1).toInt = (0 : Int32).toInt := b94_z
    replace hc_z := rn_aload_n (am_cur_of (i := (11, 1, .aload_n 0, (0, 0, 0), 0)) (by decide +kernel)) g0_z hc_z
    replace hc_z := rn_iconst (w := 3) (am_cur_of (i := (12, 1, .iconst 3, (0, 0, 0), 0)) (by decide +kernel)) (by decide) hc_z
    replace hc_z := rn_callV (M' := am_m29) (o := 44) (ar := [.int 3]) (rest := []) (L := lv_args 0 [.ref 44, .int 3]) (am_cur_of (i := (13, 3, .invokevirtual 108, (29, 769, 3), 0)) (by decide +kernel)) rfl rfl rfl rfl hc_z
    obtain ⟨r100_z, h101_z, q102_z, hc_z⟩ := hc_z
    obtain ⟨rfl, yq102_z⟩ := rp_fail hf_z q102_z
    subst yq102_z
    replace hc_z : rn _ _ _ _ [] _ _ _ := hc_z
    exact Or.inl ⟨b94_z.1, rs_stick (w := 3) (a := 28) (by decide) (by decide) rfl (by decide) rfl rfl hc_z⟩
theorem rp_onceM {n : Nat} {h h' : am_H} {r : Option Value} {j : Int32} (hc_z : rn n am_m160 0 (lv_args 0 [.ref 164, .int j]) [] h r h') : (¬ rg_v h 167 j.toNatClampNeg = 0 ∧ r = some (.int 0) ∧ h' = rp_W 3 h) ∨ (rg_v h 167 j.toNatClampNeg = 0 ∧ r = some (.int 1) ∧ ∃ n2_z r2_z, rn n2_z am_m151 0 (lv_args 0 [.ref 164]) [] (am_up h 167 j.toNatClampNeg (.int 1)) r2_z h') := by
  have z0_z : (0 : Int32).toInt = 0 := by decide
  have g0_z : am_get (lv_args 0 [.ref 164, .int j]) 0 = some (.ref 164) := rfl
  have g1_z : am_get (lv_args 0 [.ref 164, .int j]) 1 = some (.int j) := rfl
  replace hc_z := rn_aload_n (am_cur_of (i := (0, 1, .aload_n 0, (0, 0, 0), 0)) (by decide +kernel)) g0_z hc_z
  replace hc_z := rn_getR (x := 167) (am_cur_of (i := (1, 3, .getfield 20, (12, 22, 1406), 0)) (by decide +kernel)) (by decide +kernel) hc_z
  replace hc_z := rn_iload_n (am_cur_of (i := (4, 1, .iload_n 1, (0, 0, 0), 0)) (by decide +kernel)) g1_z hc_z
  replace hc_z := rn_baload (N := 4) (q := j.toNatClampNeg) (v := rg_v h 167 j.toNatClampNeg) (am_cur_of (i := (5, 1, .baload, (0, 0, 0), 0)) (by decide +kernel)) (by decide +kernel) rfl rfl hc_z
  obtain ⟨p103_z, hc_z⟩ := hc_z
  replace hc_z := rn_if (am_cur_of (i := (6, 3, .ifCond .eq 9, (9, 0, 0), 0)) (by decide +kernel)) hc_z
  rcases hc_z with ⟨b104_z, hc_z⟩ | ⟨b104_z, hc_z⟩
  · replace b104_z : (rg_v h 167 j.toNatClampNeg) = (0 : Int32) ∧ (rg_v h 167 j.toNatClampNeg).toInt = (0 : Int32).toInt := b104_z
    replace hc_z := rn_aload_n (am_cur_of (i := (15, 1, .aload_n 0, (0, 0, 0), 0)) (by decide +kernel)) g0_z hc_z
    replace hc_z := rn_getR (x := 167) (am_cur_of (i := (16, 3, .getfield 20, (12, 22, 1406), 0)) (by decide +kernel)) (by decide +kernel) hc_z
    replace hc_z := rn_iload_n (am_cur_of (i := (19, 1, .iload_n 1, (0, 0, 0), 0)) (by decide +kernel)) g1_z hc_z
    replace hc_z := rn_iconst (w := 1) (am_cur_of (i := (20, 1, .iconst 1, (0, 0, 0), 0)) (by decide +kernel)) (by decide) hc_z
    replace hc_z := rn_bastore (N := 4) (q := j.toNatClampNeg) (am_cur_of (i := (21, 1, .bastore, (0, 0, 0), 0)) (by decide +kernel)) (by decide +kernel) rfl hc_z
    obtain ⟨p105_z, hc_z⟩ := hc_z
    replace hc_z := rn_aload_n (am_cur_of (i := (22, 1, .aload_n 0, (0, 0, 0), 0)) (by decide +kernel)) g0_z hc_z
    replace hc_z := rn_callV (M' := am_m151) (o := 164) (ar := []) (rest := []) (L := lv_args 0 [.ref 164]) (am_cur_of (i := (23, 3, .invokevirtual 191, (151, 1636, 3), 0)) (by decide +kernel)) rfl rfl rfl rfl hc_z
    obtain ⟨r106_z, h107_z, q108_z, hc_z⟩ := hc_z
    have vq108_z := rn_void rfl q108_z
    subst vq108_z
    replace hc_z : rn _ _ _ _ [] _ _ _ := hc_z
    replace hc_z := rn_iconst (w := 1) (am_cur_of (i := (26, 1, .iconst 1, (0, 0, 0), 0)) (by decide +kernel)) (by decide) hc_z
    replace hc_z := rn_iret (am_cur_of (i := (27, 1, .ireturn, (0, 0, 0), 0)) (by decide +kernel)) hc_z
    obtain ⟨e109_z, e110_z⟩ := hc_z
    exact Or.inr ⟨b104_z.1, e109_z, _, none, by subst e110_z; exact q108_z⟩
  · replace b104_z : ¬ (rg_v h 167 j.toNatClampNeg) = (0 : Int32) ∧ ¬ (rg_v h 167 j.toNatClampNeg).toInt = (0 : Int32).toInt := b104_z
    replace hc_z := rn_aload_n (am_cur_of (i := (9, 1, .aload_n 0, (0, 0, 0), 0)) (by decide +kernel)) g0_z hc_z
    replace hc_z := rn_iconst (w := 3) (am_cur_of (i := (10, 1, .iconst 3, (0, 0, 0), 0)) (by decide +kernel)) (by decide) hc_z
    replace hc_z := rn_callV (M' := am_m158) (o := 164) (ar := [.int 3]) (rest := []) (L := lv_args 0 [.ref 164, .int 3]) (am_cur_of (i := (11, 3, .invokevirtual 181, (158, 1665, 3), 0)) (by decide +kernel)) rfl rfl rfl rfl hc_z
    obtain ⟨r111_z, h112_z, q113_z, hc_z⟩ := hc_z
    obtain ⟨rfl, yq113_z⟩ := rp_wrong q113_z
    subst yq113_z
    replace hc_z : rn _ _ _ _ [.int 0] _ _ _ := hc_z
    replace hc_z := rn_iret (am_cur_of (i := (14, 1, .ireturn, (0, 0, 0), 0)) (by decide +kernel)) hc_z
    obtain ⟨e114_z, e115_z⟩ := hc_z
    exact Or.inl ⟨b104_z.1, e114_z, e115_z⟩
theorem rq0_told {T : Nat → Int32} {S x : Int32} {d : Nat} {h g : am_H} {v w : Value} {j : Nat} (R : rq0_z T S x d h g) : rq0_z T S x d (am_up h 44 7 v) (am_up g 167 j w) := by
  obtain ⟨⟨c1_z, c2_z, c3_z, c4_z, c5_z, c6_z, c7_z, c8_z⟩, ⟨m2_z, m3_z, m4_z, m5_z, m6_z, m7_z, m8_z⟩, R3, R4⟩ := R
  exact ⟨⟨c1_z, c2_z, c3_z, c4_z, c5_z, c6_z, c7_z, c8_z⟩, ⟨m2_z, m3_z, m4_z, m5_z, m6_z, m7_z, m8_z⟩, R3, R4⟩
theorem pr_once0 {T : Nat → Int32} {S x p : Int32} {d n n' : Nat} {h h' g g' : am_H} {r r' : Option Value} (R : rq T S x p d h g) (B : rp_t h g) (hc_z : rn n am_m28 0 (lv_args 0 [.ref 44, .int 0]) [] h r h') (hm_z : rn n' am_m160 0 (lv_args 0 [.ref 164, .int 0]) [] g r' g') :
    (∃ x2_z p2_z, r' = some (.int 1) ∧ rq T S x2_z p2_z d h' g' ∧ x.toInt ≤ p2_z.toInt ∧ rp_t h' g' ∧ rx_C h h' ∧ rx_M g g') ∨ (r' = some (.int 0) ∧ rq_F p h' g') := by
  obtain ⟨b0_z, b1_z, b2_z, b3_z, b4_z, b5_z, b6_z, t, o0_z, o1_z, o2_z, o3_z, o4_z, o5_z, o6_z⟩ := B
  obtain ⟨e1_z, e2_z⟩ := rp_tb0 b0_z b1_z b2_z b3_z b4_z b5_z b6_z
  have hj_z : (0 : Int32).toNatClampNeg = 0 := by decide
  rcases rp_onceC R.2.2.2.1 hc_z with ⟨c1_z, c2_z, c3_z⟩ | ⟨c1_z, n2_z, r2_z, c2_z⟩
  · rw [t, e1_z] at c1_z
    rcases rp_onceM hm_z with ⟨m1_z, m2_z, m3_z⟩ | ⟨m1_z, -⟩
    · subst m3_z
      exact Or.inr ⟨m2_z, 3, by decide, c2_z, c3_z.trans R.2.2.2.2.1, rfl, R.2.2.2.2.2.1⟩
    · rw [hj_z, o0_z] at m1_z
      exact absurd m1_z c1_z
  · rw [t, e1_z] at c1_z
    rcases rp_onceM hm_z with ⟨m1_z, -⟩ | ⟨m1_z, m2_z, n3_z, r3_z, m3_z⟩
    · rw [hj_z, o0_z] at m1_z
      exact absurd c1_z m1_z
    · rw [hj_z] at m3_z
      rw [t, e2_z] at c2_z
      obtain ⟨t1_z, t2_z, x2_z, p2_z, t3_z, t4_z, t5_z, t6_z⟩ := pr_tok (rq0_told (rq_0 R)) c2_z m3_z
      refine Or.inl ⟨x2_z, p2_z, m2_z, t3_z, t4_z, ⟨true, b1_z, b2_z, b3_z, b4_z, b5_z, b6_z, ?_, ?_, ?_, ?_, ?_, ?_, ?_, ?_⟩, rx_C_t (rx_C_u (by decide) rx_C_r) (rx_C_f t5_z), rx_M_t (rx_M_o rx_M_r) (rx_M_f t6_z)⟩
      · exact rg_v_fr t5_z (by decide)
      · exact (rg_v_fr t6_z (rg_v_in (by decide) _)).trans rfl
      · exact (rg_v_fr t6_z (rg_v_in (by decide) _)).trans o1_z
      · exact (rg_v_fr t6_z (rg_v_in (by decide) _)).trans o2_z
      · exact (rg_v_fr t6_z (rg_v_in (by decide) _)).trans o3_z
      · exact (rg_v_fr t6_z (rg_v_in (by decide) _)).trans o4_z
      · exact (rg_v_fr t6_z (rg_v_in (by decide) _)).trans o5_z
      · exact (rg_v_fr t6_z (rg_v_in (by decide) _)).trans o6_z
theorem pr_once1 {T : Nat → Int32} {S x p : Int32} {d n n' : Nat} {h h' g g' : am_H} {r r' : Option Value} (R : rq T S x p d h g) (B : rp_t h g) (hc_z : rn n am_m28 0 (lv_args 0 [.ref 44, .int 3]) [] h r h') (hm_z : rn n' am_m160 0 (lv_args 0 [.ref 164, .int 1]) [] g r' g') :
    (∃ x2_z p2_z, r' = some (.int 1) ∧ rq T S x2_z p2_z d h' g' ∧ x.toInt ≤ p2_z.toInt ∧ rp_t h' g' ∧ rx_C h h' ∧ rx_M g g') ∨ (r' = some (.int 0) ∧ rq_F p h' g') := by
  obtain ⟨b0_z, b1_z, b2_z, b3_z, b4_z, b5_z, b6_z, t, o0_z, o1_z, o2_z, o3_z, o4_z, o5_z, o6_z⟩ := B
  obtain ⟨e1_z, e2_z⟩ := rp_tb1 b0_z b1_z b2_z b3_z b4_z b5_z b6_z
  have hj_z : (1 : Int32).toNatClampNeg = 1 := by decide
  rcases rp_onceC R.2.2.2.1 hc_z with ⟨c1_z, c2_z, c3_z⟩ | ⟨c1_z, n2_z, r2_z, c2_z⟩
  · rw [t, e1_z] at c1_z
    rcases rp_onceM hm_z with ⟨m1_z, m2_z, m3_z⟩ | ⟨m1_z, -⟩
    · subst m3_z
      exact Or.inr ⟨m2_z, 3, by decide, c2_z, c3_z.trans R.2.2.2.2.1, rfl, R.2.2.2.2.2.1⟩
    · rw [hj_z, o1_z] at m1_z
      exact absurd m1_z c1_z
  · rw [t, e1_z] at c1_z
    rcases rp_onceM hm_z with ⟨m1_z, -⟩ | ⟨m1_z, m2_z, n3_z, r3_z, m3_z⟩
    · rw [hj_z, o1_z] at m1_z
      exact absurd c1_z m1_z
    · rw [hj_z] at m3_z
      rw [t, e2_z] at c2_z
      obtain ⟨t1_z, t2_z, x2_z, p2_z, t3_z, t4_z, t5_z, t6_z⟩ := pr_tok (rq0_told (rq_0 R)) c2_z m3_z
      refine Or.inl ⟨x2_z, p2_z, m2_z, t3_z, t4_z, ⟨b0_z, true, b2_z, b3_z, b4_z, b5_z, b6_z, ?_, ?_, ?_, ?_, ?_, ?_, ?_, ?_⟩, rx_C_t (rx_C_u (by decide) rx_C_r) (rx_C_f t5_z), rx_M_t (rx_M_o rx_M_r) (rx_M_f t6_z)⟩
      · exact rg_v_fr t5_z (by decide)
      · exact (rg_v_fr t6_z (rg_v_in (by decide) _)).trans o0_z
      · exact (rg_v_fr t6_z (rg_v_in (by decide) _)).trans rfl
      · exact (rg_v_fr t6_z (rg_v_in (by decide) _)).trans o2_z
      · exact (rg_v_fr t6_z (rg_v_in (by decide) _)).trans o3_z
      · exact (rg_v_fr t6_z (rg_v_in (by decide) _)).trans o4_z
      · exact (rg_v_fr t6_z (rg_v_in (by decide) _)).trans o5_z
      · exact (rg_v_fr t6_z (rg_v_in (by decide) _)).trans o6_z
theorem pr_once2 {T : Nat → Int32} {S x p : Int32} {d n n' : Nat} {h h' g g' : am_H} {r r' : Option Value} (R : rq T S x p d h g) (B : rp_t h g) (hc_z : rn n am_m28 0 (lv_args 0 [.ref 44, .int 6]) [] h r h') (hm_z : rn n' am_m160 0 (lv_args 0 [.ref 164, .int 2]) [] g r' g') :
    (∃ x2_z p2_z, r' = some (.int 1) ∧ rq T S x2_z p2_z d h' g' ∧ x.toInt ≤ p2_z.toInt ∧ rp_t h' g' ∧ rx_C h h' ∧ rx_M g g') ∨ (r' = some (.int 0) ∧ rq_F p h' g') := by
  obtain ⟨b0_z, b1_z, b2_z, b3_z, b4_z, b5_z, b6_z, t, o0_z, o1_z, o2_z, o3_z, o4_z, o5_z, o6_z⟩ := B
  obtain ⟨e1_z, e2_z⟩ := rp_tb2 b0_z b1_z b2_z b3_z b4_z b5_z b6_z
  have hj_z : (2 : Int32).toNatClampNeg = 2 := by decide
  rcases rp_onceC R.2.2.2.1 hc_z with ⟨c1_z, c2_z, c3_z⟩ | ⟨c1_z, n2_z, r2_z, c2_z⟩
  · rw [t, e1_z] at c1_z
    rcases rp_onceM hm_z with ⟨m1_z, m2_z, m3_z⟩ | ⟨m1_z, -⟩
    · subst m3_z
      exact Or.inr ⟨m2_z, 3, by decide, c2_z, c3_z.trans R.2.2.2.2.1, rfl, R.2.2.2.2.2.1⟩
    · rw [hj_z, o2_z] at m1_z
      exact absurd m1_z c1_z
  · rw [t, e1_z] at c1_z
    rcases rp_onceM hm_z with ⟨m1_z, -⟩ | ⟨m1_z, m2_z, n3_z, r3_z, m3_z⟩
    · rw [hj_z, o2_z] at m1_z
      exact absurd c1_z m1_z
    · rw [hj_z] at m3_z
      rw [t, e2_z] at c2_z
      obtain ⟨t1_z, t2_z, x2_z, p2_z, t3_z, t4_z, t5_z, t6_z⟩ := pr_tok (rq0_told (rq_0 R)) c2_z m3_z
      refine Or.inl ⟨x2_z, p2_z, m2_z, t3_z, t4_z, ⟨b0_z, b1_z, true, b3_z, b4_z, b5_z, b6_z, ?_, ?_, ?_, ?_, ?_, ?_, ?_, ?_⟩, rx_C_t (rx_C_u (by decide) rx_C_r) (rx_C_f t5_z), rx_M_t (rx_M_o rx_M_r) (rx_M_f t6_z)⟩
      · exact rg_v_fr t5_z (by decide)
      · exact (rg_v_fr t6_z (rg_v_in (by decide) _)).trans o0_z
      · exact (rg_v_fr t6_z (rg_v_in (by decide) _)).trans o1_z
      · exact (rg_v_fr t6_z (rg_v_in (by decide) _)).trans rfl
      · exact (rg_v_fr t6_z (rg_v_in (by decide) _)).trans o3_z
      · exact (rg_v_fr t6_z (rg_v_in (by decide) _)).trans o4_z
      · exact (rg_v_fr t6_z (rg_v_in (by decide) _)).trans o5_z
      · exact (rg_v_fr t6_z (rg_v_in (by decide) _)).trans o6_z
theorem pr_once3 {T : Nat → Int32} {S x p : Int32} {d n n' : Nat} {h h' g g' : am_H} {r r' : Option Value} (R : rq T S x p d h g) (B : rp_t h g) (hc_z : rn n am_m28 0 (lv_args 0 [.ref 44, .int 7]) [] h r h') (hm_z : rn n' am_m160 0 (lv_args 0 [.ref 164, .int 3]) [] g r' g') :
    (∃ x2_z p2_z, r' = some (.int 1) ∧ rq T S x2_z p2_z d h' g' ∧ x.toInt ≤ p2_z.toInt ∧ rp_t h' g' ∧ rx_C h h' ∧ rx_M g g') ∨ (r' = some (.int 0) ∧ rq_F p h' g') := by
  obtain ⟨b0_z, b1_z, b2_z, b3_z, b4_z, b5_z, b6_z, t, o0_z, o1_z, o2_z, o3_z, o4_z, o5_z, o6_z⟩ := B
  obtain ⟨e1_z, e2_z⟩ := rp_tb3 b0_z b1_z b2_z b3_z b4_z b5_z b6_z
  have hj_z : (3 : Int32).toNatClampNeg = 3 := by decide
  rcases rp_onceC R.2.2.2.1 hc_z with ⟨c1_z, c2_z, c3_z⟩ | ⟨c1_z, n2_z, r2_z, c2_z⟩
  · rw [t, e1_z] at c1_z
    rcases rp_onceM hm_z with ⟨m1_z, m2_z, m3_z⟩ | ⟨m1_z, -⟩
    · subst m3_z
      exact Or.inr ⟨m2_z, 3, by decide, c2_z, c3_z.trans R.2.2.2.2.1, rfl, R.2.2.2.2.2.1⟩
    · rw [hj_z, o3_z] at m1_z
      exact absurd m1_z c1_z
  · rw [t, e1_z] at c1_z
    rcases rp_onceM hm_z with ⟨m1_z, -⟩ | ⟨m1_z, m2_z, n3_z, r3_z, m3_z⟩
    · rw [hj_z, o3_z] at m1_z
      exact absurd c1_z m1_z
    · rw [hj_z] at m3_z
      rw [t, e2_z] at c2_z
      obtain ⟨t1_z, t2_z, x2_z, p2_z, t3_z, t4_z, t5_z, t6_z⟩ := pr_tok (rq0_told (rq_0 R)) c2_z m3_z
      refine Or.inl ⟨x2_z, p2_z, m2_z, t3_z, t4_z, ⟨b0_z, b1_z, b2_z, true, b4_z, b5_z, b6_z, ?_, ?_, ?_, ?_, ?_, ?_, ?_, ?_⟩, rx_C_t (rx_C_u (by decide) rx_C_r) (rx_C_f t5_z), rx_M_t (rx_M_o rx_M_r) (rx_M_f t6_z)⟩
      · exact rg_v_fr t5_z (by decide)
      · exact (rg_v_fr t6_z (rg_v_in (by decide) _)).trans o0_z
      · exact (rg_v_fr t6_z (rg_v_in (by decide) _)).trans o1_z
      · exact (rg_v_fr t6_z (rg_v_in (by decide) _)).trans o2_z
      · exact (rg_v_fr t6_z (rg_v_in (by decide) _)).trans rfl
      · exact (rg_v_fr t6_z (rg_v_in (by decide) _)).trans o4_z
      · exact (rg_v_fr t6_z (rg_v_in (by decide) _)).trans o5_z
      · exact (rg_v_fr t6_z (rg_v_in (by decide) _)).trans o6_z
/-- the first of n names that is v, -1: none -/
def rp_fm (L : Nat → Int32) (n : Int) (v i : Int32) : Prop := (i = -1 ∧ ∀ b : Nat, (b : Int) < n → ¬ L b = v) ∨ (0 ≤ i.toInt ∧ i.toInt < n ∧ L i.toNatClampNeg = v ∧ ∀ b : Nat, (b : Int) < i.toInt → ¬ L b = v)
theorem rp_fm_u {L L' : Nat → Int32} {n : Int} {v i i' : Int32} (a : rp_fm L n v i) (b : rp_fm L' n v i') (e : ∀ b : Nat, (b : Int) < n → L b = L' b) : i = i' := by
  rcases a with ⟨a1_z, a2_z⟩ | ⟨a1_z, a2_z, a3_z, a4_z⟩ <;> rcases b with ⟨b1_z, b2_z⟩ | ⟨b1_z, b2_z, b3_z, b4_z⟩
  · rw [a1_z, b1_z]
  · have c := rt_cl b1_z
    exact absurd ((e _ (by omega)).trans b3_z) (a2_z _ (by omega))
  · have c := rt_cl a1_z
    exact absurd ((e _ (by omega)).symm.trans a3_z) (b2_z _ (by omega))
  · have c := rt_cl a1_z
    have c' := rt_cl b1_z
    apply rt_nat a1_z b1_z
    rcases Nat.lt_trichotomy i.toNatClampNeg i'.toNatClampNeg with q | q | q
    · exact absurd ((e _ (by omega)).symm.trans a3_z) (b4_z _ (by omega))
    · exact q
    · exact absurd ((e _ (by omega)).trans b3_z) (a4_z _ (by omega))
theorem rp_fm_b {L : Nat → Int32} {n : Int} {v i : Int32} (a : rp_fm L n v i) (n9_z : n ≤ 99) : (i = -1 ∧ i.toInt = -1) ∨ (0 ≤ i.toInt ∧ i.toInt < n) := by
  rcases a with ⟨a1_z, -⟩ | ⟨a1_z, a2_z, -⟩
  · exact Or.inl ⟨a1_z, by rw [a1_z]; decide⟩
  · exact Or.inr ⟨a1_z, a2_z⟩
theorem rp_findl {o N : Nat} {f n v : Int32} {r : Option Value} {h h' : am_H} (hk_z : am_ks0[o]? = some (.inr (.int, N))) (f0_z : 0 ≤ f.toInt) (n9_z : n.toInt ≤ 99) (f9_z : f.toInt ≤ 99) : ∀ (m : Nat) (i : Int32) (ls : am_L), 0 ≤ i.toInt → (∀ b : Nat, (b : Int) < i.toInt → ¬ rg_v h o (f.toNatClampNeg + b) = v) → am_get ls 0 = some (.ref o) → am_get ls 1 = some (.int f) → am_get ls 2 = some (.int n) → am_get ls 3 = some (.int v) → am_get ls 4 = some (.int i) → rn m am_m165 2 ls [] h r h' → h' = h ∧ ∃ i2_z, r = some (.int i2_z) ∧ rp_fm (fun b => rg_v h o (f.toNatClampNeg + b)) n.toInt v i2_z := by
  intro m
  induction m with
  | zero => intro i ls i0_z hi_z g0_z g1_z g2_z g3_z g4_z hc_z; exact absurd hc_z rn_0
  | succ m ih_z =>
    intro i ls i0_z hi_z g0_z g1_z g2_z g3_z g4_z hc_z
    have cf_z := rt_cl f0_z
    have ci_z := rt_cl i0_z
    replace hc_z := rn_iload (am_cur_of (i := (3, 2, .iload 4, (0, 0, 0), 0)) (by decide +kernel)) g4_z hc_z
    replace hc_z := rn_iload_n (am_cur_of (i := (5, 1, .iload_n 2, (0, 0, 0), 0)) (by decide +kernel)) g2_z hc_z
    replace hc_z := rn_cmp (am_cur_of (i := (6, 3, .if_icmp .ge 22, (16, 0, 0), 0)) (by decide +kernel)) hc_z
    rcases hc_z with ⟨b116_z, hc_z⟩ | ⟨b116_z, hc_z⟩
    · replace b116_z : n.toInt ≤ i.toInt := b116_z
      replace hc_z := rn_iconst (w := (-1)) (am_cur_of (i := (28, 1, .iconst (-1), (0, 0, 0), 0)) (by decide +kernel)) (by decide) hc_z
      replace hc_z := rn_iret (am_cur_of (i := (29, 1, .ireturn, (0, 0, 0), 0)) (by decide +kernel)) hc_z
      obtain ⟨e117_z, e118_z⟩ := hc_z
      exact ⟨e118_z, _, e117_z, Or.inl ⟨rfl, fun b hb_z => hi_z b (by omega)⟩⟩
    · replace b116_z : i.toInt < n.toInt := b116_z
      have hfi := ab_iadd (x := f) (y := i) (by omega) (by omega)
      have cfi := rt_cl (x := f + i) (by omega)
      replace hc_z := rn_aload_n (am_cur_of (i := (9, 1, .aload_n 0, (0, 0, 0), 0)) (by decide +kernel)) g0_z hc_z
      replace hc_z := rn_iload_n (am_cur_of (i := (10, 1, .iload_n 1, (0, 0, 0), 0)) (by decide +kernel)) g1_z hc_z
      replace hc_z := rn_iload (am_cur_of (i := (11, 2, .iload 4, (0, 0, 0), 0)) (by decide +kernel)) g4_z hc_z
      replace hc_z := rn_iadd (w := f + i) (am_cur_of (i := (13, 1, .iadd, (0, 0, 0), 0)) (by decide +kernel)) rfl hc_z
      replace hc_z := rn_iaload (q := (f + i).toNatClampNeg) (v := rg_v h o (f.toNatClampNeg + i.toNatClampNeg)) (am_cur_of (i := (14, 1, .iaload, (0, 0, 0), 0)) (by decide +kernel)) hk_z rfl (by rw [show (f + i).toNatClampNeg = f.toNatClampNeg + i.toNatClampNeg by omega]) hc_z
      obtain ⟨p119_z, hc_z⟩ := hc_z
      replace hc_z := rn_iload_n (am_cur_of (i := (15, 1, .iload_n 3, (0, 0, 0), 0)) (by decide +kernel)) g3_z hc_z
      replace hc_z := rn_cmp (am_cur_of (i := (16, 3, .if_icmp .ne 6, (14, 0, 0), 0)) (by decide +kernel)) hc_z
      rcases hc_z with ⟨b120_z, hc_z⟩ | ⟨b120_z, hc_z⟩
      · replace b120_z : ¬ (rg_v h o (f.toNatClampNeg + i.toNatClampNeg)) = v ∧ ¬ (rg_v h o (f.toNatClampNeg + i.toNatClampNeg)).toInt = v.toInt := b120_z
        replace hc_z := rn_iinc (w := i + 1) (am_cur_of (i := (22, 3, .iinc 4 1, (0, 0, 0), 0)) (by decide +kernel)) g4_z rfl hc_z
        obtain ⟨_, s121_z, s122_z, g4_z, hc_z⟩ := hc_z
        replace g0_z := s121_z 0 _ (by decide) rfl g0_z
        replace g1_z := s121_z 1 _ (by decide) rfl g1_z
        replace g2_z := s121_z 2 _ (by decide) rfl g2_z
        replace g3_z := s121_z 3 _ (by decide) rfl g3_z
        clear s121_z s122_z
        replace hc_z := rn_gotoL (am_cur_of (i := (25, 3, .goto (-22), (2, 0, 0), 0)) (by decide +kernel)) hc_z
        have e1_z := rt_c1 i0_z (by omega)
        refine ih_z (i + 1) _ (by omega) (fun b hb_z => ?_) g0_z g1_z g2_z g3_z g4_z hc_z
        by_cases q : (b : Int) < i.toInt
        · exact hi_z b q
        · rw [show b = i.toNatClampNeg by omega]
          exact b120_z.1
      · replace b120_z : (rg_v h o (f.toNatClampNeg + i.toNatClampNeg)) = v ∧ (rg_v h o (f.toNatClampNeg + i.toNatClampNeg)).toInt = v.toInt := b120_z
        replace hc_z := rn_iload (am_cur_of (i := (19, 2, .iload 4, (0, 0, 0), 0)) (by decide +kernel)) g4_z hc_z
        replace hc_z := rn_iret (am_cur_of (i := (21, 1, .ireturn, (0, 0, 0), 0)) (by decide +kernel)) hc_z
        obtain ⟨e123_z, e124_z⟩ := hc_z
        exact ⟨e124_z, i, e123_z, Or.inr ⟨i0_z, by omega, b120_z.1, hi_z⟩⟩
theorem rp_find {o N m : Nat} {f n v : Int32} {r : Option Value} {h h' : am_H} (hk_z : am_ks0[o]? = some (.inr (.int, N))) (f0_z : 0 ≤ f.toInt) (n9_z : n.toInt ≤ 99) (f9_z : f.toInt ≤ 99) (hc_z : rn m am_m165 0 (lv_args 0 [.ref o, .int f, .int n, .int v]) [] h r h') : h' = h ∧ ∃ i2_z, r = some (.int i2_z) ∧ rp_fm (fun b => rg_v h o (f.toNatClampNeg + b)) n.toInt v i2_z := by
  have g0_z : am_get (lv_args 0 [.ref o, .int f, .int n, .int v]) 0 = some (.ref o) := rfl
  have g1_z : am_get (lv_args 0 [.ref o, .int f, .int n, .int v]) 1 = some (.int f) := rfl
  have g2_z : am_get (lv_args 0 [.ref o, .int f, .int n, .int v]) 2 = some (.int n) := rfl
  have g3_z : am_get (lv_args 0 [.ref o, .int f, .int n, .int v]) 3 = some (.int v) := rfl
  replace hc_z := rn_iconst (w := 0) (am_cur_of (i := (0, 1, .iconst 0, (0, 0, 0), 0)) (by decide +kernel)) (by decide) hc_z
  replace hc_z := rn_istore (am_cur_of (i := (1, 2, .istore 4, (0, 0, 0), 0)) (by decide +kernel)) hc_z
  obtain ⟨_, s125_z, s126_z, g4_z, hc_z⟩ := hc_z
  replace g0_z := s125_z 0 _ (by decide) rfl g0_z
  replace g1_z := s125_z 1 _ (by decide) rfl g1_z
  replace g2_z := s125_z 2 _ (by decide) rfl g2_z
  replace g3_z := s125_z 3 _ (by decide) rfl g3_z
  clear s125_z s126_z
  exact rp_findl hk_z f0_z n9_z f9_z _ 0 _ (by decide) (fun b hb_z => absurd hb_z (by rw [show (0 : Int32).toInt = 0 by decide]; omega)) g0_z g1_z g2_z g3_z g4_z hc_z
theorem rp_bc2 {h : am_H} (hG : rg_Gd h) {q : Nat} (hq_z : q < 4) : rg_r h 3 q = 19 + q := by
  match q, hq_z with
  | 0, _ => exact rg_r_e (rg_ref hG (kd := .inr (.object "AirBed$Blower", 4)) (by decide +kernel) (by decide) (by decide +kernel))
  | 1, _ => exact rg_r_e (rg_ref hG (kd := .inr (.object "AirBed$Blower", 4)) (by decide +kernel) (by decide) (by decide +kernel))
  | 2, _ => exact rg_r_e (rg_ref hG (kd := .inr (.object "AirBed$Blower", 4)) (by decide +kernel) (by decide) (by decide +kernel))
  | 3, _ => exact rg_r_e (rg_ref hG (kd := .inr (.object "AirBed$Blower", 4)) (by decide +kernel) (by decide) (by decide +kernel))
theorem rp_bf2 : ∀ q, q < 4 → ∀ f, f < 8 → rg_fi 3 (19 + q) f = true := by decide +kernel
theorem rp_bnl2 {nb v : Int32} {r : Option Value} {h h' : am_H} (en : rg_v h 2 2 = nb) (n4_z : nb.toInt ≤ 4) : ∀ (m : Nat) (i : Int32) (ls : am_L), 0 ≤ i.toInt → (∀ b : Nat, (b : Int) < i.toInt → ¬ rg_v h (19 + b) 0 = v) → am_get ls 0 = some (.ref 2) → am_get ls 1 = some (.int v) → am_get ls 2 = some (.int i) → rn m am_m34 2 ls [] h r h' → h' = h ∧ ∃ i2_z, r = some (.int i2_z) ∧ rp_fm (fun b => rg_v h (19 + b) 0) nb.toInt v i2_z := by
  intro m
  induction m with
  | zero => intro i ls i0_z hi_z g0_z g1_z g2_z hc_z; exact absurd hc_z rn_0
  | succ m ih_z =>
    intro i ls i0_z hi_z g0_z g1_z g2_z hc_z
    have ci_z := rt_cl i0_z
    replace hc_z := rn_iload_n (am_cur_of (i := (2, 1, .iload_n 2, (0, 0, 0), 0)) (by decide +kernel)) g2_z hc_z
    replace hc_z := rn_aload_n (am_cur_of (i := (3, 1, .aload_n 0, (0, 0, 0), 0)) (by decide +kernel)) g0_z hc_z
    replace hc_z := rn_getI (v := nb) (am_cur_of (i := (4, 3, .getfield 57, (1, 2, 256), 0)) (by decide +kernel)) (by decide +kernel) en hc_z
    replace hc_z := rn_cmp (am_cur_of (i := (7, 3, .if_icmp .ge 24, (17, 0, 0), 0)) (by decide +kernel)) hc_z
    rcases hc_z with ⟨b127_z, hc_z⟩ | ⟨b127_z, hc_z⟩
    · replace b127_z : nb.toInt ≤ i.toInt := b127_z
      replace hc_z := rn_iconst (w := (-1)) (am_cur_of (i := (31, 1, .iconst (-1), (0, 0, 0), 0)) (by decide +kernel)) (by decide) hc_z
      replace hc_z := rn_iret (am_cur_of (i := (32, 1, .ireturn, (0, 0, 0), 0)) (by decide +kernel)) hc_z
      obtain ⟨e128_z, e129_z⟩ := hc_z
      exact ⟨e129_z, _, e128_z, Or.inl ⟨rfl, fun b hb_z => hi_z b (by omega)⟩⟩
    · replace b127_z : i.toInt < nb.toInt := b127_z
      replace hc_z := rn_aload_n (am_cur_of (i := (10, 1, .aload_n 0, (0, 0, 0), 0)) (by decide +kernel)) g0_z hc_z
      replace hc_z := rn_getR (x := 3) (am_cur_of (i := (11, 3, .getfield 11, (1, 3, 260), 0)) (by decide +kernel)) (by decide +kernel) hc_z
      replace hc_z := rn_iload_n (am_cur_of (i := (14, 1, .iload_n 2, (0, 0, 0), 0)) (by decide +kernel)) g2_z hc_z
      replace hc_z := rn_aaload (s := "AirBed$Blower") (N := 4) (q := i.toNatClampNeg) (am_cur_of (i := (15, 1, .aaload, (0, 0, 0), 0)) (by decide +kernel)) (by decide +kernel) rfl hc_z
      obtain ⟨p130_z, hc_z⟩ := hc_z
      rw [rp_bc2 (rn_G hc_z) p130_z.2] at hc_z
      replace hc_z := rn_getI (v := rg_v h (19 + i.toNatClampNeg) 0) (am_cur_of (i := (16, 3, .getfield 85, (3, 0, 203), 0)) (by decide +kernel)) (rp_bf2 _ p130_z.2 0 (by decide)) rfl hc_z
      replace hc_z := rn_iload_n (am_cur_of (i := (19, 1, .iload_n 1, (0, 0, 0), 0)) (by decide +kernel)) g1_z hc_z
      replace hc_z := rn_cmp (am_cur_of (i := (20, 3, .if_icmp .ne 5, (15, 0, 0), 0)) (by decide +kernel)) hc_z
      rcases hc_z with ⟨b131_z, hc_z⟩ | ⟨b131_z, hc_z⟩
      · replace b131_z : ¬ (rg_v h (19 + i.toNatClampNeg) 0) = v ∧ ¬ (rg_v h (19 + i.toNatClampNeg) 0).toInt = v.toInt := b131_z
        replace hc_z := rn_iinc (w := i + 1) (am_cur_of (i := (25, 3, .iinc 2 1, (0, 0, 0), 0)) (by decide +kernel)) g2_z rfl hc_z
        obtain ⟨_, s132_z, s133_z, g2_z, hc_z⟩ := hc_z
        replace g0_z := s132_z 0 _ (by decide) rfl g0_z
        replace g1_z := s132_z 1 _ (by decide) rfl g1_z
        clear s132_z s133_z
        replace hc_z := rn_gotoL (am_cur_of (i := (28, 3, .goto (-26), (2, 0, 0), 0)) (by decide +kernel)) hc_z
        have e1_z := rt_c1 i0_z (by omega)
        refine ih_z (i + 1) _ (by omega) (fun b hb_z => ?_) g0_z g1_z g2_z hc_z
        by_cases q : (b : Int) < i.toInt
        · exact hi_z b q
        · rw [show b = i.toNatClampNeg by omega]
          exact b131_z.1
      · replace b131_z : (rg_v h (19 + i.toNatClampNeg) 0) = v ∧ (rg_v h (19 + i.toNatClampNeg) 0).toInt = v.toInt := b131_z
        replace hc_z := rn_iload_n (am_cur_of (i := (23, 1, .iload_n 2, (0, 0, 0), 0)) (by decide +kernel)) g2_z hc_z
        replace hc_z := rn_iret (am_cur_of (i := (24, 1, .ireturn, (0, 0, 0), 0)) (by decide +kernel)) hc_z
        obtain ⟨e134_z, e135_z⟩ := hc_z
        exact ⟨e135_z, i, e134_z, Or.inr ⟨i0_z, by omega, b131_z.1, hi_z⟩⟩
theorem rp_bn2 {nb v : Int32} {m : Nat} {r : Option Value} {h h' : am_H} (en : rg_v h 2 2 = nb) (n4_z : nb.toInt ≤ 4) (hc_z : rn m am_m34 0 (lv_args 0 [.ref 2, .int v]) [] h r h') : h' = h ∧ ∃ i2_z, r = some (.int i2_z) ∧ rp_fm (fun b => rg_v h (19 + b) 0) nb.toInt v i2_z := by
  have g0_z : am_get (lv_args 0 [.ref 2, .int v]) 0 = some (.ref 2) := rfl
  have g1_z : am_get (lv_args 0 [.ref 2, .int v]) 1 = some (.int v) := rfl
  replace hc_z := rn_iconst (w := 0) (am_cur_of (i := (0, 1, .iconst 0, (0, 0, 0), 0)) (by decide +kernel)) (by decide) hc_z
  replace hc_z := rn_istore_n (am_cur_of (i := (1, 1, .istore_n 2, (0, 0, 0), 0)) (by decide +kernel)) hc_z
  obtain ⟨_, s136_z, s137_z, g2_z, hc_z⟩ := hc_z
  replace g0_z := s136_z 0 _ (by decide) rfl g0_z
  replace g1_z := s136_z 1 _ (by decide) rfl g1_z
  clear s136_z s137_z
  exact rp_bnl2 en n4_z _ 0 _ (by decide) (fun b hb_z => absurd hb_z (by rw [show (0 : Int32).toInt = 0 by decide]; omega)) g0_z g1_z g2_z hc_z
theorem rp_tnl2 {nb v : Int32} {r : Option Value} {h h' : am_H} (en : rg_v h 2 12 = nb) (n4_z : nb.toInt ≤ 3) : ∀ (m : Nat) (i : Int32) (ls : am_L), 0 ≤ i.toInt → (∀ b : Nat, (b : Int) < i.toInt → ¬ rg_v h 8 b = v) → am_get ls 0 = some (.ref 2) → am_get ls 1 = some (.int v) → am_get ls 2 = some (.int i) → rn m am_m39 2 ls [] h r h' → h' = h ∧ ∃ i2_z, r = some (.int i2_z) ∧ rp_fm (fun b => rg_v h 8 b) nb.toInt v i2_z := by
  intro m
  induction m with
  | zero => intro i ls i0_z hi_z g0_z g1_z g2_z hc_z; exact absurd hc_z rn_0
  | succ m ih_z =>
    intro i ls i0_z hi_z g0_z g1_z g2_z hc_z
    have ci_z := rt_cl i0_z
    replace hc_z := rn_iload_n (am_cur_of (i := (2, 1, .iload_n 2, (0, 0, 0), 0)) (by decide +kernel)) g2_z hc_z
    replace hc_z := rn_aload_n (am_cur_of (i := (3, 1, .aload_n 0, (0, 0, 0), 0)) (by decide +kernel)) g0_z hc_z
    replace hc_z := rn_getI (v := nb) (am_cur_of (i := (4, 3, .getfield 72, (1, 12, 294), 0)) (by decide +kernel)) (by decide +kernel) en hc_z
    replace hc_z := rn_cmp (am_cur_of (i := (7, 3, .if_icmp .ge 21, (16, 0, 0), 0)) (by decide +kernel)) hc_z
    rcases hc_z with ⟨b138_z, hc_z⟩ | ⟨b138_z, hc_z⟩
    · replace b138_z : nb.toInt ≤ i.toInt := b138_z
      replace hc_z := rn_iconst (w := (-1)) (am_cur_of (i := (28, 1, .iconst (-1), (0, 0, 0), 0)) (by decide +kernel)) (by decide) hc_z
      replace hc_z := rn_iret (am_cur_of (i := (29, 1, .ireturn, (0, 0, 0), 0)) (by decide +kernel)) hc_z
      obtain ⟨e139_z, e140_z⟩ := hc_z
      exact ⟨e140_z, _, e139_z, Or.inl ⟨rfl, fun b hb_z => hi_z b (by omega)⟩⟩
    · replace b138_z : i.toInt < nb.toInt := b138_z
      replace hc_z := rn_aload_n (am_cur_of (i := (10, 1, .aload_n 0, (0, 0, 0), 0)) (by decide +kernel)) g0_z hc_z
      replace hc_z := rn_getR (x := 8) (am_cur_of (i := (11, 3, .getfield 30, (1, 13, 298), 0)) (by decide +kernel)) (by decide +kernel) hc_z
      replace hc_z := rn_iload_n (am_cur_of (i := (14, 1, .iload_n 2, (0, 0, 0), 0)) (by decide +kernel)) g2_z hc_z
      replace hc_z := rn_iaload (N := 3) (q := i.toNatClampNeg) (v := rg_v h 8 i.toNatClampNeg) (am_cur_of (i := (15, 1, .iaload, (0, 0, 0), 0)) (by decide +kernel)) (by decide +kernel) rfl rfl hc_z
      obtain ⟨p141_z, hc_z⟩ := hc_z
      replace hc_z := rn_iload_n (am_cur_of (i := (16, 1, .iload_n 1, (0, 0, 0), 0)) (by decide +kernel)) g1_z hc_z
      replace hc_z := rn_cmp (am_cur_of (i := (17, 3, .if_icmp .ne 5, (14, 0, 0), 0)) (by decide +kernel)) hc_z
      rcases hc_z with ⟨b142_z, hc_z⟩ | ⟨b142_z, hc_z⟩
      · replace b142_z : ¬ (rg_v h 8 i.toNatClampNeg) = v ∧ ¬ (rg_v h 8 i.toNatClampNeg).toInt = v.toInt := b142_z
        replace hc_z := rn_iinc (w := i + 1) (am_cur_of (i := (22, 3, .iinc 2 1, (0, 0, 0), 0)) (by decide +kernel)) g2_z rfl hc_z
        obtain ⟨_, s143_z, s144_z, g2_z, hc_z⟩ := hc_z
        replace g0_z := s143_z 0 _ (by decide) rfl g0_z
        replace g1_z := s143_z 1 _ (by decide) rfl g1_z
        clear s143_z s144_z
        replace hc_z := rn_gotoL (am_cur_of (i := (25, 3, .goto (-23), (2, 0, 0), 0)) (by decide +kernel)) hc_z
        have e1_z := rt_c1 i0_z (by omega)
        refine ih_z (i + 1) _ (by omega) (fun b hb_z => ?_) g0_z g1_z g2_z hc_z
        by_cases q : (b : Int) < i.toInt
        · exact hi_z b q
        · rw [show b = i.toNatClampNeg by omega]
          exact b142_z.1
      · replace b142_z : (rg_v h 8 i.toNatClampNeg) = v ∧ (rg_v h 8 i.toNatClampNeg).toInt = v.toInt := b142_z
        replace hc_z := rn_iload_n (am_cur_of (i := (20, 1, .iload_n 2, (0, 0, 0), 0)) (by decide +kernel)) g2_z hc_z
        replace hc_z := rn_iret (am_cur_of (i := (21, 1, .ireturn, (0, 0, 0), 0)) (by decide +kernel)) hc_z
        obtain ⟨e145_z, e146_z⟩ := hc_z
        exact ⟨e146_z, i, e145_z, Or.inr ⟨i0_z, by omega, b142_z.1, hi_z⟩⟩
theorem rp_tn2 {nb v : Int32} {m : Nat} {r : Option Value} {h h' : am_H} (en : rg_v h 2 12 = nb) (n4_z : nb.toInt ≤ 3) (hc_z : rn m am_m39 0 (lv_args 0 [.ref 2, .int v]) [] h r h') : h' = h ∧ ∃ i2_z, r = some (.int i2_z) ∧ rp_fm (fun b => rg_v h 8 b) nb.toInt v i2_z := by
  have g0_z : am_get (lv_args 0 [.ref 2, .int v]) 0 = some (.ref 2) := rfl
  have g1_z : am_get (lv_args 0 [.ref 2, .int v]) 1 = some (.int v) := rfl
  replace hc_z := rn_iconst (w := 0) (am_cur_of (i := (0, 1, .iconst 0, (0, 0, 0), 0)) (by decide +kernel)) (by decide) hc_z
  replace hc_z := rn_istore_n (am_cur_of (i := (1, 1, .istore_n 2, (0, 0, 0), 0)) (by decide +kernel)) hc_z
  obtain ⟨_, s147_z, s148_z, g2_z, hc_z⟩ := hc_z
  replace g0_z := s147_z 0 _ (by decide) rfl g0_z
  replace g1_z := s147_z 1 _ (by decide) rfl g1_z
  clear s147_z s148_z
  exact rp_tnl2 en n4_z _ 0 _ (by decide) (fun b hb_z => absurd hb_z (by rw [show (0 : Int32).toInt = 0 by decide]; omega)) g0_z g1_z g2_z hc_z
theorem rp_bc23 {h : am_H} (hG : rg_Gd h) {q : Nat} (hq_z : q < 4) : rg_r h 24 q = 40 + q := by
  match q, hq_z with
  | 0, _ => exact rg_r_e (rg_ref hG (kd := .inr (.object "AirBed$Blower", 4)) (by decide +kernel) (by decide) (by decide +kernel))
  | 1, _ => exact rg_r_e (rg_ref hG (kd := .inr (.object "AirBed$Blower", 4)) (by decide +kernel) (by decide) (by decide +kernel))
  | 2, _ => exact rg_r_e (rg_ref hG (kd := .inr (.object "AirBed$Blower", 4)) (by decide +kernel) (by decide) (by decide +kernel))
  | 3, _ => exact rg_r_e (rg_ref hG (kd := .inr (.object "AirBed$Blower", 4)) (by decide +kernel) (by decide) (by decide +kernel))
theorem rp_bf23 : ∀ q, q < 4 → ∀ f, f < 8 → rg_fi 3 (40 + q) f = true := by decide +kernel
theorem rp_bnl23 {nb v : Int32} {r : Option Value} {h h' : am_H} (en : rg_v h 23 2 = nb) (n4_z : nb.toInt ≤ 4) : ∀ (m : Nat) (i : Int32) (ls : am_L), 0 ≤ i.toInt → (∀ b : Nat, (b : Int) < i.toInt → ¬ rg_v h (40 + b) 0 = v) → am_get ls 0 = some (.ref 23) → am_get ls 1 = some (.int v) → am_get ls 2 = some (.int i) → rn m am_m34 2 ls [] h r h' → h' = h ∧ ∃ i2_z, r = some (.int i2_z) ∧ rp_fm (fun b => rg_v h (40 + b) 0) nb.toInt v i2_z := by
  intro m
  induction m with
  | zero => intro i ls i0_z hi_z g0_z g1_z g2_z hc_z; exact absurd hc_z rn_0
  | succ m ih_z =>
    intro i ls i0_z hi_z g0_z g1_z g2_z hc_z
    have ci_z := rt_cl i0_z
    replace hc_z := rn_iload_n (am_cur_of (i := (2, 1, .iload_n 2, (0, 0, 0), 0)) (by decide +kernel)) g2_z hc_z
    replace hc_z := rn_aload_n (am_cur_of (i := (3, 1, .aload_n 0, (0, 0, 0), 0)) (by decide +kernel)) g0_z hc_z
    replace hc_z := rn_getI (v := nb) (am_cur_of (i := (4, 3, .getfield 57, (1, 2, 256), 0)) (by decide +kernel)) (by decide +kernel) en hc_z
    replace hc_z := rn_cmp (am_cur_of (i := (7, 3, .if_icmp .ge 24, (17, 0, 0), 0)) (by decide +kernel)) hc_z
    rcases hc_z with ⟨b149_z, hc_z⟩ | ⟨b149_z, hc_z⟩
    · replace b149_z : nb.toInt ≤ i.toInt := b149_z
      replace hc_z := rn_iconst (w := (-1)) (am_cur_of (i := (31, 1, .iconst (-1), (0, 0, 0), 0)) (by decide +kernel)) (by decide) hc_z
      replace hc_z := rn_iret (am_cur_of (i := (32, 1, .ireturn, (0, 0, 0), 0)) (by decide +kernel)) hc_z
      obtain ⟨e150_z, e151_z⟩ := hc_z
      exact ⟨e151_z, _, e150_z, Or.inl ⟨rfl, fun b hb_z => hi_z b (by omega)⟩⟩
    · replace b149_z : i.toInt < nb.toInt := b149_z
      replace hc_z := rn_aload_n (am_cur_of (i := (10, 1, .aload_n 0, (0, 0, 0), 0)) (by decide +kernel)) g0_z hc_z
      replace hc_z := rn_getR (x := 24) (am_cur_of (i := (11, 3, .getfield 11, (1, 3, 260), 0)) (by decide +kernel)) (by decide +kernel) hc_z
      replace hc_z := rn_iload_n (am_cur_of (i := (14, 1, .iload_n 2, (0, 0, 0), 0)) (by decide +kernel)) g2_z hc_z
      replace hc_z := rn_aaload (s := "AirBed$Blower") (N := 4) (q := i.toNatClampNeg) (am_cur_of (i := (15, 1, .aaload, (0, 0, 0), 0)) (by decide +kernel)) (by decide +kernel) rfl hc_z
      obtain ⟨p152_z, hc_z⟩ := hc_z
      rw [rp_bc23 (rn_G hc_z) p152_z.2] at hc_z
      replace hc_z := rn_getI (v := rg_v h (40 + i.toNatClampNeg) 0) (am_cur_of (i := (16, 3, .getfield 85, (3, 0, 203), 0)) (by decide +kernel)) (rp_bf23 _ p152_z.2 0 (by decide)) rfl hc_z
      replace hc_z := rn_iload_n (am_cur_of (i := (19, 1, .iload_n 1, (0, 0, 0), 0)) (by decide +kernel)) g1_z hc_z
      replace hc_z := rn_cmp (am_cur_of (i := (20, 3, .if_icmp .ne 5, (15, 0, 0), 0)) (by decide +kernel)) hc_z
      rcases hc_z with ⟨b153_z, hc_z⟩ | ⟨b153_z, hc_z⟩
      · replace b153_z : ¬ (rg_v h (40 + i.toNatClampNeg) 0) = v ∧ ¬ (rg_v h (40 + i.toNatClampNeg) 0).toInt = v.toInt := b153_z
        replace hc_z := rn_iinc (w := i + 1) (am_cur_of (i := (25, 3, .iinc 2 1, (0, 0, 0), 0)) (by decide +kernel)) g2_z rfl hc_z
        obtain ⟨_, s154_z, s155_z, g2_z, hc_z⟩ := hc_z
        replace g0_z := s154_z 0 _ (by decide) rfl g0_z
        replace g1_z := s154_z 1 _ (by decide) rfl g1_z
        clear s154_z s155_z
        replace hc_z := rn_gotoL (am_cur_of (i := (28, 3, .goto (-26), (2, 0, 0), 0)) (by decide +kernel)) hc_z
        have e1_z := rt_c1 i0_z (by omega)
        refine ih_z (i + 1) _ (by omega) (fun b hb_z => ?_) g0_z g1_z g2_z hc_z
        by_cases q : (b : Int) < i.toInt
        · exact hi_z b q
        · rw [show b = i.toNatClampNeg by omega]
          exact b153_z.1
      · replace b153_z : (rg_v h (40 + i.toNatClampNeg) 0) = v ∧ (rg_v h (40 + i.toNatClampNeg) 0).toInt = v.toInt := b153_z
        replace hc_z := rn_iload_n (am_cur_of (i := (23, 1, .iload_n 2, (0, 0, 0), 0)) (by decide +kernel)) g2_z hc_z
        replace hc_z := rn_iret (am_cur_of (i := (24, 1, .ireturn, (0, 0, 0), 0)) (by decide +kernel)) hc_z
        obtain ⟨e156_z, e157_z⟩ := hc_z
        exact ⟨e157_z, i, e156_z, Or.inr ⟨i0_z, by omega, b153_z.1, hi_z⟩⟩
theorem rp_bn23 {nb v : Int32} {m : Nat} {r : Option Value} {h h' : am_H} (en : rg_v h 23 2 = nb) (n4_z : nb.toInt ≤ 4) (hc_z : rn m am_m34 0 (lv_args 0 [.ref 23, .int v]) [] h r h') : h' = h ∧ ∃ i2_z, r = some (.int i2_z) ∧ rp_fm (fun b => rg_v h (40 + b) 0) nb.toInt v i2_z := by
  have g0_z : am_get (lv_args 0 [.ref 23, .int v]) 0 = some (.ref 23) := rfl
  have g1_z : am_get (lv_args 0 [.ref 23, .int v]) 1 = some (.int v) := rfl
  replace hc_z := rn_iconst (w := 0) (am_cur_of (i := (0, 1, .iconst 0, (0, 0, 0), 0)) (by decide +kernel)) (by decide) hc_z
  replace hc_z := rn_istore_n (am_cur_of (i := (1, 1, .istore_n 2, (0, 0, 0), 0)) (by decide +kernel)) hc_z
  obtain ⟨_, s158_z, s159_z, g2_z, hc_z⟩ := hc_z
  replace g0_z := s158_z 0 _ (by decide) rfl g0_z
  replace g1_z := s158_z 1 _ (by decide) rfl g1_z
  clear s158_z s159_z
  exact rp_bnl23 en n4_z _ 0 _ (by decide) (fun b hb_z => absurd hb_z (by rw [show (0 : Int32).toInt = 0 by decide]; omega)) g0_z g1_z g2_z hc_z
theorem rp_tnl23 {nb v : Int32} {r : Option Value} {h h' : am_H} (en : rg_v h 23 12 = nb) (n4_z : nb.toInt ≤ 3) : ∀ (m : Nat) (i : Int32) (ls : am_L), 0 ≤ i.toInt → (∀ b : Nat, (b : Int) < i.toInt → ¬ rg_v h 29 b = v) → am_get ls 0 = some (.ref 23) → am_get ls 1 = some (.int v) → am_get ls 2 = some (.int i) → rn m am_m39 2 ls [] h r h' → h' = h ∧ ∃ i2_z, r = some (.int i2_z) ∧ rp_fm (fun b => rg_v h 29 b) nb.toInt v i2_z := by
  intro m
  induction m with
  | zero => intro i ls i0_z hi_z g0_z g1_z g2_z hc_z; exact absurd hc_z rn_0
  | succ m ih_z =>
    intro i ls i0_z hi_z g0_z g1_z g2_z hc_z
    have ci_z := rt_cl i0_z
    replace hc_z := rn_iload_n (am_cur_of (i := (2, 1, .iload_n 2, (0, 0, 0), 0)) (by decide +kernel)) g2_z hc_z
    replace hc_z := rn_aload_n (am_cur_of (i := (3, 1, .aload_n 0, (0, 0, 0), 0)) (by decide +kernel)) g0_z hc_z
    replace hc_z := rn_getI (v := nb) (am_cur_of (i := (4, 3, .getfield 72, (1, 12, 294), 0)) (by decide +kernel)) (by decide +kernel) en hc_z
    replace hc_z := rn_cmp (am_cur_of (i := (7, 3, .if_icmp .ge 21, (16, 0, 0), 0)) (by decide +kernel)) hc_z
    rcases hc_z with ⟨b160_z, hc_z⟩ | ⟨b160_z, hc_z⟩
    · replace b160_z : nb.toInt ≤ i.toInt := b160_z
      replace hc_z := rn_iconst (w := (-1)) (am_cur_of (i := (28, 1, .iconst (-1), (0, 0, 0), 0)) (by decide +kernel)) (by decide) hc_z
      replace hc_z := rn_iret (am_cur_of (i := (29, 1, .ireturn, (0, 0, 0), 0)) (by decide +kernel)) hc_z
      obtain ⟨e161_z, e162_z⟩ := hc_z
      exact ⟨e162_z, _, e161_z, Or.inl ⟨rfl, fun b hb_z => hi_z b (by omega)⟩⟩
    · replace b160_z : i.toInt < nb.toInt := b160_z
      replace hc_z := rn_aload_n (am_cur_of (i := (10, 1, .aload_n 0, (0, 0, 0), 0)) (by decide +kernel)) g0_z hc_z
      replace hc_z := rn_getR (x := 29) (am_cur_of (i := (11, 3, .getfield 30, (1, 13, 298), 0)) (by decide +kernel)) (by decide +kernel) hc_z
      replace hc_z := rn_iload_n (am_cur_of (i := (14, 1, .iload_n 2, (0, 0, 0), 0)) (by decide +kernel)) g2_z hc_z
      replace hc_z := rn_iaload (N := 3) (q := i.toNatClampNeg) (v := rg_v h 29 i.toNatClampNeg) (am_cur_of (i := (15, 1, .iaload, (0, 0, 0), 0)) (by decide +kernel)) (by decide +kernel) rfl rfl hc_z
      obtain ⟨p163_z, hc_z⟩ := hc_z
      replace hc_z := rn_iload_n (am_cur_of (i := (16, 1, .iload_n 1, (0, 0, 0), 0)) (by decide +kernel)) g1_z hc_z
      replace hc_z := rn_cmp (am_cur_of (i := (17, 3, .if_icmp .ne 5, (14, 0, 0), 0)) (by decide +kernel)) hc_z
      rcases hc_z with ⟨b164_z, hc_z⟩ | ⟨b164_z, hc_z⟩
      · replace b164_z : ¬ (rg_v h 29 i.toNatClampNeg) = v ∧ ¬ (rg_v h 29 i.toNatClampNeg).toInt = v.toInt := b164_z
        replace hc_z := rn_iinc (w := i + 1) (am_cur_of (i := (22, 3, .iinc 2 1, (0, 0, 0), 0)) (by decide +kernel)) g2_z rfl hc_z
        obtain ⟨_, s165_z, s166_z, g2_z, hc_z⟩ := hc_z
        replace g0_z := s165_z 0 _ (by decide) rfl g0_z
        replace g1_z := s165_z 1 _ (by decide) rfl g1_z
        clear s165_z s166_z
        replace hc_z := rn_gotoL (am_cur_of (i := (25, 3, .goto (-23), (2, 0, 0), 0)) (by decide +kernel)) hc_z
        have e1_z := rt_c1 i0_z (by omega)
        refine ih_z (i + 1) _ (by omega) (fun b hb_z => ?_) g0_z g1_z g2_z hc_z
        by_cases q : (b : Int) < i.toInt
        · exact hi_z b q
        · rw [show b = i.toNatClampNeg by omega]
          exact b164_z.1
      · replace b164_z : (rg_v h 29 i.toNatClampNeg) = v ∧ (rg_v h 29 i.toNatClampNeg).toInt = v.toInt := b164_z
        replace hc_z := rn_iload_n (am_cur_of (i := (20, 1, .iload_n 2, (0, 0, 0), 0)) (by decide +kernel)) g2_z hc_z
        replace hc_z := rn_iret (am_cur_of (i := (21, 1, .ireturn, (0, 0, 0), 0)) (by decide +kernel)) hc_z
        obtain ⟨e167_z, e168_z⟩ := hc_z
        exact ⟨e168_z, i, e167_z, Or.inr ⟨i0_z, by omega, b164_z.1, hi_z⟩⟩
theorem rp_tn23 {nb v : Int32} {m : Nat} {r : Option Value} {h h' : am_H} (en : rg_v h 23 12 = nb) (n4_z : nb.toInt ≤ 3) (hc_z : rn m am_m39 0 (lv_args 0 [.ref 23, .int v]) [] h r h') : h' = h ∧ ∃ i2_z, r = some (.int i2_z) ∧ rp_fm (fun b => rg_v h 29 b) nb.toInt v i2_z := by
  have g0_z : am_get (lv_args 0 [.ref 23, .int v]) 0 = some (.ref 23) := rfl
  have g1_z : am_get (lv_args 0 [.ref 23, .int v]) 1 = some (.int v) := rfl
  replace hc_z := rn_iconst (w := 0) (am_cur_of (i := (0, 1, .iconst 0, (0, 0, 0), 0)) (by decide +kernel)) (by decide) hc_z
  replace hc_z := rn_istore_n (am_cur_of (i := (1, 1, .istore_n 2, (0, 0, 0), 0)) (by decide +kernel)) hc_z
  obtain ⟨_, s169_z, s170_z, g2_z, hc_z⟩ := hc_z
  replace g0_z := s169_z 0 _ (by decide) rfl g0_z
  replace g1_z := s169_z 1 _ (by decide) rfl g1_z
  clear s169_z s170_z
  exact rp_tnl23 en n4_z _ 0 _ (by decide) (fun b hb_z => absurd hb_z (by rw [show (0 : Int32).toInt = 0 by decide]; omega)) g0_z g1_z g2_z hc_z
/-- a blower's number k of the model -/
def rp_bm (g : am_H) (b k : Nat) : Int32 := if k = 0 then rg_v g 169 (4 + b) else rg_v g 170 (28 + 7 * b + (k - 1))
def rp_C (d : Nat) (h g : am_H) (b : Nat) : Prop := (b : Int) < (rg_v h d 2).toInt → ∀ k, k < 8 → rg_v h (d + 17 + b) k = rp_bm g b k
/-- the plan that the class reads at d, the model in its upper halves -/
def rp (d : Nat) (h g : am_H) : Prop :=
  (rg_v h d 0 = rg_v g 168 6 ∧ rg_v h d 1 = rg_v g 168 7 ∧ rg_v h d 7 = rg_v g 168 8 ∧ rg_v h d 8 = rg_v g 168 9 ∧ rg_v h d 16 = rg_v g 168 10 ∧ rg_v h d 17 = rg_v g 168 11 ∧ rg_v h 44 2 = -1 ∧ rg_v g 164 4 = 0 ∧ rg_v g 164 5 = -1)
  ∧ (rg_v h d 2 = rg_v g 164 17 ∧ 0 ≤ (rg_v h d 2).toInt ∧ (rg_v h d 2).toInt ≤ 4) ∧ (rg_v h d 4 = rg_v g 164 18 ∧ 0 ≤ (rg_v h d 4).toInt ∧ (rg_v h d 4).toInt ≤ 8)
  ∧ (rg_v h d 9 = rg_v g 164 19 ∧ 0 ≤ (rg_v h d 9).toInt ∧ (rg_v h d 9).toInt ≤ 6) ∧ (rg_v h d 12 = rg_v g 164 20 ∧ 0 ≤ (rg_v h d 12).toInt ∧ (rg_v h d 12).toInt ≤ 3)
  ∧ (rg_v h (d + 9) 0 = rg_v g 164 44 ∧ 0 ≤ (rg_v h (d + 9) 0).toInt ∧ (rg_v h (d + 9) 0).toInt ≤ 64)
  ∧ (rp_C d h g 0 ∧ rp_C d h g 1 ∧ rp_C d h g 2 ∧ rp_C d h g 3)
  ∧ (∀ t : Nat, (t : Int) < (rg_v h d 4).toInt → rg_v h (d + 2) t = rg_v g 171 (8 + t) ∧ rg_v h (d + 3) t = rg_v g 172 (8 + t))
  ∧ (∀ t : Nat, (t : Int) < (rg_v h d 9).toInt → rg_v h (d + 4) t = rg_v g 173 (6 + t) ∧ rg_v h (d + 5) t = rg_v g 174 (6 + t))
  ∧ (∀ t : Nat, (t : Int) < (rg_v h d 12).toInt → rg_v h (d + 6) t = rg_v g 175 (3 + t) ∧ rg_v h (d + 7) t = rg_v g 176 (3 + t) ∧ rg_v h (d + 8) t = rg_v g 177 (3 + t))
theorem rp_x {d : Nat} {h h' g g' : am_H} (hd_z : d = 2 ∨ d = 23) (A : rp d h g) (a : rx_C h h') (b : rx_M g g') : rp d h' g' := by
  have eC : ∀ o k, ¬ o = 44 → rg_v h' o k = rg_v h o k := fun o k e => rx_v a e
  have eM : ∀ o k, 168 ≤ o → rg_v g' o k = rg_v g o k := fun o k e => rx_w b (by omega) (by omega)
  have eN : ∀ k, 12 ≤ k → rg_v g' 164 k = rg_v g 164 k := fun k e => rx_w b (by omega) (by omega)
  have ed_z : ∀ k, rg_v h' d k = rg_v h d k := fun k => eC d k (by omega)
  obtain ⟨⟨a1_z, a2_z, a3_z, a4_z, a5_z, a6_z⟩, ⟨n1_z, n2_z, n3_z⟩, ⟨t1_z, t2_z, t3_z⟩, ⟨l1_z, l2_z, l3_z⟩, ⟨r1_z, r2_z, r3_z⟩, ⟨k1_z, k2_z, k3_z⟩, ⟨C0, C1, C2, C3⟩, D, E, G⟩ := A
  have hC : ∀ b, rp_C d h g b → rp_C d h' g' b := by
    intro b C hb_z k hk_z
    rw [ed_z] at hb_z
    unfold rp_bm
    rw [eC (d + 17 + b) k (by omega), eM 169 _ (by decide), eM 170 _ (by decide)]
    exact C hb_z k hk_z
  unfold rp
  simp only [ed_z, eC (d + 9) 0 (by omega), eM 168 _ (by decide), eN _ (by decide : 12 ≤ 17), eN _ (by decide : 12 ≤ 18), eN _ (by decide : 12 ≤ 19), eN _ (by decide : 12 ≤ 20), eN _ (by decide : 12 ≤ 44), rx_v2 a, rx_w4 b, rx_w5 b]
  refine ⟨⟨a1_z, a2_z, a3_z, a4_z, a5_z, a6_z⟩, ⟨n1_z, n2_z, n3_z⟩, ⟨t1_z, t2_z, t3_z⟩, ⟨l1_z, l2_z, l3_z⟩, ⟨r1_z, r2_z, r3_z⟩, ⟨k1_z, k2_z, k3_z⟩, ⟨hC 0 C0, hC 1 C1, hC 2 C2, hC 3 C3⟩, ?_, ?_, ?_⟩
  · intro t ht
    rw [eC _ _ (by omega), eC _ _ (by omega), eM 171 _ (by decide), eM 172 _ (by decide)]
    exact D t ht
  · intro t ht
    rw [eC _ _ (by omega), eC _ _ (by omega), eM 173 _ (by decide), eM 174 _ (by decide)]
    exact E t ht
  · intro t ht
    rw [eC _ _ (by omega), eC _ _ (by omega), eC _ _ (by omega), eM 175 _ (by decide), eM 176 _ (by decide), eM 177 _ (by decide)]
    exact G t ht
