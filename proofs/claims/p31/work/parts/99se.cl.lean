/-! ===== WHAT THE CLASS'S CALLS LEAVE IN ITS STATE (wip/r/gen99se.py) ===== -/
/-- methods that write nothing -/
def pu_ok (a : Nat) : Bool := Nat.beq a 62 || (Nat.ble 70 a && Nat.ble a 73) || Nat.beq a 76 || Nat.beq a 78 || Nat.beq a 79 || Nat.beq a 90 || Nat.beq a 91 || Nat.beq a 93 || Nat.beq a 94 || Nat.beq a 98 || Nat.beq a 108
def pu_w : rw_W := (fun _ _ => false, false, pu_ok)
def pu_M (a : Nat) : Bool := !(pu_ok a) || (match am_prog[a]? with
  | some M => M.2.2.2.all (rw_I pu_w)
  | none => true)
set_option maxRecDepth 1000000 in
theorem pu_M_all : (List.range 256).all pu_M = true := by decide +kernel
theorem pu_K {a : Nat} {M : am_M} (ha_z : pu_ok a = true) (hM : am_prog[a]? = some M) : rw_K pu_w M.2.2.2 := by
  have hl_z : a < am_prog.length := (List.getElem?_eq_some_iff.mp hM).1
  rw [am_prog_len] at hl_z
  have hb_z := List.all_eq_true.mp pu_M_all a (List.mem_range.mpr (by omega))
  unfold pu_M at hb_z
  rw [ha_z, hM] at hb_z
  exact List.all_eq_true.mp hb_z
theorem pu_of {a n : Nat} {M : am_M} {as : List Value} {h h' : am_H} {r : Option Value} (ha_z : pu_ok a = true) (hM : am_prog[a]? = some M) (hr : rn n M 0 (lv_args 0 as) [] h r h') : h' = h := by
  obtain ⟨-, hG, nc, ns, m, -, hrun⟩ := hr
  exact (rw_run (w := pu_w) (P := fun q => q = h) ⟨fun _ _ _ _ _ _ _ hb_z => absurd (show false = true from hb_z) (by decide), fun hb_z => absurd hb_z (by decide)⟩ (fun a M ha_z hM => Or.inl (pu_K ha_z hM)) m M _ _ _ h nc ns _ (pu_K ha_z hM) (fun j hj_z => pu_K ha_z hM j (List.mem_of_mem_drop hj_z)) rfl hrun).2
/-- how many breaths count at the second t -/
def ef (since last t rests : Int32) : Int32 := if rests.toInt ≤ (t - last).toInt then 0 else since
def hn_z (last b hands : Int32) : Int32 := if last = -1 ∨ last = b then 0 else hands
theorem ef_1 {s e t r : Int32} (h : r.toInt ≤ (t - e).toInt) : ef s e t r = 0 := if_pos h
theorem ef_0 {s e t r : Int32} (h : ¬ r.toInt ≤ (t - e).toInt) : ef s e t r = s := if_neg h
theorem hn_1 {l b x : Int32} (h : l = -1 ∨ l = b) : hn_z l b x = 0 := if_pos h
theorem hn_0 {l b x : Int32} (h : ¬ (l = -1 ∨ l = b)) : hn_z l b x = x := if_neg h
/-- a blower's numbers lie in their bounds -/
def bt (p : Nat) (h : am_H) : Prop := ∀ b f : Nat, b < 4 → 1 ≤ f → f < 8 → 0 ≤ (rg_v h (p + 17 + b) f).toInt ∧ (rg_v h (p + 17 + b) f).toInt ≤ 99
theorem se_62 {n : Nat} {h h' : am_H} {r : Option Value} {x : Int32} {y : Int32} {z : Int32}  (hc_z : rn n am_m62 0 (lv_args 0 [.int x, .int y, .int z]) [] h r h') : ((x.toInt < y.toInt) ∧ r = some (.int 0) ∧ h' = h) ∨ ((y.toInt ≤ x.toInt) ∧ (z.toInt < x.toInt) ∧ r = some (.int 0) ∧ h' = h) ∨ ((y.toInt ≤ x.toInt) ∧ (x.toInt ≤ z.toInt) ∧ r = some (.int 1) ∧ h' = h) := by
  have g0_z : am_get (lv_args 0 [.int x, .int y, .int z]) 0 = some (.int x) := rfl
  have g1_z : am_get (lv_args 0 [.int x, .int y, .int z]) 1 = some (.int y) := rfl
  have g2_z : am_get (lv_args 0 [.int x, .int y, .int z]) 2 = some (.int z) := rfl
  replace hc_z := rn_iload_n (am_cur_of (i := (0, 1, .iload_n 0, (0, 0, 0), 0)) (by decide +kernel)) g0_z hc_z
  replace hc_z := rn_iload_n (am_cur_of (i := (1, 1, .iload_n 1, (0, 0, 0), 0)) (by decide +kernel)) g1_z hc_z
  replace hc_z := rn_cmp (am_cur_of (i := (2, 3, .if_icmp .lt 12, (8, 0, 0), 0)) (by decide +kernel)) hc_z
  rcases hc_z with ⟨b1_z, hc_z⟩ | ⟨b1_z, hc_z⟩
  · replace b1_z : x.toInt < y.toInt := b1_z
    replace hc_z := rn_iconst (w := 0) (am_cur_of (i := (14, 1, .iconst 0, (0, 0, 0), 0)) (by decide +kernel)) (by decide) hc_z
    replace hc_z := rn_iret (am_cur_of (i := (15, 1, .ireturn, (0, 0, 0), 0)) (by decide +kernel)) hc_z
    obtain ⟨e2_z, e3_z⟩ := hc_z
    exact Or.inl ⟨b1_z, e2_z, e3_z⟩
  · replace b1_z : y.toInt ≤ x.toInt := b1_z
    replace hc_z := rn_iload_n (am_cur_of (i := (5, 1, .iload_n 0, (0, 0, 0), 0)) (by decide +kernel)) g0_z hc_z
    replace hc_z := rn_iload_n (am_cur_of (i := (6, 1, .iload_n 2, (0, 0, 0), 0)) (by decide +kernel)) g2_z hc_z
    replace hc_z := rn_cmp (am_cur_of (i := (7, 3, .if_icmp .gt 7, (8, 0, 0), 0)) (by decide +kernel)) hc_z
    rcases hc_z with ⟨b4_z, hc_z⟩ | ⟨b4_z, hc_z⟩
    · replace b4_z : z.toInt < x.toInt := b4_z
      replace hc_z := rn_iconst (w := 0) (am_cur_of (i := (14, 1, .iconst 0, (0, 0, 0), 0)) (by decide +kernel)) (by decide) hc_z
      replace hc_z := rn_iret (am_cur_of (i := (15, 1, .ireturn, (0, 0, 0), 0)) (by decide +kernel)) hc_z
      obtain ⟨e5_z, e6_z⟩ := hc_z
      exact Or.inr (Or.inl ⟨b1_z, b4_z, e5_z, e6_z⟩)
    · replace b4_z : x.toInt ≤ z.toInt := b4_z
      replace hc_z := rn_iconst (w := 1) (am_cur_of (i := (10, 1, .iconst 1, (0, 0, 0), 0)) (by decide +kernel)) (by decide) hc_z
      replace hc_z := rn_goto (am_cur_of (i := (11, 3, .goto 4, (9, 0, 0), 0)) (by decide +kernel)) hc_z
      replace hc_z := rn_iret (am_cur_of (i := (15, 1, .ireturn, (0, 0, 0), 0)) (by decide +kernel)) hc_z
      obtain ⟨e7_z, e8_z⟩ := hc_z
      exact Or.inr (Or.inr (⟨b1_z, b4_z, e7_z, e8_z⟩))
theorem se_73_2 {n : Nat} {r : Option Value} {h h' : am_H} {b t : Int32} (T : h 148 0 = .ref 2) (hc_z : rn n am_m73 0 (lv_args 0 [.ref 148, .int b, .int t]) [] h r h') : r = some (.int (ef (rg_v h 150 b.toNatClampNeg) (rg_v h 152 b.toNatClampNeg) t (rg_v h (19 + b.toNatClampNeg) 5))) := by
  have g0_z : am_get (lv_args 0 [.ref 148, .int b, .int t]) 0 = some (.ref 148) := rfl
  have g1_z : am_get (lv_args 0 [.ref 148, .int b, .int t]) 1 = some (.int b) := rfl
  have g2_z : am_get (lv_args 0 [.ref 148, .int b, .int t]) 2 = some (.int t) := rfl
  replace hc_z := rn_iload_n (am_cur_of (i := (0, 1, .iload_n 2, (0, 0, 0), 0)) (by decide +kernel)) g2_z hc_z
  replace hc_z := rn_aload_n (am_cur_of (i := (1, 1, .aload_n 0, (0, 0, 0), 0)) (by decide +kernel)) g0_z hc_z
  replace hc_z := rn_getR (x := 149) (am_cur_of (i := (2, 3, .getfield 12, (8, 1, 569), 0)) (by decide +kernel)) (by decide +kernel) hc_z
  replace hc_z := rn_getR (x := 152) (am_cur_of (i := (5, 3, .getfield 113, (5, 7, 486), 0)) (by decide +kernel)) (by decide +kernel) hc_z
  replace hc_z := rn_iload_n (am_cur_of (i := (8, 1, .iload_n 1, (0, 0, 0), 0)) (by decide +kernel)) g1_z hc_z
  replace hc_z := rn_iaload (N := 4) (q := b.toNatClampNeg) (v := rg_v h 152 b.toNatClampNeg) (am_cur_of (i := (9, 1, .iaload, (0, 0, 0), 0)) (by decide +kernel)) (by decide +kernel) rfl rfl hc_z
  obtain ⟨p9_z, hc_z⟩ := hc_z
  replace hc_z := rn_isub (w := t - (rg_v h 152 b.toNatClampNeg)) (am_cur_of (i := (10, 1, .isub, (0, 0, 0), 0)) (by decide +kernel)) rfl hc_z
  replace hc_z := rn_aload_n (am_cur_of (i := (11, 1, .aload_n 0, (0, 0, 0), 0)) (by decide +kernel)) g0_z hc_z
  replace hc_z := rn_getM (x := 2) (am_cur_of (i := (12, 3, .getfield 18, (8, 0, 566), 0)) (by decide +kernel)) T hc_z
  replace hc_z := rn_getR (x := 3) (am_cur_of (i := (15, 3, .getfield 116, (1, 3, 263), 0)) (by decide +kernel)) (by decide +kernel) hc_z
  replace hc_z := rn_iload_n (am_cur_of (i := (18, 1, .iload_n 1, (0, 0, 0), 0)) (by decide +kernel)) g1_z hc_z
  replace hc_z := rn_aaload (s := "AirBed$Blower") (N := 4) (q := b.toNatClampNeg) (am_cur_of (i := (19, 1, .aaload, (0, 0, 0), 0)) (by decide +kernel)) (by decide +kernel) rfl hc_z
  obtain ⟨p10_z, hc_z⟩ := hc_z
  rw [rp_bc2 (rn_G hc_z) p10_z.2] at hc_z
  replace hc_z := rn_getI (v := rg_v h (19 + b.toNatClampNeg) 5) (am_cur_of (i := (20, 3, .getfield 120, (3, 5, 217), 0)) (by decide +kernel)) (rp_bf2 _ p10_z.2 5 (by decide)) rfl hc_z
  replace hc_z := rn_cmp (am_cur_of (i := (23, 3, .if_icmp .lt 7, (16, 0, 0), 0)) (by decide +kernel)) hc_z
  rcases hc_z with ⟨b11_z, hc_z⟩ | ⟨b11_z, hc_z⟩
  · replace b11_z : (t - (rg_v h 152 b.toNatClampNeg)).toInt < (rg_v h (19 + b.toNatClampNeg) 5).toInt := b11_z
    replace hc_z := rn_iconst (w := 0) (am_cur_of (i := (30, 1, .iconst 0, (0, 0, 0), 0)) (by decide +kernel)) (by decide) hc_z
    replace hc_z := rn_istore_n (am_cur_of (i := (31, 1, .istore_n 3, (0, 0, 0), 0)) (by decide +kernel)) hc_z
    obtain ⟨_, s12_z, s13_z, g3_z, hc_z⟩ := hc_z
    replace g0_z := s12_z 0 _ (by decide) rfl g0_z
    replace g1_z := s12_z 1 _ (by decide) rfl g1_z
    replace g2_z := s12_z 2 _ (by decide) rfl g2_z
    clear s12_z s13_z
    replace hc_z := rn_iload_n (am_cur_of (i := (32, 1, .iload_n 3, (0, 0, 0), 0)) (by decide +kernel)) g3_z hc_z
    replace hc_z := rn_ifT (am_cur_of (i := (33, 3, .ifCond .eq 7, (22, 0, 0), 0)) (by decide +kernel)) (by decide) hc_z
    replace hc_z := rn_aload_n (am_cur_of (i := (40, 1, .aload_n 0, (0, 0, 0), 0)) (by decide +kernel)) g0_z hc_z
    replace hc_z := rn_getR (x := 149) (am_cur_of (i := (41, 3, .getfield 12, (8, 1, 569), 0)) (by decide +kernel)) (by decide +kernel) hc_z
    replace hc_z := rn_getR (x := 150) (am_cur_of (i := (44, 3, .getfield 125, (5, 5, 481), 0)) (by decide +kernel)) (by decide +kernel) hc_z
    replace hc_z := rn_iload_n (am_cur_of (i := (47, 1, .iload_n 1, (0, 0, 0), 0)) (by decide +kernel)) g1_z hc_z
    replace hc_z := rn_iaload (N := 4) (q := b.toNatClampNeg) (v := rg_v h 150 b.toNatClampNeg) (am_cur_of (i := (48, 1, .iaload, (0, 0, 0), 0)) (by decide +kernel)) (by decide +kernel) rfl rfl hc_z
    obtain ⟨p14_z, hc_z⟩ := hc_z
    replace hc_z := rn_iret (am_cur_of (i := (49, 1, .ireturn, (0, 0, 0), 0)) (by decide +kernel)) hc_z
    obtain ⟨e15_z, e16_z⟩ := hc_z
    exact e15_z.trans (congrArg (fun q => some (Value.int q)) (ef_0 (by omega)).symm)
  · replace b11_z : (rg_v h (19 + b.toNatClampNeg) 5).toInt ≤ (t - (rg_v h 152 b.toNatClampNeg)).toInt := b11_z
    replace hc_z := rn_iconst (w := 1) (am_cur_of (i := (26, 1, .iconst 1, (0, 0, 0), 0)) (by decide +kernel)) (by decide) hc_z
    replace hc_z := rn_goto (am_cur_of (i := (27, 3, .goto 4, (17, 0, 0), 0)) (by decide +kernel)) hc_z
    replace hc_z := rn_istore_n (am_cur_of (i := (31, 1, .istore_n 3, (0, 0, 0), 0)) (by decide +kernel)) hc_z
    obtain ⟨_, s17_z, s18_z, g3_z, hc_z⟩ := hc_z
    replace g0_z := s17_z 0 _ (by decide) rfl g0_z
    replace g1_z := s17_z 1 _ (by decide) rfl g1_z
    replace g2_z := s17_z 2 _ (by decide) rfl g2_z
    clear s17_z s18_z
    replace hc_z := rn_iload_n (am_cur_of (i := (32, 1, .iload_n 3, (0, 0, 0), 0)) (by decide +kernel)) g3_z hc_z
    replace hc_z := rn_ifF (am_cur_of (i := (33, 3, .ifCond .eq 7, (22, 0, 0), 0)) (by decide +kernel)) (by decide) hc_z
    replace hc_z := rn_iconst (w := 0) (am_cur_of (i := (36, 1, .iconst 0, (0, 0, 0), 0)) (by decide +kernel)) (by decide) hc_z
    replace hc_z := rn_goto (am_cur_of (i := (37, 3, .goto 12, (27, 0, 0), 0)) (by decide +kernel)) hc_z
    replace hc_z := rn_iret (am_cur_of (i := (49, 1, .ireturn, (0, 0, 0), 0)) (by decide +kernel)) hc_z
    obtain ⟨e19_z, e20_z⟩ := hc_z
    exact e19_z.trans (congrArg (fun q => some (Value.int q)) (ef_1 (by omega)).symm)
theorem se_78_2 {n : Nat} {r : Option Value} {h h' : am_H} {b : Int32} (T : h 148 0 = .ref 2) (hc_z : rn n am_m78 0 (lv_args 0 [.ref 148, .int b]) [] h r h') : r = some (.int (ef (rg_v h 150 b.toNatClampNeg) (rg_v h 152 b.toNatClampNeg) (rg_v h 149 1) (rg_v h (19 + b.toNatClampNeg) 5))) := by
  have g0_z : am_get (lv_args 0 [.ref 148, .int b]) 0 = some (.ref 148) := rfl
  have g1_z : am_get (lv_args 0 [.ref 148, .int b]) 1 = some (.int b) := rfl
  replace hc_z := rn_aload_n (am_cur_of (i := (0, 1, .aload_n 0, (0, 0, 0), 0)) (by decide +kernel)) g0_z hc_z
  replace hc_z := rn_iload_n (am_cur_of (i := (1, 1, .iload_n 1, (0, 0, 0), 0)) (by decide +kernel)) g1_z hc_z
  replace hc_z := rn_aload_n (am_cur_of (i := (2, 1, .aload_n 0, (0, 0, 0), 0)) (by decide +kernel)) g0_z hc_z
  replace hc_z := rn_getR (x := 149) (am_cur_of (i := (3, 3, .getfield 12, (8, 1, 569), 0)) (by decide +kernel)) (by decide +kernel) hc_z
  replace hc_z := rn_getI (v := rg_v h 149 1) (am_cur_of (i := (6, 3, .getfield 59, (5, 1, 470), 0)) (by decide +kernel)) (by decide +kernel) rfl hc_z
  replace hc_z := rn_callV (M' := am_m73) (o := 148) (ar := [.int (rg_v h 149 1), .int b]) (rest := []) (L := lv_args 0 [.ref 148, .int b, .int (rg_v h 149 1)]) (am_cur_of (i := (9, 3, .invokevirtual 110, (73, 955, 3), 0)) (by decide +kernel)) rfl rfl rfl rfl hc_z
  obtain ⟨r21_z, h22_z, q23_z, hc_z⟩ := hc_z
  have y25_z := pu_of (a := 73) (by decide) rfl q23_z
  have e24_z := se_73_2 T q23_z
  replace y25_z := y25_z.symm
  subst y25_z
  subst e24_z
  replace hc_z : rn _ _ _ _ [.int (ef (rg_v h 150 b.toNatClampNeg) (rg_v h 152 b.toNatClampNeg) (rg_v h 149 1) (rg_v h (19 + b.toNatClampNeg) 5))] _ _ _ := hc_z
  replace hc_z := rn_iret (am_cur_of (i := (12, 1, .ireturn, (0, 0, 0), 0)) (by decide +kernel)) hc_z
  obtain ⟨e26_z, e27_z⟩ := hc_z
  exact e26_z
theorem se_72_2 {n : Nat} {r : Option Value} {h h' : am_H} {b : Int32} (T : h 148 0 = .ref 2) (hc_z : rn n am_m72 0 (lv_args 0 [.ref 148, .int b]) [] h r h') : r = some (.int (hn_z (rg_v h 149 2) b (rg_v h (19 + b.toNatClampNeg) 6))) := by
  have zm1_z : ((-1) : Int32).toInt = (-1) := by decide
  have g0_z : am_get (lv_args 0 [.ref 148, .int b]) 0 = some (.ref 148) := rfl
  have g1_z : am_get (lv_args 0 [.ref 148, .int b]) 1 = some (.int b) := rfl
  replace hc_z := rn_aload_n (am_cur_of (i := (0, 1, .aload_n 0, (0, 0, 0), 0)) (by decide +kernel)) g0_z hc_z
  replace hc_z := rn_getR (x := 149) (am_cur_of (i := (1, 3, .getfield 12, (8, 1, 569), 0)) (by decide +kernel)) (by decide +kernel) hc_z
  replace hc_z := rn_getI (v := rg_v h 149 2) (am_cur_of (i := (4, 3, .getfield 137, (5, 2, 474), 0)) (by decide +kernel)) (by decide +kernel) rfl hc_z
  replace hc_z := rn_iconst (w := (-1)) (am_cur_of (i := (7, 1, .iconst (-1), (0, 0, 0), 0)) (by decide +kernel)) (by decide) hc_z
  replace hc_z := rn_cmp (am_cur_of (i := (8, 3, .if_icmp .eq 14, (10, 0, 0), 0)) (by decide +kernel)) hc_z
  rcases hc_z with ⟨b28_z, hc_z⟩ | ⟨b28_z, hc_z⟩
  · replace b28_z : (rg_v h 149 2) = ((-1) : Int32) ∧ (rg_v h 149 2).toInt = ((-1) : Int32).toInt := b28_z
    replace hc_z := rn_iconst (w := 0) (am_cur_of (i := (22, 1, .iconst 0, (0, 0, 0), 0)) (by decide +kernel)) (by decide) hc_z
    replace hc_z := rn_goto (am_cur_of (i := (23, 3, .goto 15, (18, 0, 0), 0)) (by decide +kernel)) hc_z
    replace hc_z := rn_iret (am_cur_of (i := (38, 1, .ireturn, (0, 0, 0), 0)) (by decide +kernel)) hc_z
    obtain ⟨e29_z, e30_z⟩ := hc_z
    exact e29_z.trans (congrArg (fun q => some (Value.int q)) (hn_1 (Or.inl b28_z.1)).symm)
  · replace b28_z : ¬ (rg_v h 149 2) = ((-1) : Int32) ∧ ¬ (rg_v h 149 2).toInt = ((-1) : Int32).toInt := b28_z
    replace hc_z := rn_aload_n (am_cur_of (i := (11, 1, .aload_n 0, (0, 0, 0), 0)) (by decide +kernel)) g0_z hc_z
    replace hc_z := rn_getR (x := 149) (am_cur_of (i := (12, 3, .getfield 12, (8, 1, 569), 0)) (by decide +kernel)) (by decide +kernel) hc_z
    replace hc_z := rn_getI (v := rg_v h 149 2) (am_cur_of (i := (15, 3, .getfield 137, (5, 2, 474), 0)) (by decide +kernel)) (by decide +kernel) rfl hc_z
    replace hc_z := rn_iload_n (am_cur_of (i := (18, 1, .iload_n 1, (0, 0, 0), 0)) (by decide +kernel)) g1_z hc_z
    replace hc_z := rn_cmp (am_cur_of (i := (19, 3, .if_icmp .ne 7, (12, 0, 0), 0)) (by decide +kernel)) hc_z
    rcases hc_z with ⟨b31_z, hc_z⟩ | ⟨b31_z, hc_z⟩
    · replace b31_z : ¬ (rg_v h 149 2) = b ∧ ¬ (rg_v h 149 2).toInt = b.toInt := b31_z
      replace hc_z := rn_aload_n (am_cur_of (i := (26, 1, .aload_n 0, (0, 0, 0), 0)) (by decide +kernel)) g0_z hc_z
      replace hc_z := rn_getM (x := 2) (am_cur_of (i := (27, 3, .getfield 18, (8, 0, 566), 0)) (by decide +kernel)) T hc_z
      replace hc_z := rn_getR (x := 3) (am_cur_of (i := (30, 3, .getfield 116, (1, 3, 263), 0)) (by decide +kernel)) (by decide +kernel) hc_z
      replace hc_z := rn_iload_n (am_cur_of (i := (33, 1, .iload_n 1, (0, 0, 0), 0)) (by decide +kernel)) g1_z hc_z
      replace hc_z := rn_aaload (s := "AirBed$Blower") (N := 4) (q := b.toNatClampNeg) (am_cur_of (i := (34, 1, .aaload, (0, 0, 0), 0)) (by decide +kernel)) (by decide +kernel) rfl hc_z
      obtain ⟨p32_z, hc_z⟩ := hc_z
      rw [rp_bc2 (rn_G hc_z) p32_z.2] at hc_z
      replace hc_z := rn_getI (v := rg_v h (19 + b.toNatClampNeg) 6) (am_cur_of (i := (35, 3, .getfield 140, (3, 6, 219), 0)) (by decide +kernel)) (rp_bf2 _ p32_z.2 6 (by decide)) rfl hc_z
      replace hc_z := rn_iret (am_cur_of (i := (38, 1, .ireturn, (0, 0, 0), 0)) (by decide +kernel)) hc_z
      obtain ⟨e33_z, e34_z⟩ := hc_z
      exact e33_z.trans (congrArg (fun q => some (Value.int q)) (hn_0 (fun q => q.elim b28_z.1 b31_z.1)).symm)
    · replace b31_z : (rg_v h 149 2) = b ∧ (rg_v h 149 2).toInt = b.toInt := b31_z
      replace hc_z := rn_iconst (w := 0) (am_cur_of (i := (22, 1, .iconst 0, (0, 0, 0), 0)) (by decide +kernel)) (by decide) hc_z
      replace hc_z := rn_goto (am_cur_of (i := (23, 3, .goto 15, (18, 0, 0), 0)) (by decide +kernel)) hc_z
      replace hc_z := rn_iret (am_cur_of (i := (38, 1, .ireturn, (0, 0, 0), 0)) (by decide +kernel)) hc_z
      obtain ⟨e35_z, e36_z⟩ := hc_z
      exact e35_z.trans (congrArg (fun q => some (Value.int q)) (hn_1 (Or.inr b31_z.1)).symm)
theorem se_71_2 {n : Nat} {r : Option Value} {h h' : am_H} {b m : Int32} (T : h 148 0 = .ref 2) (hc_z : rn n am_m71 0 (lv_args 0 [.ref 148, .int b, .int m]) [] h r h') : ∃ v : Int32, r = some (.int v) ∧ ((v = 1 ∧ 0 < (rg_v h (19 + b.toNatClampNeg) 5).toInt ∧ (rg_v h (19 + b.toNatClampNeg) 3).toInt < (ef (rg_v h 150 b.toNatClampNeg) (rg_v h 152 b.toNatClampNeg) (rg_v h 149 1 + hn_z (rg_v h 149 2) b (rg_v h (19 + b.toNatClampNeg) 6)) (rg_v h (19 + b.toNatClampNeg) 5) + m).toInt) ∨ (v = 0 ∧ ¬ (0 < (rg_v h (19 + b.toNatClampNeg) 5).toInt ∧ (rg_v h (19 + b.toNatClampNeg) 3).toInt < (ef (rg_v h 150 b.toNatClampNeg) (rg_v h 152 b.toNatClampNeg) (rg_v h 149 1 + hn_z (rg_v h 149 2) b (rg_v h (19 + b.toNatClampNeg) 6)) (rg_v h (19 + b.toNatClampNeg) 5) + m).toInt))) := by
  have z0_z : (0 : Int32).toInt = 0 := by decide
  have g0_z : am_get (lv_args 0 [.ref 148, .int b, .int m]) 0 = some (.ref 148) := rfl
  have g1_z : am_get (lv_args 0 [.ref 148, .int b, .int m]) 1 = some (.int b) := rfl
  have g2_z : am_get (lv_args 0 [.ref 148, .int b, .int m]) 2 = some (.int m) := rfl
  replace hc_z := rn_aload_n (am_cur_of (i := (0, 1, .aload_n 0, (0, 0, 0), 0)) (by decide +kernel)) g0_z hc_z
  replace hc_z := rn_getM (x := 2) (am_cur_of (i := (1, 3, .getfield 18, (8, 0, 566), 0)) (by decide +kernel)) T hc_z
  replace hc_z := rn_getR (x := 3) (am_cur_of (i := (4, 3, .getfield 116, (1, 3, 263), 0)) (by decide +kernel)) (by decide +kernel) hc_z
  replace hc_z := rn_iload_n (am_cur_of (i := (7, 1, .iload_n 1, (0, 0, 0), 0)) (by decide +kernel)) g1_z hc_z
  replace hc_z := rn_aaload (s := "AirBed$Blower") (N := 4) (q := b.toNatClampNeg) (am_cur_of (i := (8, 1, .aaload, (0, 0, 0), 0)) (by decide +kernel)) (by decide +kernel) rfl hc_z
  obtain ⟨p37_z, hc_z⟩ := hc_z
  rw [rp_bc2 (rn_G hc_z) p37_z.2] at hc_z
  replace hc_z := rn_astore_n (am_cur_of (i := (9, 1, .astore_n 3, (0, 0, 0), 0)) (by decide +kernel)) hc_z
  obtain ⟨_, s38_z, s39_z, g3_z, hc_z⟩ := hc_z
  replace g0_z := s38_z 0 _ (by decide) rfl g0_z
  replace g1_z := s38_z 1 _ (by decide) rfl g1_z
  replace g2_z := s38_z 2 _ (by decide) rfl g2_z
  clear s38_z s39_z
  replace hc_z := rn_aload_n (am_cur_of (i := (10, 1, .aload_n 0, (0, 0, 0), 0)) (by decide +kernel)) g0_z hc_z
  replace hc_z := rn_iload_n (am_cur_of (i := (11, 1, .iload_n 1, (0, 0, 0), 0)) (by decide +kernel)) g1_z hc_z
  replace hc_z := rn_aload_n (am_cur_of (i := (12, 1, .aload_n 0, (0, 0, 0), 0)) (by decide +kernel)) g0_z hc_z
  replace hc_z := rn_getR (x := 149) (am_cur_of (i := (13, 3, .getfield 12, (8, 1, 569), 0)) (by decide +kernel)) (by decide +kernel) hc_z
  replace hc_z := rn_getI (v := rg_v h 149 1) (am_cur_of (i := (16, 3, .getfield 59, (5, 1, 470), 0)) (by decide +kernel)) (by decide +kernel) rfl hc_z
  replace hc_z := rn_aload_n (am_cur_of (i := (19, 1, .aload_n 0, (0, 0, 0), 0)) (by decide +kernel)) g0_z hc_z
  replace hc_z := rn_iload_n (am_cur_of (i := (20, 1, .iload_n 1, (0, 0, 0), 0)) (by decide +kernel)) g1_z hc_z
  replace hc_z := rn_callV (M' := am_m72) (o := 148) (ar := [.int b]) (rest := [.int (rg_v h 149 1), .int b, .ref 148]) (L := lv_args 0 [.ref 148, .int b]) (am_cur_of (i := (21, 3, .invokevirtual 143, (72, 951, 3), 0)) (by decide +kernel)) rfl rfl rfl rfl hc_z
  obtain ⟨r40_z, h41_z, q42_z, hc_z⟩ := hc_z
  have y44_z := pu_of (a := 72) (by decide) rfl q42_z
  have e43_z := se_72_2 T q42_z
  replace y44_z := y44_z.symm
  subst y44_z
  subst e43_z
  replace hc_z : rn _ _ _ _ [.int (hn_z (rg_v h 149 2) b (rg_v h (19 + b.toNatClampNeg) 6)), .int (rg_v h 149 1), .int b, .ref 148] _ _ _ := hc_z
  replace hc_z := rn_iadd (w := (rg_v h 149 1) + (hn_z (rg_v h 149 2) b (rg_v h (19 + b.toNatClampNeg) 6))) (am_cur_of (i := (24, 1, .iadd, (0, 0, 0), 0)) (by decide +kernel)) rfl hc_z
  replace hc_z := rn_callV (M' := am_m73) (o := 148) (ar := [.int ((rg_v h 149 1) + (hn_z (rg_v h 149 2) b (rg_v h (19 + b.toNatClampNeg) 6))), .int b]) (rest := []) (L := lv_args 0 [.ref 148, .int b, .int ((rg_v h 149 1) + (hn_z (rg_v h 149 2) b (rg_v h (19 + b.toNatClampNeg) 6)))]) (am_cur_of (i := (25, 3, .invokevirtual 110, (73, 955, 3), 0)) (by decide +kernel)) rfl rfl rfl rfl hc_z
  obtain ⟨r45_z, h46_z, q47_z, hc_z⟩ := hc_z
  have y49_z := pu_of (a := 73) (by decide) rfl q47_z
  have e48_z := se_73_2 T q47_z
  replace y49_z := y49_z.symm
  subst y49_z
  subst e48_z
  replace hc_z : rn _ _ _ _ [.int (ef (rg_v h 150 b.toNatClampNeg) (rg_v h 152 b.toNatClampNeg) ((rg_v h 149 1) + (hn_z (rg_v h 149 2) b (rg_v h (19 + b.toNatClampNeg) 6))) (rg_v h (19 + b.toNatClampNeg) 5))] _ _ _ := hc_z
  replace hc_z := rn_istore (am_cur_of (i := (28, 2, .istore 4, (0, 0, 0), 0)) (by decide +kernel)) hc_z
  obtain ⟨_, s50_z, s51_z, g4_z, hc_z⟩ := hc_z
  replace g0_z := s50_z 0 _ (by decide) rfl g0_z
  replace g1_z := s50_z 1 _ (by decide) rfl g1_z
  replace g2_z := s50_z 2 _ (by decide) rfl g2_z
  replace g3_z := s50_z 3 _ (by decide) rfl g3_z
  clear s50_z s51_z
  replace hc_z := rn_aload_n (am_cur_of (i := (30, 1, .aload_n 3, (0, 0, 0), 0)) (by decide +kernel)) g3_z hc_z
  replace hc_z := rn_getI (v := rg_v h (19 + b.toNatClampNeg) 5) (am_cur_of (i := (31, 3, .getfield 120, (3, 5, 217), 0)) (by decide +kernel)) (rp_bf2 _ p37_z.2 5 (by decide)) rfl hc_z
  replace hc_z := rn_if (am_cur_of (i := (34, 3, .ifCond .le 18, (28, 0, 0), 0)) (by decide +kernel)) hc_z
  rcases hc_z with ⟨b52_z, hc_z⟩ | ⟨b52_z, hc_z⟩
  · replace b52_z : (rg_v h (19 + b.toNatClampNeg) 5).toInt ≤ (0 : Int32).toInt := b52_z
    replace hc_z := rn_iconst (w := 0) (am_cur_of (i := (52, 1, .iconst 0, (0, 0, 0), 0)) (by decide +kernel)) (by decide) hc_z
    replace hc_z := rn_iret (am_cur_of (i := (53, 1, .ireturn, (0, 0, 0), 0)) (by decide +kernel)) hc_z
    obtain ⟨e53_z, e54_z⟩ := hc_z
    exact ⟨_, e53_z, Or.inr ⟨rfl, by omega⟩⟩
  · replace b52_z : (0 : Int32).toInt < (rg_v h (19 + b.toNatClampNeg) 5).toInt := b52_z
    replace hc_z := rn_iload (am_cur_of (i := (37, 2, .iload 4, (0, 0, 0), 0)) (by decide +kernel)) g4_z hc_z
    replace hc_z := rn_iload_n (am_cur_of (i := (39, 1, .iload_n 2, (0, 0, 0), 0)) (by decide +kernel)) g2_z hc_z
    replace hc_z := rn_iadd (w := (ef (rg_v h 150 b.toNatClampNeg) (rg_v h 152 b.toNatClampNeg) ((rg_v h 149 1) + (hn_z (rg_v h 149 2) b (rg_v h (19 + b.toNatClampNeg) 6))) (rg_v h (19 + b.toNatClampNeg) 5)) + m) (am_cur_of (i := (40, 1, .iadd, (0, 0, 0), 0)) (by decide +kernel)) rfl hc_z
    replace hc_z := rn_aload_n (am_cur_of (i := (41, 1, .aload_n 3, (0, 0, 0), 0)) (by decide +kernel)) g3_z hc_z
    replace hc_z := rn_getI (v := rg_v h (19 + b.toNatClampNeg) 3) (am_cur_of (i := (42, 3, .getfield 134, (3, 3, 210), 0)) (by decide +kernel)) (rp_bf2 _ p37_z.2 3 (by decide)) rfl hc_z
    replace hc_z := rn_cmp (am_cur_of (i := (45, 3, .if_icmp .le 7, (28, 0, 0), 0)) (by decide +kernel)) hc_z
    rcases hc_z with ⟨b55_z, hc_z⟩ | ⟨b55_z, hc_z⟩
    · replace b55_z : ((ef (rg_v h 150 b.toNatClampNeg) (rg_v h 152 b.toNatClampNeg) ((rg_v h 149 1) + (hn_z (rg_v h 149 2) b (rg_v h (19 + b.toNatClampNeg) 6))) (rg_v h (19 + b.toNatClampNeg) 5)) + m).toInt ≤ (rg_v h (19 + b.toNatClampNeg) 3).toInt := b55_z
      replace hc_z := rn_iconst (w := 0) (am_cur_of (i := (52, 1, .iconst 0, (0, 0, 0), 0)) (by decide +kernel)) (by decide) hc_z
      replace hc_z := rn_iret (am_cur_of (i := (53, 1, .ireturn, (0, 0, 0), 0)) (by decide +kernel)) hc_z
      obtain ⟨e56_z, e57_z⟩ := hc_z
      exact ⟨_, e56_z, Or.inr ⟨rfl, by omega⟩⟩
    · replace b55_z : (rg_v h (19 + b.toNatClampNeg) 3).toInt < ((ef (rg_v h 150 b.toNatClampNeg) (rg_v h 152 b.toNatClampNeg) ((rg_v h 149 1) + (hn_z (rg_v h 149 2) b (rg_v h (19 + b.toNatClampNeg) 6))) (rg_v h (19 + b.toNatClampNeg) 5)) + m).toInt := b55_z
      replace hc_z := rn_iconst (w := 1) (am_cur_of (i := (48, 1, .iconst 1, (0, 0, 0), 0)) (by decide +kernel)) (by decide) hc_z
      replace hc_z := rn_goto (am_cur_of (i := (49, 3, .goto 4, (29, 0, 0), 0)) (by decide +kernel)) hc_z
      replace hc_z := rn_iret (am_cur_of (i := (53, 1, .ireturn, (0, 0, 0), 0)) (by decide +kernel)) hc_z
      obtain ⟨e58_z, e59_z⟩ := hc_z
      exact ⟨_, e58_z, Or.inl ⟨rfl, by omega⟩⟩
theorem se_63_2 {n : Nat} {r : Option Value} {h h' : am_H} (hc_z : rn n am_m63 0 (lv_args 0 [.ref 148, .ref 2, .ref 48]) [] h r h') : h' 148 0 = .ref 2 ∧ rg_v h' 148 5 = 2147483647 ∧ rg_v h' 148 2 = rg_v h 2 18 ∧ rg_v h' 148 3 = 0 ∧ rg_v h' 148 4 = 0 ∧ (∀ j, j < 17 → cS_z h' 149 j = cS_z h 48 j) ∧ ∀ o k, ¬ (148 ≤ o ∧ o ≤ 152) → h' o k = h o k := by
  have g0_z : am_get (lv_args 0 [.ref 148, .ref 2, .ref 48]) 0 = some (.ref 148) := rfl
  have g1_z : am_get (lv_args 0 [.ref 148, .ref 2, .ref 48]) 1 = some (.ref 2) := rfl
  have g2_z : am_get (lv_args 0 [.ref 148, .ref 2, .ref 48]) 2 = some (.ref 48) := rfl
  replace hc_z := rn_aload_n (am_cur_of (i := (0, 1, .aload_n 0, (0, 0, 0), 0)) (by decide +kernel)) g0_z hc_z
  replace hc_z := rn_aload_n (am_cur_of (i := (1, 1, .aload_n 1, (0, 0, 0), 0)) (by decide +kernel)) g1_z hc_z
  replace hc_z := rn_put (am_cur_of (i := (2, 3, .putfield 18, (8, 0, 566), 0)) (by decide +kernel)) (by decide +kernel) hc_z
  replace hc_z := rn_aload_n (am_cur_of (i := (5, 1, .aload_n 0, (0, 0, 0), 0)) (by decide +kernel)) g0_z hc_z
  replace hc_z := rn_getR (x := 149) (am_cur_of (i := (6, 3, .getfield 12, (8, 1, 569), 0)) (by decide +kernel)) (by decide +kernel) hc_z
  replace hc_z := rn_aload_n (am_cur_of (i := (9, 1, .aload_n 2, (0, 0, 0), 0)) (by decide +kernel)) g2_z hc_z
  replace hc_z := rn_callV (M' := am_m64) (o := 149) (ar := [.ref 48]) (rest := []) (L := lv_args 0 [.ref 149, .ref 48]) (am_cur_of (i := (10, 3, .invokevirtual 22, (64, 916, 3), 0)) (by decide +kernel)) rfl rfl rfl rfl hc_z
  obtain ⟨r60_z, h61_z, q62_z, hc_z⟩ := hc_z
  have vo := rn_void rfl q62_z
  subst vo
  obtain ⟨c1_z, c2_z⟩ := cp_64 st_149 st_48 (by omega) q62_z
  replace hc_z : rn _ _ _ _ [] _ _ _ := hc_z
  replace hc_z := rn_aload_n (am_cur_of (i := (13, 1, .aload_n 0, (0, 0, 0), 0)) (by decide +kernel)) g0_z hc_z
  replace hc_z := rn_aload_n (am_cur_of (i := (14, 1, .aload_n 1, (0, 0, 0), 0)) (by decide +kernel)) g1_z hc_z
  replace hc_z := rn_getI (v := rg_v h61_z 2 18) (am_cur_of (i := (15, 3, .getfield 26, (1, 18, 311), 0)) (by decide +kernel)) (by decide +kernel) rfl hc_z
  replace hc_z := rn_put (am_cur_of (i := (18, 3, .putfield 32, (8, 2, 573), 0)) (by decide +kernel)) (by decide +kernel) hc_z
  replace hc_z := rn_aload_n (am_cur_of (i := (21, 1, .aload_n 0, (0, 0, 0), 0)) (by decide +kernel)) g0_z hc_z
  replace hc_z := rn_iconst (w := 0) (am_cur_of (i := (22, 1, .iconst 0, (0, 0, 0), 0)) (by decide +kernel)) (by decide) hc_z
  replace hc_z := rn_put (am_cur_of (i := (23, 3, .putfield 33, (8, 3, 575), 0)) (by decide +kernel)) (by decide +kernel) hc_z
  replace hc_z := rn_aload_n (am_cur_of (i := (26, 1, .aload_n 0, (0, 0, 0), 0)) (by decide +kernel)) g0_z hc_z
  replace hc_z := rn_iconst (w := 0) (am_cur_of (i := (27, 1, .iconst 0, (0, 0, 0), 0)) (by decide +kernel)) (by decide) hc_z
  replace hc_z := rn_put (am_cur_of (i := (28, 3, .putfield 37, (8, 4, 577), 0)) (by decide +kernel)) (by decide +kernel) hc_z
  replace hc_z := rn_aload_n (am_cur_of (i := (31, 1, .aload_n 0, (0, 0, 0), 0)) (by decide +kernel)) g0_z hc_z
  replace hc_z := rn_ldc (w := 2147483647) (am_cur_of (i := (32, 2, .ldc 42, (0, 0, 920), 2147483647)) (by decide +kernel)) (by decide) hc_z
  replace hc_z := rn_put (am_cur_of (i := (34, 3, .putfield 43, (8, 5, 580), 0)) (by decide +kernel)) (by decide +kernel) hc_z
  replace hc_z := rn_aload_n (am_cur_of (i := (37, 1, .aload_n 0, (0, 0, 0), 0)) (by decide +kernel)) g0_z hc_z
  replace hc_z := rn_ldc (w := 2147483647) (am_cur_of (i := (38, 2, .ldc 42, (0, 0, 920), 2147483647)) (by decide +kernel)) (by decide) hc_z
  replace hc_z := rn_put (am_cur_of (i := (40, 3, .putfield 46, (8, 6, 581), 0)) (by decide +kernel)) (by decide +kernel) hc_z
  replace hc_z := rn_vret (am_cur_of (i := (43, 1, .return_, (0, 0, 0), 0)) (by decide +kernel)) hc_z
  obtain ⟨e63_z, e64_z⟩ := hc_z
  refine ⟨?_, ?_, ?_, ?_, ?_, fun j hj_z => ?_, fun o k ho => ?_⟩
  · rw [e64_z]
    exact (up_ne (by omega)).trans ((up_ne (by omega)).trans ((up_ne (by omega)).trans ((up_ne (by omega)).trans ((up_ne (by omega)).trans ((c2_z 148 0 (by omega)).trans (am_up_self _ _ _ _))))))
  · rw [e64_z]
    exact (rg_v_other (by omega)).trans rg_v_self
  · rw [e64_z]
    refine ((rg_v_other (by omega)).trans ((rg_v_other (by omega)).trans ((rg_v_other (by omega)).trans ((rg_v_other (by omega)).trans (rg_v_self))))).trans ?_
    unfold rg_v
    rw [c2_z 2 18 (by omega), up_ne (by omega)]
  · rw [e64_z]
    exact (rg_v_other (by omega)).trans ((rg_v_other (by omega)).trans ((rg_v_other (by omega)).trans rg_v_self))
  · rw [e64_z]
    exact (rg_v_other (by omega)).trans ((rg_v_other (by omega)).trans rg_v_self)
  · rw [e64_z]
    refine Eq.trans (cS_e (fun o k p1_z p2_z => (up_ne (by omega)).trans ((up_ne (by omega)).trans ((up_ne (by omega)).trans ((up_ne (by omega)).trans (up_ne (by omega)))))) j) ((c1_z j hj_z).trans ?_)
    exact cS_e (fun o k p1_z p2_z => up_ne (by omega)) j
  · rw [e64_z]
    exact (up_ne (by omega)).trans ((up_ne (by omega)).trans ((up_ne (by omega)).trans ((up_ne (by omega)).trans ((up_ne (by omega)).trans ((c2_z o k (by omega)).trans (up_ne (by omega)))))))
theorem se_74_2 {n : Nat} {r : Option Value} {h h' : am_H} {b : Int32} (T : h 148 0 = .ref 2) (el : rg_v h 148 5 = 2147483647) (s0_z : 0 ≤ (rg_v h 149 1).toInt) (m0_z : 0 ≤ (hn_z (rg_v h 149 2) b (rg_v h (19 + b.toNatClampNeg) 6)).toInt) (sm : (rg_v h 149 1).toInt + (hn_z (rg_v h 149 2) b (rg_v h (19 + b.toNatClampNeg) 6)).toInt < 2147483647) (hc_z : rn n am_m74 0 (lv_args 0 [.ref 148, .int b]) [] h r h') : (rg_v h' 149 1).toInt = (rg_v h 149 1).toInt + (hn_z (rg_v h 149 2) b (rg_v h (19 + b.toNatClampNeg) 6)).toInt ∧ gk h h' := by
  have g0_z : am_get (lv_args 0 [.ref 148, .int b]) 0 = some (.ref 148) := rfl
  have g1_z : am_get (lv_args 0 [.ref 148, .int b]) 1 = some (.int b) := rfl
  replace hc_z := rn_aload_n (am_cur_of (i := (0, 1, .aload_n 0, (0, 0, 0), 0)) (by decide +kernel)) g0_z hc_z
  replace hc_z := rn_aload_n (am_cur_of (i := (1, 1, .aload_n 0, (0, 0, 0), 0)) (by decide +kernel)) g0_z hc_z
  replace hc_z := rn_iload_n (am_cur_of (i := (2, 1, .iload_n 1, (0, 0, 0), 0)) (by decide +kernel)) g1_z hc_z
  replace hc_z := rn_callV (M' := am_m72) (o := 148) (ar := [.int b]) (rest := [.ref 148]) (L := lv_args 0 [.ref 148, .int b]) (am_cur_of (i := (3, 3, .invokevirtual 143, (72, 951, 3), 0)) (by decide +kernel)) rfl rfl rfl rfl hc_z
  obtain ⟨r65_z, h66_z, q67_z, hc_z⟩ := hc_z
  have y69_z := pu_of (a := 72) (by decide) rfl q67_z
  have e68_z := se_72_2 T q67_z
  replace y69_z := y69_z.symm
  subst y69_z
  subst e68_z
  replace hc_z : rn _ _ _ _ [.int (hn_z (rg_v h 149 2) b (rg_v h (19 + b.toNatClampNeg) 6)), .ref 148] _ _ _ := hc_z
  replace hc_z := rn_iconst (w := 1) (am_cur_of (i := (6, 1, .iconst 1, (0, 0, 0), 0)) (by decide +kernel)) (by decide) hc_z
  replace hc_z := rn_callV (M' := am_m75) (o := 148) (ar := [.int 1, .int (hn_z (rg_v h 149 2) b (rg_v h (19 + b.toNatClampNeg) 6))]) (rest := []) (L := lv_args 0 [.ref 148, .int (hn_z (rg_v h 149 2) b (rg_v h (19 + b.toNatClampNeg) 6)), .int 1]) (am_cur_of (i := (7, 3, .invokevirtual 146, (75, 965, 3), 0)) (by decide +kernel)) rfl rfl rfl rfl hc_z
  obtain ⟨r70_z, h71_z, q72_z, hc_z⟩ := hc_z
  have z := gs_75_2 T el rfl s0_z m0_z sm q72_z
  obtain ⟨z1_z, z2_z, z3_z⟩ := z
  subst z1_z
  replace hc_z : rn _ _ _ _ [.int 1] _ _ _ := hc_z
  replace hc_z := rn_iret (am_cur_of (i := (10, 1, .ireturn, (0, 0, 0), 0)) (by decide +kernel)) hc_z
  obtain ⟨e73_z, e74_z⟩ := hc_z
  rw [e74_z]
  exact ⟨z2_z, z3_z⟩
theorem se_80_2 {n : Nat} {r : Option Value} {h h' : am_H} {x : Int32} (T : h 148 0 = .ref 2) (hc_z : rn n am_m80 0 (lv_args 0 [.ref 148, .int x]) [] h r h') : ∀ o k, wB o = false → ¬ (o = 149 ∧ k = 0) → h' o k = h o k := by
  have g0_z : am_get (lv_args 0 [.ref 148, .int x]) 0 = some (.ref 148) := rfl
  have g1_z : am_get (lv_args 0 [.ref 148, .int x]) 1 = some (.int x) := rfl
  replace hc_z := rn_aload_n (am_cur_of (i := (0, 1, .aload_n 0, (0, 0, 0), 0)) (by decide +kernel)) g0_z hc_z
  replace hc_z := rn_iconst (w := 1) (am_cur_of (i := (1, 1, .iconst 1, (0, 0, 0), 0)) (by decide +kernel)) (by decide) hc_z
  replace hc_z := rn_iconst (w := 0) (am_cur_of (i := (2, 1, .iconst 0, (0, 0, 0), 0)) (by decide +kernel)) (by decide) hc_z
  replace hc_z := rn_iload_n (am_cur_of (i := (3, 1, .iload_n 1, (0, 0, 0), 0)) (by decide +kernel)) g1_z hc_z
  replace hc_z := rn_callV (M' := am_m65) (o := 148) (ar := [.int x, .int 0, .int 1]) (rest := []) (L := lv_args 0 [.ref 148, .int 1, .int 0, .int x]) (am_cur_of (i := (4, 3, .invokevirtual 94, (65, 973, 3), 0)) (by decide +kernel)) rfl rfl rfl rfl hc_z
  obtain ⟨r75_z, h76_z, q77_z, hc_z⟩ := hc_z
  obtain ⟨v78_z, rfl⟩ := fk_long (M := am_m65) rfl q77_z
  have kw := wq_65_2 T q77_z
  have T2 := wd_b kw T
  replace hc_z : rn _ _ _ _ [.long v78_z] _ _ _ := hc_z
  replace hc_z := rn_bipush (w := 99) (am_cur_of (i := (7, 2, .bipush 99, (0, 0, 0), 0)) (by decide +kernel)) (by decide) hc_z
  replace hc_z := rn_iload_n (am_cur_of (i := (9, 1, .iload_n 1, (0, 0, 0), 0)) (by decide +kernel)) g1_z hc_z
  replace hc_z := rn_callS (M' := am_m68) (ar := [.int x, .int 99, .long v78_z]) (rest := []) (L := lv_args 0 [.long v78_z, .int 99, .int x]) (am_cur_of (i := (10, 3, .invokestatic 80, (68, 935, 3), 0)) (by decide +kernel)) rfl rfl rfl rfl hc_z
  obtain ⟨r79_z, h80_z, q81_z, hc_z⟩ := hc_z
  obtain ⟨v82_z, rfl⟩ := rn_ret (M := am_m68) rfl (by decide) q81_z
  have k2_z := wq_68 q81_z
  have T3 := wd_b k2_z T2
  replace hc_z : rn _ _ _ _ [.int v82_z] _ _ _ := hc_z
  replace hc_z := rn_istore_n (am_cur_of (i := (13, 1, .istore_n 2, (0, 0, 0), 0)) (by decide +kernel)) hc_z
  obtain ⟨_, s83_z, s84_z, g2_z, hc_z⟩ := hc_z
  replace g0_z := s83_z 0 _ (by decide) rfl g0_z
  replace g1_z := s83_z 1 _ (by decide) rfl g1_z
  clear s83_z s84_z
  replace hc_z := rn_aload_n (am_cur_of (i := (14, 1, .aload_n 0, (0, 0, 0), 0)) (by decide +kernel)) g0_z hc_z
  replace hc_z := rn_getR (x := 149) (am_cur_of (i := (15, 3, .getfield 12, (8, 1, 569), 0)) (by decide +kernel)) (by decide +kernel) hc_z
  replace hc_z := rn_aload_n (am_cur_of (i := (18, 1, .aload_n 0, (0, 0, 0), 0)) (by decide +kernel)) g0_z hc_z
  replace hc_z := rn_getR (x := 149) (am_cur_of (i := (19, 3, .getfield 12, (8, 1, 569), 0)) (by decide +kernel)) (by decide +kernel) hc_z
  replace hc_z := rn_getI (v := rg_v h80_z 149 0) (am_cur_of (i := (22, 3, .getfield 49, (5, 0, 463), 0)) (by decide +kernel)) (by decide +kernel) rfl hc_z
  replace hc_z := rn_iload_n (am_cur_of (i := (25, 1, .iload_n 2, (0, 0, 0), 0)) (by decide +kernel)) g2_z hc_z
  replace hc_z := rn_iadd (w := (rg_v h80_z 149 0) + v82_z) (am_cur_of (i := (26, 1, .iadd, (0, 0, 0), 0)) (by decide +kernel)) rfl hc_z
  replace hc_z := rn_aload_n (am_cur_of (i := (27, 1, .aload_n 0, (0, 0, 0), 0)) (by decide +kernel)) g0_z hc_z
  replace hc_z := rn_getM (x := 2) (am_cur_of (i := (28, 3, .getfield 18, (8, 0, 566), 0)) (by decide +kernel)) T3 hc_z
  replace hc_z := rn_getI (v := rg_v h80_z 2 0) (am_cur_of (i := (31, 3, .getfield 52, (1, 0, 249), 0)) (by decide +kernel)) (by decide +kernel) rfl hc_z
  obtain ⟨m85_z, e86_z⟩ : ∃ mq : Int32, (if rg_v h80_z 2 0 < (rg_v h80_z 149 0) + v82_z then rg_v h80_z 2 0 else (rg_v h80_z 149 0) + v82_z) = mq := ⟨_, rfl⟩
  replace hc_z := rn_min (w := m85_z) (am_cur_of (i := (34, 3, .invokestatic 107, (0, 975, 2), 0)) (by decide +kernel)) e86_z hc_z
  replace hc_z := rn_put (am_cur_of (i := (37, 3, .putfield 49, (5, 0, 463), 0)) (by decide +kernel)) (by decide +kernel) hc_z
  replace hc_z := rn_vret (am_cur_of (i := (40, 1, .return_, (0, 0, 0), 0)) (by decide +kernel)) hc_z
  obtain ⟨e87_z, e88_z⟩ := hc_z
  rw [e88_z]
  exact fun o k e1_z e2_z => (up_ne e2_z).trans ((k2_z o k e1_z).trans (kw o k e1_z))
theorem se_77_2 {n : Nat} {r : Option Value} {h h' : am_H} {b : Int32} (T : h 148 0 = .ref 2) (el : rg_v h 148 5 = 2147483647) (s0_z : 0 ≤ (rg_v h 149 1).toInt) (m0_z : 0 ≤ (rg_v h (19 + b.toNatClampNeg) 4).toInt) (sm : (rg_v h 149 1).toInt + (rg_v h (19 + b.toNatClampNeg) 4).toInt < 2147483647) (hc_z : rn n am_m77 0 (lv_args 0 [.ref 148, .int b]) [] h r h') : r = some (.int 1) ∧ (rg_v h' 149 1).toInt = (rg_v h 149 1).toInt + (rg_v h (19 + b.toNatClampNeg) 4).toInt ∧ rg_v h' 150 b.toNatClampNeg = ef (rg_v h 150 b.toNatClampNeg) (rg_v h 152 b.toNatClampNeg) (rg_v h 149 1) (rg_v h (19 + b.toNatClampNeg) 5) + 1 ∧ rg_v h' 151 b.toNatClampNeg = rg_v h 151 b.toNatClampNeg + 1 ∧ rg_v h' 152 b.toNatClampNeg = rg_v h' 149 1 ∧ rg_v h' 149 2 = b ∧ ∀ o k, gB o k = false → ¬ (150 ≤ o ∧ o ≤ 152 ∧ k = b.toNatClampNeg) → ¬ (o = 149 ∧ k = 2) → h' o k = h o k := by
  have g0_z : am_get (lv_args 0 [.ref 148, .int b]) 0 = some (.ref 148) := rfl
  have g1_z : am_get (lv_args 0 [.ref 148, .int b]) 1 = some (.int b) := rfl
  replace hc_z := rn_aload_n (am_cur_of (i := (0, 1, .aload_n 0, (0, 0, 0), 0)) (by decide +kernel)) g0_z hc_z
  replace hc_z := rn_iload_n (am_cur_of (i := (1, 1, .iload_n 1, (0, 0, 0), 0)) (by decide +kernel)) g1_z hc_z
  replace hc_z := rn_callV (M' := am_m78) (o := 148) (ar := [.int b]) (rest := []) (L := lv_args 0 [.ref 148, .int b]) (am_cur_of (i := (2, 3, .invokevirtual 128, (78, 980, 3), 0)) (by decide +kernel)) rfl rfl rfl rfl hc_z
  obtain ⟨r89_z, h90_z, q91_z, hc_z⟩ := hc_z
  have y93_z := pu_of (a := 78) (by decide) rfl q91_z
  have e92_z := se_78_2 T q91_z
  replace y93_z := y93_z.symm
  subst y93_z
  subst e92_z
  replace hc_z : rn _ _ _ _ [.int (ef (rg_v h 150 b.toNatClampNeg) (rg_v h 152 b.toNatClampNeg) (rg_v h 149 1) (rg_v h (19 + b.toNatClampNeg) 5))] _ _ _ := hc_z
  replace hc_z := rn_istore_n (am_cur_of (i := (5, 1, .istore_n 2, (0, 0, 0), 0)) (by decide +kernel)) hc_z
  obtain ⟨_, s94_z, s95_z, g2_z, hc_z⟩ := hc_z
  replace g0_z := s94_z 0 _ (by decide) rfl g0_z
  replace g1_z := s94_z 1 _ (by decide) rfl g1_z
  clear s94_z s95_z
  replace hc_z := rn_aload_n (am_cur_of (i := (6, 1, .aload_n 0, (0, 0, 0), 0)) (by decide +kernel)) g0_z hc_z
  replace hc_z := rn_aload_n (am_cur_of (i := (7, 1, .aload_n 0, (0, 0, 0), 0)) (by decide +kernel)) g0_z hc_z
  replace hc_z := rn_getM (x := 2) (am_cur_of (i := (8, 3, .getfield 18, (8, 0, 566), 0)) (by decide +kernel)) T hc_z
  replace hc_z := rn_getR (x := 3) (am_cur_of (i := (11, 3, .getfield 116, (1, 3, 263), 0)) (by decide +kernel)) (by decide +kernel) hc_z
  replace hc_z := rn_iload_n (am_cur_of (i := (14, 1, .iload_n 1, (0, 0, 0), 0)) (by decide +kernel)) g1_z hc_z
  replace hc_z := rn_aaload (s := "AirBed$Blower") (N := 4) (q := b.toNatClampNeg) (am_cur_of (i := (15, 1, .aaload, (0, 0, 0), 0)) (by decide +kernel)) (by decide +kernel) rfl hc_z
  obtain ⟨p96_z, hc_z⟩ := hc_z
  rw [rp_bc2 (rn_G hc_z) p96_z.2] at hc_z
  replace hc_z := rn_getI (v := rg_v h (19 + b.toNatClampNeg) 4) (am_cur_of (i := (16, 3, .getfield 156, (3, 4, 215), 0)) (by decide +kernel)) (rp_bf2 _ p96_z.2 4 (by decide)) rfl hc_z
  replace hc_z := rn_iconst (w := 0) (am_cur_of (i := (19, 1, .iconst 0, (0, 0, 0), 0)) (by decide +kernel)) (by decide) hc_z
  replace hc_z := rn_callV (M' := am_m75) (o := 148) (ar := [.int 0, .int (rg_v h (19 + b.toNatClampNeg) 4)]) (rest := []) (L := lv_args 0 [.ref 148, .int (rg_v h (19 + b.toNatClampNeg) 4), .int 0]) (am_cur_of (i := (20, 3, .invokevirtual 146, (75, 965, 3), 0)) (by decide +kernel)) rfl rfl rfl rfl hc_z
  obtain ⟨r97_z, h98_z, q99_z, hc_z⟩ := hc_z
  obtain ⟨z1_z, z2_z, z3_z⟩ := gs_75_2 T el rfl s0_z m0_z sm q99_z
  subst z1_z
  have T1 := gd_b z3_z T
  replace hc_z : rn _ _ _ _ [.int 1] _ _ _ := hc_z
  replace hc_z := rn_ifT (am_cur_of (i := (23, 3, .ifCond .ne 5, (16, 0, 0), 0)) (by decide +kernel)) (by decide) hc_z
  replace hc_z := rn_aload_n (am_cur_of (i := (28, 1, .aload_n 0, (0, 0, 0), 0)) (by decide +kernel)) g0_z hc_z
  replace hc_z := rn_aload_n (am_cur_of (i := (29, 1, .aload_n 0, (0, 0, 0), 0)) (by decide +kernel)) g0_z hc_z
  replace hc_z := rn_getM (x := 2) (am_cur_of (i := (30, 3, .getfield 18, (8, 0, 566), 0)) (by decide +kernel)) T1 hc_z
  replace hc_z := rn_getR (x := 3) (am_cur_of (i := (33, 3, .getfield 116, (1, 3, 263), 0)) (by decide +kernel)) (by decide +kernel) hc_z
  replace hc_z := rn_iload_n (am_cur_of (i := (36, 1, .iload_n 1, (0, 0, 0), 0)) (by decide +kernel)) g1_z hc_z
  replace hc_z := rn_aaload (s := "AirBed$Blower") (N := 4) (q := b.toNatClampNeg) (am_cur_of (i := (37, 1, .aaload, (0, 0, 0), 0)) (by decide +kernel)) (by decide +kernel) rfl hc_z
  obtain ⟨p100_z, hc_z⟩ := hc_z
  rw [rp_bc2 (rn_G hc_z) p100_z.2] at hc_z
  replace hc_z := rn_iload_n (am_cur_of (i := (38, 1, .iload_n 2, (0, 0, 0), 0)) (by decide +kernel)) g2_z hc_z
  replace hc_z := rn_callV (M' := am_m79) (o := (19 + b.toNatClampNeg)) (ar := [.int (ef (rg_v h 150 b.toNatClampNeg) (rg_v h 152 b.toNatClampNeg) (rg_v h 149 1) (rg_v h (19 + b.toNatClampNeg) 5))]) (rest := [.ref 148]) (L := lv_args 0 [.ref (19 + b.toNatClampNeg), .int (ef (rg_v h 150 b.toNatClampNeg) (rg_v h 152 b.toNatClampNeg) (rg_v h 149 1) (rg_v h (19 + b.toNatClampNeg) 5))]) (am_cur_of (i := (39, 3, .invokevirtual 131, (79, 984, 3), 0)) (by decide +kernel)) rfl rfl rfl rfl hc_z
  obtain ⟨r101_z, h102_z, q103_z, hc_z⟩ := hc_z
  have y105_z := pu_of (a := 79) (by decide) rfl q103_z
  obtain ⟨v104_z, rfl⟩ := rn_ret (M := am_m79) rfl (by decide) q103_z
  replace y105_z := y105_z.symm
  subst y105_z
  replace hc_z : rn _ _ _ _ [.int v104_z, .ref 148] _ _ _ := hc_z
  replace hc_z := rn_callV (M' := am_m80) (o := 148) (ar := [.int v104_z]) (rest := []) (L := lv_args 0 [.ref 148, .int v104_z]) (am_cur_of (i := (42, 3, .invokevirtual 159, (80, 988, 3), 0)) (by decide +kernel)) rfl rfl rfl rfl hc_z
  obtain ⟨r106_z, h107_z, q108_z, hc_z⟩ := hc_z
  have vo := rn_void rfl q108_z
  subst vo
  have fk := se_80_2 T1 q108_z
  replace hc_z : rn _ _ _ _ [] _ _ _ := hc_z
  replace hc_z := rn_aload_n (am_cur_of (i := (45, 1, .aload_n 0, (0, 0, 0), 0)) (by decide +kernel)) g0_z hc_z
  replace hc_z := rn_getR (x := 149) (am_cur_of (i := (46, 3, .getfield 12, (8, 1, 569), 0)) (by decide +kernel)) (by decide +kernel) hc_z
  replace hc_z := rn_getR (x := 150) (am_cur_of (i := (49, 3, .getfield 125, (5, 5, 481), 0)) (by decide +kernel)) (by decide +kernel) hc_z
  replace hc_z := rn_iload_n (am_cur_of (i := (52, 1, .iload_n 1, (0, 0, 0), 0)) (by decide +kernel)) g1_z hc_z
  replace hc_z := rn_iload_n (am_cur_of (i := (53, 1, .iload_n 2, (0, 0, 0), 0)) (by decide +kernel)) g2_z hc_z
  replace hc_z := rn_iconst (w := 1) (am_cur_of (i := (54, 1, .iconst 1, (0, 0, 0), 0)) (by decide +kernel)) (by decide) hc_z
  replace hc_z := rn_iadd (w := (ef (rg_v h 150 b.toNatClampNeg) (rg_v h 152 b.toNatClampNeg) (rg_v h 149 1) (rg_v h (19 + b.toNatClampNeg) 5)) + 1) (am_cur_of (i := (55, 1, .iadd, (0, 0, 0), 0)) (by decide +kernel)) rfl hc_z
  replace hc_z := rn_iastore (N := 4) (q := b.toNatClampNeg) (am_cur_of (i := (56, 1, .iastore, (0, 0, 0), 0)) (by decide +kernel)) (by decide +kernel) rfl hc_z
  obtain ⟨p109_z, hc_z⟩ := hc_z
  replace hc_z := rn_aload_n (am_cur_of (i := (57, 1, .aload_n 0, (0, 0, 0), 0)) (by decide +kernel)) g0_z hc_z
  replace hc_z := rn_getR (x := 149) (am_cur_of (i := (58, 3, .getfield 12, (8, 1, 569), 0)) (by decide +kernel)) (by decide +kernel) hc_z
  replace hc_z := rn_getR (x := 151) (am_cur_of (i := (61, 3, .getfield 163, (5, 6, 484), 0)) (by decide +kernel)) (by decide +kernel) hc_z
  replace hc_z := rn_iload_n (am_cur_of (i := (64, 1, .iload_n 1, (0, 0, 0), 0)) (by decide +kernel)) g1_z hc_z
  replace hc_z := rn_dup2 (am_cur_of (i := (65, 1, .dup2, (0, 0, 0), 0)) (by decide +kernel)) hc_z
  replace hc_z := rn_iaload (N := 4) (q := b.toNatClampNeg) (v := rg_v h107_z 151 b.toNatClampNeg) (am_cur_of (i := (66, 1, .iaload, (0, 0, 0), 0)) (by decide +kernel)) (by decide +kernel) rfl ((rg_v_other (by omega)).trans (rfl)) hc_z
  obtain ⟨p110_z, hc_z⟩ := hc_z
  replace hc_z := rn_iconst (w := 1) (am_cur_of (i := (67, 1, .iconst 1, (0, 0, 0), 0)) (by decide +kernel)) (by decide) hc_z
  replace hc_z := rn_iadd (w := (rg_v h107_z 151 b.toNatClampNeg) + 1) (am_cur_of (i := (68, 1, .iadd, (0, 0, 0), 0)) (by decide +kernel)) rfl hc_z
  replace hc_z := rn_iastore (N := 4) (q := b.toNatClampNeg) (am_cur_of (i := (69, 1, .iastore, (0, 0, 0), 0)) (by decide +kernel)) (by decide +kernel) rfl hc_z
  obtain ⟨p111_z, hc_z⟩ := hc_z
  replace hc_z := rn_aload_n (am_cur_of (i := (70, 1, .aload_n 0, (0, 0, 0), 0)) (by decide +kernel)) g0_z hc_z
  replace hc_z := rn_getR (x := 149) (am_cur_of (i := (71, 3, .getfield 12, (8, 1, 569), 0)) (by decide +kernel)) (by decide +kernel) hc_z
  replace hc_z := rn_getR (x := 152) (am_cur_of (i := (74, 3, .getfield 113, (5, 7, 486), 0)) (by decide +kernel)) (by decide +kernel) hc_z
  replace hc_z := rn_iload_n (am_cur_of (i := (77, 1, .iload_n 1, (0, 0, 0), 0)) (by decide +kernel)) g1_z hc_z
  replace hc_z := rn_aload_n (am_cur_of (i := (78, 1, .aload_n 0, (0, 0, 0), 0)) (by decide +kernel)) g0_z hc_z
  replace hc_z := rn_getR (x := 149) (am_cur_of (i := (79, 3, .getfield 12, (8, 1, 569), 0)) (by decide +kernel)) (by decide +kernel) hc_z
  replace hc_z := rn_getI (v := rg_v h107_z 149 1) (am_cur_of (i := (82, 3, .getfield 59, (5, 1, 470), 0)) (by decide +kernel)) (by decide +kernel) ((rg_v_other (by omega)).trans ((rg_v_other (by omega)).trans (rfl))) hc_z
  replace hc_z := rn_iastore (N := 4) (q := b.toNatClampNeg) (am_cur_of (i := (85, 1, .iastore, (0, 0, 0), 0)) (by decide +kernel)) (by decide +kernel) rfl hc_z
  obtain ⟨p112_z, hc_z⟩ := hc_z
  replace hc_z := rn_aload_n (am_cur_of (i := (86, 1, .aload_n 0, (0, 0, 0), 0)) (by decide +kernel)) g0_z hc_z
  replace hc_z := rn_getR (x := 149) (am_cur_of (i := (87, 3, .getfield 12, (8, 1, 569), 0)) (by decide +kernel)) (by decide +kernel) hc_z
  replace hc_z := rn_iload_n (am_cur_of (i := (90, 1, .iload_n 1, (0, 0, 0), 0)) (by decide +kernel)) g1_z hc_z
  replace hc_z := rn_put (am_cur_of (i := (91, 3, .putfield 137, (5, 2, 474), 0)) (by decide +kernel)) (by decide +kernel) hc_z
  replace hc_z := rn_iconst (w := 1) (am_cur_of (i := (94, 1, .iconst 1, (0, 0, 0), 0)) (by decide +kernel)) (by decide) hc_z
  replace hc_z := rn_iret (am_cur_of (i := (95, 1, .ireturn, (0, 0, 0), 0)) (by decide +kernel)) hc_z
  obtain ⟨e113_z, e114_z⟩ := hc_z
  have f1_z : ∀ o k, gB o k = false → ¬ (o = 149 ∧ k = 0) → h107_z o k = h o k := fun o k e1_z e2_z => (fk o k (gB_w e1_z) e2_z).trans (z3_z o k e1_z)
  have e1_z : rg_v h107_z 149 1 = rg_v h98_z 149 1 := by
    unfold rg_v
    rw [fk 149 1 rfl (by omega)]
  have e2_z : rg_v h107_z 151 b.toNatClampNeg = rg_v h 151 b.toNatClampNeg := by
    unfold rg_v
    rw [f1_z 151 b.toNatClampNeg (by rfl) (by omega)]
  refine ⟨e113_z, ?_, ?_, ?_, ?_, ?_, fun o k g1_z g2_z g3_z => ?_⟩
  · rw [e114_z]
    refine Eq.trans (congrArg Int32.toInt (((rg_v_other (by omega)).trans ((rg_v_other (by omega)).trans ((rg_v_other (by omega)).trans ((rg_v_other (by omega)).trans (rfl))))))) ?_
    rw [e1_z]
    exact z2_z
  · rw [e114_z]
    exact ((rg_v_other (by omega)).trans ((rg_v_other (by omega)).trans ((rg_v_other (by omega)).trans (rg_v_self))))
  · rw [e114_z]
    refine Eq.trans (((rg_v_other (by omega)).trans ((rg_v_other (by omega)).trans (rg_v_self)))) ?_
    rw [e2_z]
  · rw [e114_z]
    exact Eq.trans (((rg_v_other (by omega)).trans (rg_v_self))) (Eq.symm (((rg_v_other (by omega)).trans ((rg_v_other (by omega)).trans ((rg_v_other (by omega)).trans ((rg_v_other (by omega)).trans (rfl)))))))
  · rw [e114_z]
    exact rg_v_self
  · rw [e114_z]
    have g0_z : ¬ (o = 149 ∧ k = 0) := by
      rintro ⟨q1_z, q2_z⟩
      rw [q1_z, q2_z] at g1_z
      exact absurd g1_z (by decide)
    exact (up_ne (by omega)).trans ((up_ne (by omega)).trans ((up_ne (by omega)).trans ((up_ne (by omega)).trans (f1_z o k g1_z g0_z))))
theorem se_73_23 {n : Nat} {r : Option Value} {h h' : am_H} {b t : Int32} (T : h 148 0 = .ref 23) (hc_z : rn n am_m73 0 (lv_args 0 [.ref 148, .int b, .int t]) [] h r h') : r = some (.int (ef (rg_v h 150 b.toNatClampNeg) (rg_v h 152 b.toNatClampNeg) t (rg_v h (40 + b.toNatClampNeg) 5))) := by
  have g0_z : am_get (lv_args 0 [.ref 148, .int b, .int t]) 0 = some (.ref 148) := rfl
  have g1_z : am_get (lv_args 0 [.ref 148, .int b, .int t]) 1 = some (.int b) := rfl
  have g2_z : am_get (lv_args 0 [.ref 148, .int b, .int t]) 2 = some (.int t) := rfl
  replace hc_z := rn_iload_n (am_cur_of (i := (0, 1, .iload_n 2, (0, 0, 0), 0)) (by decide +kernel)) g2_z hc_z
  replace hc_z := rn_aload_n (am_cur_of (i := (1, 1, .aload_n 0, (0, 0, 0), 0)) (by decide +kernel)) g0_z hc_z
  replace hc_z := rn_getR (x := 149) (am_cur_of (i := (2, 3, .getfield 12, (8, 1, 569), 0)) (by decide +kernel)) (by decide +kernel) hc_z
  replace hc_z := rn_getR (x := 152) (am_cur_of (i := (5, 3, .getfield 113, (5, 7, 486), 0)) (by decide +kernel)) (by decide +kernel) hc_z
  replace hc_z := rn_iload_n (am_cur_of (i := (8, 1, .iload_n 1, (0, 0, 0), 0)) (by decide +kernel)) g1_z hc_z
  replace hc_z := rn_iaload (N := 4) (q := b.toNatClampNeg) (v := rg_v h 152 b.toNatClampNeg) (am_cur_of (i := (9, 1, .iaload, (0, 0, 0), 0)) (by decide +kernel)) (by decide +kernel) rfl rfl hc_z
  obtain ⟨p115_z, hc_z⟩ := hc_z
  replace hc_z := rn_isub (w := t - (rg_v h 152 b.toNatClampNeg)) (am_cur_of (i := (10, 1, .isub, (0, 0, 0), 0)) (by decide +kernel)) rfl hc_z
  replace hc_z := rn_aload_n (am_cur_of (i := (11, 1, .aload_n 0, (0, 0, 0), 0)) (by decide +kernel)) g0_z hc_z
  replace hc_z := rn_getM (x := 23) (am_cur_of (i := (12, 3, .getfield 18, (8, 0, 566), 0)) (by decide +kernel)) T hc_z
  replace hc_z := rn_getR (x := 24) (am_cur_of (i := (15, 3, .getfield 116, (1, 3, 263), 0)) (by decide +kernel)) (by decide +kernel) hc_z
  replace hc_z := rn_iload_n (am_cur_of (i := (18, 1, .iload_n 1, (0, 0, 0), 0)) (by decide +kernel)) g1_z hc_z
  replace hc_z := rn_aaload (s := "AirBed$Blower") (N := 4) (q := b.toNatClampNeg) (am_cur_of (i := (19, 1, .aaload, (0, 0, 0), 0)) (by decide +kernel)) (by decide +kernel) rfl hc_z
  obtain ⟨p116_z, hc_z⟩ := hc_z
  rw [rp_bc23 (rn_G hc_z) p116_z.2] at hc_z
  replace hc_z := rn_getI (v := rg_v h (40 + b.toNatClampNeg) 5) (am_cur_of (i := (20, 3, .getfield 120, (3, 5, 217), 0)) (by decide +kernel)) (rp_bf23 _ p116_z.2 5 (by decide)) rfl hc_z
  replace hc_z := rn_cmp (am_cur_of (i := (23, 3, .if_icmp .lt 7, (16, 0, 0), 0)) (by decide +kernel)) hc_z
  rcases hc_z with ⟨b117_z, hc_z⟩ | ⟨b117_z, hc_z⟩
  · replace b117_z : (t - (rg_v h 152 b.toNatClampNeg)).toInt < (rg_v h (40 + b.toNatClampNeg) 5).toInt := b117_z
    replace hc_z := rn_iconst (w := 0) (am_cur_of (i := (30, 1, .iconst 0, (0, 0, 0), 0)) (by decide +kernel)) (by decide) hc_z
    replace hc_z := rn_istore_n (am_cur_of (i := (31, 1, .istore_n 3, (0, 0, 0), 0)) (by decide +kernel)) hc_z
    obtain ⟨_, s118_z, s119_z, g3_z, hc_z⟩ := hc_z
    replace g0_z := s118_z 0 _ (by decide) rfl g0_z
    replace g1_z := s118_z 1 _ (by decide) rfl g1_z
    replace g2_z := s118_z 2 _ (by decide) rfl g2_z
    clear s118_z s119_z
    replace hc_z := rn_iload_n (am_cur_of (i := (32, 1, .iload_n 3, (0, 0, 0), 0)) (by decide +kernel)) g3_z hc_z
    replace hc_z := rn_ifT (am_cur_of (i := (33, 3, .ifCond .eq 7, (22, 0, 0), 0)) (by decide +kernel)) (by decide) hc_z
    replace hc_z := rn_aload_n (am_cur_of (i := (40, 1, .aload_n 0, (0, 0, 0), 0)) (by decide +kernel)) g0_z hc_z
    replace hc_z := rn_getR (x := 149) (am_cur_of (i := (41, 3, .getfield 12, (8, 1, 569), 0)) (by decide +kernel)) (by decide +kernel) hc_z
    replace hc_z := rn_getR (x := 150) (am_cur_of (i := (44, 3, .getfield 125, (5, 5, 481), 0)) (by decide +kernel)) (by decide +kernel) hc_z
    replace hc_z := rn_iload_n (am_cur_of (i := (47, 1, .iload_n 1, (0, 0, 0), 0)) (by decide +kernel)) g1_z hc_z
    replace hc_z := rn_iaload (N := 4) (q := b.toNatClampNeg) (v := rg_v h 150 b.toNatClampNeg) (am_cur_of (i := (48, 1, .iaload, (0, 0, 0), 0)) (by decide +kernel)) (by decide +kernel) rfl rfl hc_z
    obtain ⟨p120_z, hc_z⟩ := hc_z
    replace hc_z := rn_iret (am_cur_of (i := (49, 1, .ireturn, (0, 0, 0), 0)) (by decide +kernel)) hc_z
    obtain ⟨e121_z, e122_z⟩ := hc_z
    exact e121_z.trans (congrArg (fun q => some (Value.int q)) (ef_0 (by omega)).symm)
  · replace b117_z : (rg_v h (40 + b.toNatClampNeg) 5).toInt ≤ (t - (rg_v h 152 b.toNatClampNeg)).toInt := b117_z
    replace hc_z := rn_iconst (w := 1) (am_cur_of (i := (26, 1, .iconst 1, (0, 0, 0), 0)) (by decide +kernel)) (by decide) hc_z
    replace hc_z := rn_goto (am_cur_of (i := (27, 3, .goto 4, (17, 0, 0), 0)) (by decide +kernel)) hc_z
    replace hc_z := rn_istore_n (am_cur_of (i := (31, 1, .istore_n 3, (0, 0, 0), 0)) (by decide +kernel)) hc_z
    obtain ⟨_, s123_z, s124_z, g3_z, hc_z⟩ := hc_z
    replace g0_z := s123_z 0 _ (by decide) rfl g0_z
    replace g1_z := s123_z 1 _ (by decide) rfl g1_z
    replace g2_z := s123_z 2 _ (by decide) rfl g2_z
    clear s123_z s124_z
    replace hc_z := rn_iload_n (am_cur_of (i := (32, 1, .iload_n 3, (0, 0, 0), 0)) (by decide +kernel)) g3_z hc_z
    replace hc_z := rn_ifF (am_cur_of (i := (33, 3, .ifCond .eq 7, (22, 0, 0), 0)) (by decide +kernel)) (by decide) hc_z
    replace hc_z := rn_iconst (w := 0) (am_cur_of (i := (36, 1, .iconst 0, (0, 0, 0), 0)) (by decide +kernel)) (by decide) hc_z
    replace hc_z := rn_goto (am_cur_of (i := (37, 3, .goto 12, (27, 0, 0), 0)) (by decide +kernel)) hc_z
    replace hc_z := rn_iret (am_cur_of (i := (49, 1, .ireturn, (0, 0, 0), 0)) (by decide +kernel)) hc_z
    obtain ⟨e125_z, e126_z⟩ := hc_z
    exact e125_z.trans (congrArg (fun q => some (Value.int q)) (ef_1 (by omega)).symm)
theorem se_78_23 {n : Nat} {r : Option Value} {h h' : am_H} {b : Int32} (T : h 148 0 = .ref 23) (hc_z : rn n am_m78 0 (lv_args 0 [.ref 148, .int b]) [] h r h') : r = some (.int (ef (rg_v h 150 b.toNatClampNeg) (rg_v h 152 b.toNatClampNeg) (rg_v h 149 1) (rg_v h (40 + b.toNatClampNeg) 5))) := by
  have g0_z : am_get (lv_args 0 [.ref 148, .int b]) 0 = some (.ref 148) := rfl
  have g1_z : am_get (lv_args 0 [.ref 148, .int b]) 1 = some (.int b) := rfl
  replace hc_z := rn_aload_n (am_cur_of (i := (0, 1, .aload_n 0, (0, 0, 0), 0)) (by decide +kernel)) g0_z hc_z
  replace hc_z := rn_iload_n (am_cur_of (i := (1, 1, .iload_n 1, (0, 0, 0), 0)) (by decide +kernel)) g1_z hc_z
  replace hc_z := rn_aload_n (am_cur_of (i := (2, 1, .aload_n 0, (0, 0, 0), 0)) (by decide +kernel)) g0_z hc_z
  replace hc_z := rn_getR (x := 149) (am_cur_of (i := (3, 3, .getfield 12, (8, 1, 569), 0)) (by decide +kernel)) (by decide +kernel) hc_z
  replace hc_z := rn_getI (v := rg_v h 149 1) (am_cur_of (i := (6, 3, .getfield 59, (5, 1, 470), 0)) (by decide +kernel)) (by decide +kernel) rfl hc_z
  replace hc_z := rn_callV (M' := am_m73) (o := 148) (ar := [.int (rg_v h 149 1), .int b]) (rest := []) (L := lv_args 0 [.ref 148, .int b, .int (rg_v h 149 1)]) (am_cur_of (i := (9, 3, .invokevirtual 110, (73, 955, 3), 0)) (by decide +kernel)) rfl rfl rfl rfl hc_z
  obtain ⟨r127_z, h128_z, q129_z, hc_z⟩ := hc_z
  have y131_z := pu_of (a := 73) (by decide) rfl q129_z
  have e130_z := se_73_23 T q129_z
  replace y131_z := y131_z.symm
  subst y131_z
  subst e130_z
  replace hc_z : rn _ _ _ _ [.int (ef (rg_v h 150 b.toNatClampNeg) (rg_v h 152 b.toNatClampNeg) (rg_v h 149 1) (rg_v h (40 + b.toNatClampNeg) 5))] _ _ _ := hc_z
  replace hc_z := rn_iret (am_cur_of (i := (12, 1, .ireturn, (0, 0, 0), 0)) (by decide +kernel)) hc_z
  obtain ⟨e132_z, e133_z⟩ := hc_z
  exact e132_z
theorem se_72_23 {n : Nat} {r : Option Value} {h h' : am_H} {b : Int32} (T : h 148 0 = .ref 23) (hc_z : rn n am_m72 0 (lv_args 0 [.ref 148, .int b]) [] h r h') : r = some (.int (hn_z (rg_v h 149 2) b (rg_v h (40 + b.toNatClampNeg) 6))) := by
  have zm1_z : ((-1) : Int32).toInt = (-1) := by decide
  have g0_z : am_get (lv_args 0 [.ref 148, .int b]) 0 = some (.ref 148) := rfl
  have g1_z : am_get (lv_args 0 [.ref 148, .int b]) 1 = some (.int b) := rfl
  replace hc_z := rn_aload_n (am_cur_of (i := (0, 1, .aload_n 0, (0, 0, 0), 0)) (by decide +kernel)) g0_z hc_z
  replace hc_z := rn_getR (x := 149) (am_cur_of (i := (1, 3, .getfield 12, (8, 1, 569), 0)) (by decide +kernel)) (by decide +kernel) hc_z
  replace hc_z := rn_getI (v := rg_v h 149 2) (am_cur_of (i := (4, 3, .getfield 137, (5, 2, 474), 0)) (by decide +kernel)) (by decide +kernel) rfl hc_z
  replace hc_z := rn_iconst (w := (-1)) (am_cur_of (i := (7, 1, .iconst (-1), (0, 0, 0), 0)) (by decide +kernel)) (by decide) hc_z
  replace hc_z := rn_cmp (am_cur_of (i := (8, 3, .if_icmp .eq 14, (10, 0, 0), 0)) (by decide +kernel)) hc_z
  rcases hc_z with ⟨b134_z, hc_z⟩ | ⟨b134_z, hc_z⟩
  · replace b134_z : (rg_v h 149 2) = ((-1) : Int32) ∧ (rg_v h 149 2).toInt = ((-1) : Int32).toInt := b134_z
    replace hc_z := rn_iconst (w := 0) (am_cur_of (i := (22, 1, .iconst 0, (0, 0, 0), 0)) (by decide +kernel)) (by decide) hc_z
    replace hc_z := rn_goto (am_cur_of (i := (23, 3, .goto 15, (18, 0, 0), 0)) (by decide +kernel)) hc_z
    replace hc_z := rn_iret (am_cur_of (i := (38, 1, .ireturn, (0, 0, 0), 0)) (by decide +kernel)) hc_z
    obtain ⟨e135_z, e136_z⟩ := hc_z
    exact e135_z.trans (congrArg (fun q => some (Value.int q)) (hn_1 (Or.inl b134_z.1)).symm)
  · replace b134_z : ¬ (rg_v h 149 2) = ((-1) : Int32) ∧ ¬ (rg_v h 149 2).toInt = ((-1) : Int32).toInt := b134_z
    replace hc_z := rn_aload_n (am_cur_of (i := (11, 1, .aload_n 0, (0, 0, 0), 0)) (by decide +kernel)) g0_z hc_z
    replace hc_z := rn_getR (x := 149) (am_cur_of (i := (12, 3, .getfield 12, (8, 1, 569), 0)) (by decide +kernel)) (by decide +kernel) hc_z
    replace hc_z := rn_getI (v := rg_v h 149 2) (am_cur_of (i := (15, 3, .getfield 137, (5, 2, 474), 0)) (by decide +kernel)) (by decide +kernel) rfl hc_z
    replace hc_z := rn_iload_n (am_cur_of (i := (18, 1, .iload_n 1, (0, 0, 0), 0)) (by decide +kernel)) g1_z hc_z
    replace hc_z := rn_cmp (am_cur_of (i := (19, 3, .if_icmp .ne 7, (12, 0, 0), 0)) (by decide +kernel)) hc_z
    rcases hc_z with ⟨b137_z, hc_z⟩ | ⟨b137_z, hc_z⟩
    · replace b137_z : ¬ (rg_v h 149 2) = b ∧ ¬ (rg_v h 149 2).toInt = b.toInt := b137_z
      replace hc_z := rn_aload_n (am_cur_of (i := (26, 1, .aload_n 0, (0, 0, 0), 0)) (by decide +kernel)) g0_z hc_z
      replace hc_z := rn_getM (x := 23) (am_cur_of (i := (27, 3, .getfield 18, (8, 0, 566), 0)) (by decide +kernel)) T hc_z
      replace hc_z := rn_getR (x := 24) (am_cur_of (i := (30, 3, .getfield 116, (1, 3, 263), 0)) (by decide +kernel)) (by decide +kernel) hc_z
      replace hc_z := rn_iload_n (am_cur_of (i := (33, 1, .iload_n 1, (0, 0, 0), 0)) (by decide +kernel)) g1_z hc_z
      replace hc_z := rn_aaload (s := "AirBed$Blower") (N := 4) (q := b.toNatClampNeg) (am_cur_of (i := (34, 1, .aaload, (0, 0, 0), 0)) (by decide +kernel)) (by decide +kernel) rfl hc_z
      obtain ⟨p138_z, hc_z⟩ := hc_z
      rw [rp_bc23 (rn_G hc_z) p138_z.2] at hc_z
      replace hc_z := rn_getI (v := rg_v h (40 + b.toNatClampNeg) 6) (am_cur_of (i := (35, 3, .getfield 140, (3, 6, 219), 0)) (by decide +kernel)) (rp_bf23 _ p138_z.2 6 (by decide)) rfl hc_z
      replace hc_z := rn_iret (am_cur_of (i := (38, 1, .ireturn, (0, 0, 0), 0)) (by decide +kernel)) hc_z
      obtain ⟨e139_z, e140_z⟩ := hc_z
      exact e139_z.trans (congrArg (fun q => some (Value.int q)) (hn_0 (fun q => q.elim b134_z.1 b137_z.1)).symm)
    · replace b137_z : (rg_v h 149 2) = b ∧ (rg_v h 149 2).toInt = b.toInt := b137_z
      replace hc_z := rn_iconst (w := 0) (am_cur_of (i := (22, 1, .iconst 0, (0, 0, 0), 0)) (by decide +kernel)) (by decide) hc_z
      replace hc_z := rn_goto (am_cur_of (i := (23, 3, .goto 15, (18, 0, 0), 0)) (by decide +kernel)) hc_z
      replace hc_z := rn_iret (am_cur_of (i := (38, 1, .ireturn, (0, 0, 0), 0)) (by decide +kernel)) hc_z
      obtain ⟨e141_z, e142_z⟩ := hc_z
      exact e141_z.trans (congrArg (fun q => some (Value.int q)) (hn_1 (Or.inr b137_z.1)).symm)
theorem se_71_23 {n : Nat} {r : Option Value} {h h' : am_H} {b m : Int32} (T : h 148 0 = .ref 23) (hc_z : rn n am_m71 0 (lv_args 0 [.ref 148, .int b, .int m]) [] h r h') : ∃ v : Int32, r = some (.int v) ∧ ((v = 1 ∧ 0 < (rg_v h (40 + b.toNatClampNeg) 5).toInt ∧ (rg_v h (40 + b.toNatClampNeg) 3).toInt < (ef (rg_v h 150 b.toNatClampNeg) (rg_v h 152 b.toNatClampNeg) (rg_v h 149 1 + hn_z (rg_v h 149 2) b (rg_v h (40 + b.toNatClampNeg) 6)) (rg_v h (40 + b.toNatClampNeg) 5) + m).toInt) ∨ (v = 0 ∧ ¬ (0 < (rg_v h (40 + b.toNatClampNeg) 5).toInt ∧ (rg_v h (40 + b.toNatClampNeg) 3).toInt < (ef (rg_v h 150 b.toNatClampNeg) (rg_v h 152 b.toNatClampNeg) (rg_v h 149 1 + hn_z (rg_v h 149 2) b (rg_v h (40 + b.toNatClampNeg) 6)) (rg_v h (40 + b.toNatClampNeg) 5) + m).toInt))) := by
  have z0_z : (0 : Int32).toInt = 0 := by decide
  have g0_z : am_get (lv_args 0 [.ref 148, .int b, .int m]) 0 = some (.ref 148) := rfl
  have g1_z : am_get (lv_args 0 [.ref 148, .int b, .int m]) 1 = some (.int b) := rfl
  have g2_z : am_get (lv_args 0 [.ref 148, .int b, .int m]) 2 = some (.int m) := rfl
  replace hc_z := rn_aload_n (am_cur_of (i := (0, 1, .aload_n 0, (0, 0, 0), 0)) (by decide +kernel)) g0_z hc_z
  replace hc_z := rn_getM (x := 23) (am_cur_of (i := (1, 3, .getfield 18, (8, 0, 566), 0)) (by decide +kernel)) T hc_z
  replace hc_z := rn_getR (x := 24) (am_cur_of (i := (4, 3, .getfield 116, (1, 3, 263), 0)) (by decide +kernel)) (by decide +kernel) hc_z
  replace hc_z := rn_iload_n (am_cur_of (i := (7, 1, .iload_n 1, (0, 0, 0), 0)) (by decide +kernel)) g1_z hc_z
  replace hc_z := rn_aaload (s := "AirBed$Blower") (N := 4) (q := b.toNatClampNeg) (am_cur_of (i := (8, 1, .aaload, (0, 0, 0), 0)) (by decide +kernel)) (by decide +kernel) rfl hc_z
  obtain ⟨p143_z, hc_z⟩ := hc_z
  rw [rp_bc23 (rn_G hc_z) p143_z.2] at hc_z
  replace hc_z := rn_astore_n (am_cur_of (i := (9, 1, .astore_n 3, (0, 0, 0), 0)) (by decide +kernel)) hc_z
  obtain ⟨_, s144_z, s145_z, g3_z, hc_z⟩ := hc_z
  replace g0_z := s144_z 0 _ (by decide) rfl g0_z
  replace g1_z := s144_z 1 _ (by decide) rfl g1_z
  replace g2_z := s144_z 2 _ (by decide) rfl g2_z
  clear s144_z s145_z
  replace hc_z := rn_aload_n (am_cur_of (i := (10, 1, .aload_n 0, (0, 0, 0), 0)) (by decide +kernel)) g0_z hc_z
  replace hc_z := rn_iload_n (am_cur_of (i := (11, 1, .iload_n 1, (0, 0, 0), 0)) (by decide +kernel)) g1_z hc_z
  replace hc_z := rn_aload_n (am_cur_of (i := (12, 1, .aload_n 0, (0, 0, 0), 0)) (by decide +kernel)) g0_z hc_z
  replace hc_z := rn_getR (x := 149) (am_cur_of (i := (13, 3, .getfield 12, (8, 1, 569), 0)) (by decide +kernel)) (by decide +kernel) hc_z
  replace hc_z := rn_getI (v := rg_v h 149 1) (am_cur_of (i := (16, 3, .getfield 59, (5, 1, 470), 0)) (by decide +kernel)) (by decide +kernel) rfl hc_z
  replace hc_z := rn_aload_n (am_cur_of (i := (19, 1, .aload_n 0, (0, 0, 0), 0)) (by decide +kernel)) g0_z hc_z
  replace hc_z := rn_iload_n (am_cur_of (i := (20, 1, .iload_n 1, (0, 0, 0), 0)) (by decide +kernel)) g1_z hc_z
  replace hc_z := rn_callV (M' := am_m72) (o := 148) (ar := [.int b]) (rest := [.int (rg_v h 149 1), .int b, .ref 148]) (L := lv_args 0 [.ref 148, .int b]) (am_cur_of (i := (21, 3, .invokevirtual 143, (72, 951, 3), 0)) (by decide +kernel)) rfl rfl rfl rfl hc_z
  obtain ⟨r146_z, h147_z, q148_z, hc_z⟩ := hc_z
  have y150_z := pu_of (a := 72) (by decide) rfl q148_z
  have e149_z := se_72_23 T q148_z
  replace y150_z := y150_z.symm
  subst y150_z
  subst e149_z
  replace hc_z : rn _ _ _ _ [.int (hn_z (rg_v h 149 2) b (rg_v h (40 + b.toNatClampNeg) 6)), .int (rg_v h 149 1), .int b, .ref 148] _ _ _ := hc_z
  replace hc_z := rn_iadd (w := (rg_v h 149 1) + (hn_z (rg_v h 149 2) b (rg_v h (40 + b.toNatClampNeg) 6))) (am_cur_of (i := (24, 1, .iadd, (0, 0, 0), 0)) (by decide +kernel)) rfl hc_z
  replace hc_z := rn_callV (M' := am_m73) (o := 148) (ar := [.int ((rg_v h 149 1) + (hn_z (rg_v h 149 2) b (rg_v h (40 + b.toNatClampNeg) 6))), .int b]) (rest := []) (L := lv_args 0 [.ref 148, .int b, .int ((rg_v h 149 1) + (hn_z (rg_v h 149 2) b (rg_v h (40 + b.toNatClampNeg) 6)))]) (am_cur_of (i := (25, 3, .invokevirtual 110, (73, 955, 3), 0)) (by decide +kernel)) rfl rfl rfl rfl hc_z
  obtain ⟨r151_z, h152_z, q153_z, hc_z⟩ := hc_z
  have y155_z := pu_of (a := 73) (by decide) rfl q153_z
  have e154_z := se_73_23 T q153_z
  replace y155_z := y155_z.symm
  subst y155_z
  subst e154_z
  replace hc_z : rn _ _ _ _ [.int (ef (rg_v h 150 b.toNatClampNeg) (rg_v h 152 b.toNatClampNeg) ((rg_v h 149 1) + (hn_z (rg_v h 149 2) b (rg_v h (40 + b.toNatClampNeg) 6))) (rg_v h (40 + b.toNatClampNeg) 5))] _ _ _ := hc_z
  replace hc_z := rn_istore (am_cur_of (i := (28, 2, .istore 4, (0, 0, 0), 0)) (by decide +kernel)) hc_z
  obtain ⟨_, s156_z, s157_z, g4_z, hc_z⟩ := hc_z
  replace g0_z := s156_z 0 _ (by decide) rfl g0_z
  replace g1_z := s156_z 1 _ (by decide) rfl g1_z
  replace g2_z := s156_z 2 _ (by decide) rfl g2_z
  replace g3_z := s156_z 3 _ (by decide) rfl g3_z
  clear s156_z s157_z
  replace hc_z := rn_aload_n (am_cur_of (i := (30, 1, .aload_n 3, (0, 0, 0), 0)) (by decide +kernel)) g3_z hc_z
  replace hc_z := rn_getI (v := rg_v h (40 + b.toNatClampNeg) 5) (am_cur_of (i := (31, 3, .getfield 120, (3, 5, 217), 0)) (by decide +kernel)) (rp_bf23 _ p143_z.2 5 (by decide)) rfl hc_z
  replace hc_z := rn_if (am_cur_of (i := (34, 3, .ifCond .le 18, (28, 0, 0), 0)) (by decide +kernel)) hc_z
  rcases hc_z with ⟨b158_z, hc_z⟩ | ⟨b158_z, hc_z⟩
  · replace b158_z : (rg_v h (40 + b.toNatClampNeg) 5).toInt ≤ (0 : Int32).toInt := b158_z
    replace hc_z := rn_iconst (w := 0) (am_cur_of (i := (52, 1, .iconst 0, (0, 0, 0), 0)) (by decide +kernel)) (by decide) hc_z
    replace hc_z := rn_iret (am_cur_of (i := (53, 1, .ireturn, (0, 0, 0), 0)) (by decide +kernel)) hc_z
    obtain ⟨e159_z, e160_z⟩ := hc_z
    exact ⟨_, e159_z, Or.inr ⟨rfl, by omega⟩⟩
  · replace b158_z : (0 : Int32).toInt < (rg_v h (40 + b.toNatClampNeg) 5).toInt := b158_z
    replace hc_z := rn_iload (am_cur_of (i := (37, 2, .iload 4, (0, 0, 0), 0)) (by decide +kernel)) g4_z hc_z
    replace hc_z := rn_iload_n (am_cur_of (i := (39, 1, .iload_n 2, (0, 0, 0), 0)) (by decide +kernel)) g2_z hc_z
    replace hc_z := rn_iadd (w := (ef (rg_v h 150 b.toNatClampNeg) (rg_v h 152 b.toNatClampNeg) ((rg_v h 149 1) + (hn_z (rg_v h 149 2) b (rg_v h (40 + b.toNatClampNeg) 6))) (rg_v h (40 + b.toNatClampNeg) 5)) + m) (am_cur_of (i := (40, 1, .iadd, (0, 0, 0), 0)) (by decide +kernel)) rfl hc_z
    replace hc_z := rn_aload_n (am_cur_of (i := (41, 1, .aload_n 3, (0, 0, 0), 0)) (by decide +kernel)) g3_z hc_z
    replace hc_z := rn_getI (v := rg_v h (40 + b.toNatClampNeg) 3) (am_cur_of (i := (42, 3, .getfield 134, (3, 3, 210), 0)) (by decide +kernel)) (rp_bf23 _ p143_z.2 3 (by decide)) rfl hc_z
    replace hc_z := rn_cmp (am_cur_of (i := (45, 3, .if_icmp .le 7, (28, 0, 0), 0)) (by decide +kernel)) hc_z
    rcases hc_z with ⟨b161_z, hc_z⟩ | ⟨b161_z, hc_z⟩
    · replace b161_z : ((ef (rg_v h 150 b.toNatClampNeg) (rg_v h 152 b.toNatClampNeg) ((rg_v h 149 1) + (hn_z (rg_v h 149 2) b (rg_v h (40 + b.toNatClampNeg) 6))) (rg_v h (40 + b.toNatClampNeg) 5)) + m).toInt ≤ (rg_v h (40 + b.toNatClampNeg) 3).toInt := b161_z
      replace hc_z := rn_iconst (w := 0) (am_cur_of (i := (52, 1, .iconst 0, (0, 0, 0), 0)) (by decide +kernel)) (by decide) hc_z
      replace hc_z := rn_iret (am_cur_of (i := (53, 1, .ireturn, (0, 0, 0), 0)) (by decide +kernel)) hc_z
      obtain ⟨e162_z, e163_z⟩ := hc_z
      exact ⟨_, e162_z, Or.inr ⟨rfl, by omega⟩⟩
    · replace b161_z : (rg_v h (40 + b.toNatClampNeg) 3).toInt < ((ef (rg_v h 150 b.toNatClampNeg) (rg_v h 152 b.toNatClampNeg) ((rg_v h 149 1) + (hn_z (rg_v h 149 2) b (rg_v h (40 + b.toNatClampNeg) 6))) (rg_v h (40 + b.toNatClampNeg) 5)) + m).toInt := b161_z
      replace hc_z := rn_iconst (w := 1) (am_cur_of (i := (48, 1, .iconst 1, (0, 0, 0), 0)) (by decide +kernel)) (by decide) hc_z
      replace hc_z := rn_goto (am_cur_of (i := (49, 3, .goto 4, (29, 0, 0), 0)) (by decide +kernel)) hc_z
      replace hc_z := rn_iret (am_cur_of (i := (53, 1, .ireturn, (0, 0, 0), 0)) (by decide +kernel)) hc_z
      obtain ⟨e164_z, e165_z⟩ := hc_z
      exact ⟨_, e164_z, Or.inl ⟨rfl, by omega⟩⟩
theorem se_63_23 {n : Nat} {r : Option Value} {h h' : am_H} (hc_z : rn n am_m63 0 (lv_args 0 [.ref 148, .ref 23, .ref 48]) [] h r h') : h' 148 0 = .ref 23 ∧ rg_v h' 148 5 = 2147483647 ∧ rg_v h' 148 2 = rg_v h 23 18 ∧ rg_v h' 148 3 = 0 ∧ rg_v h' 148 4 = 0 ∧ (∀ j, j < 17 → cS_z h' 149 j = cS_z h 48 j) ∧ ∀ o k, ¬ (148 ≤ o ∧ o ≤ 152) → h' o k = h o k := by
  have g0_z : am_get (lv_args 0 [.ref 148, .ref 23, .ref 48]) 0 = some (.ref 148) := rfl
  have g1_z : am_get (lv_args 0 [.ref 148, .ref 23, .ref 48]) 1 = some (.ref 23) := rfl
  have g2_z : am_get (lv_args 0 [.ref 148, .ref 23, .ref 48]) 2 = some (.ref 48) := rfl
  replace hc_z := rn_aload_n (am_cur_of (i := (0, 1, .aload_n 0, (0, 0, 0), 0)) (by decide +kernel)) g0_z hc_z
  replace hc_z := rn_aload_n (am_cur_of (i := (1, 1, .aload_n 1, (0, 0, 0), 0)) (by decide +kernel)) g1_z hc_z
  replace hc_z := rn_put (am_cur_of (i := (2, 3, .putfield 18, (8, 0, 566), 0)) (by decide +kernel)) (by decide +kernel) hc_z
  replace hc_z := rn_aload_n (am_cur_of (i := (5, 1, .aload_n 0, (0, 0, 0), 0)) (by decide +kernel)) g0_z hc_z
  replace hc_z := rn_getR (x := 149) (am_cur_of (i := (6, 3, .getfield 12, (8, 1, 569), 0)) (by decide +kernel)) (by decide +kernel) hc_z
  replace hc_z := rn_aload_n (am_cur_of (i := (9, 1, .aload_n 2, (0, 0, 0), 0)) (by decide +kernel)) g2_z hc_z
  replace hc_z := rn_callV (M' := am_m64) (o := 149) (ar := [.ref 48]) (rest := []) (L := lv_args 0 [.ref 149, .ref 48]) (am_cur_of (i := (10, 3, .invokevirtual 22, (64, 916, 3), 0)) (by decide +kernel)) rfl rfl rfl rfl hc_z
  obtain ⟨r166_z, h167_z, q168_z, hc_z⟩ := hc_z
  have vo := rn_void rfl q168_z
  subst vo
  obtain ⟨c1_z, c2_z⟩ := cp_64 st_149 st_48 (by omega) q168_z
  replace hc_z : rn _ _ _ _ [] _ _ _ := hc_z
  replace hc_z := rn_aload_n (am_cur_of (i := (13, 1, .aload_n 0, (0, 0, 0), 0)) (by decide +kernel)) g0_z hc_z
  replace hc_z := rn_aload_n (am_cur_of (i := (14, 1, .aload_n 1, (0, 0, 0), 0)) (by decide +kernel)) g1_z hc_z
  replace hc_z := rn_getI (v := rg_v h167_z 23 18) (am_cur_of (i := (15, 3, .getfield 26, (1, 18, 311), 0)) (by decide +kernel)) (by decide +kernel) rfl hc_z
  replace hc_z := rn_put (am_cur_of (i := (18, 3, .putfield 32, (8, 2, 573), 0)) (by decide +kernel)) (by decide +kernel) hc_z
  replace hc_z := rn_aload_n (am_cur_of (i := (21, 1, .aload_n 0, (0, 0, 0), 0)) (by decide +kernel)) g0_z hc_z
  replace hc_z := rn_iconst (w := 0) (am_cur_of (i := (22, 1, .iconst 0, (0, 0, 0), 0)) (by decide +kernel)) (by decide) hc_z
  replace hc_z := rn_put (am_cur_of (i := (23, 3, .putfield 33, (8, 3, 575), 0)) (by decide +kernel)) (by decide +kernel) hc_z
  replace hc_z := rn_aload_n (am_cur_of (i := (26, 1, .aload_n 0, (0, 0, 0), 0)) (by decide +kernel)) g0_z hc_z
  replace hc_z := rn_iconst (w := 0) (am_cur_of (i := (27, 1, .iconst 0, (0, 0, 0), 0)) (by decide +kernel)) (by decide) hc_z
  replace hc_z := rn_put (am_cur_of (i := (28, 3, .putfield 37, (8, 4, 577), 0)) (by decide +kernel)) (by decide +kernel) hc_z
  replace hc_z := rn_aload_n (am_cur_of (i := (31, 1, .aload_n 0, (0, 0, 0), 0)) (by decide +kernel)) g0_z hc_z
  replace hc_z := rn_ldc (w := 2147483647) (am_cur_of (i := (32, 2, .ldc 42, (0, 0, 920), 2147483647)) (by decide +kernel)) (by decide) hc_z
  replace hc_z := rn_put (am_cur_of (i := (34, 3, .putfield 43, (8, 5, 580), 0)) (by decide +kernel)) (by decide +kernel) hc_z
  replace hc_z := rn_aload_n (am_cur_of (i := (37, 1, .aload_n 0, (0, 0, 0), 0)) (by decide +kernel)) g0_z hc_z
  replace hc_z := rn_ldc (w := 2147483647) (am_cur_of (i := (38, 2, .ldc 42, (0, 0, 920), 2147483647)) (by decide +kernel)) (by decide) hc_z
  replace hc_z := rn_put (am_cur_of (i := (40, 3, .putfield 46, (8, 6, 581), 0)) (by decide +kernel)) (by decide +kernel) hc_z
  replace hc_z := rn_vret (am_cur_of (i := (43, 1, .return_, (0, 0, 0), 0)) (by decide +kernel)) hc_z
  obtain ⟨e169_z, e170_z⟩ := hc_z
  refine ⟨?_, ?_, ?_, ?_, ?_, fun j hj_z => ?_, fun o k ho => ?_⟩
  · rw [e170_z]
    exact (up_ne (by omega)).trans ((up_ne (by omega)).trans ((up_ne (by omega)).trans ((up_ne (by omega)).trans ((up_ne (by omega)).trans ((c2_z 148 0 (by omega)).trans (am_up_self _ _ _ _))))))
  · rw [e170_z]
    exact (rg_v_other (by omega)).trans rg_v_self
  · rw [e170_z]
    refine ((rg_v_other (by omega)).trans ((rg_v_other (by omega)).trans ((rg_v_other (by omega)).trans ((rg_v_other (by omega)).trans (rg_v_self))))).trans ?_
    unfold rg_v
    rw [c2_z 23 18 (by omega), up_ne (by omega)]
  · rw [e170_z]
    exact (rg_v_other (by omega)).trans ((rg_v_other (by omega)).trans ((rg_v_other (by omega)).trans rg_v_self))
  · rw [e170_z]
    exact (rg_v_other (by omega)).trans ((rg_v_other (by omega)).trans rg_v_self)
  · rw [e170_z]
    refine Eq.trans (cS_e (fun o k p1_z p2_z => (up_ne (by omega)).trans ((up_ne (by omega)).trans ((up_ne (by omega)).trans ((up_ne (by omega)).trans (up_ne (by omega)))))) j) ((c1_z j hj_z).trans ?_)
    exact cS_e (fun o k p1_z p2_z => up_ne (by omega)) j
  · rw [e170_z]
    exact (up_ne (by omega)).trans ((up_ne (by omega)).trans ((up_ne (by omega)).trans ((up_ne (by omega)).trans ((up_ne (by omega)).trans ((c2_z o k (by omega)).trans (up_ne (by omega)))))))
theorem se_74_23 {n : Nat} {r : Option Value} {h h' : am_H} {b : Int32} (T : h 148 0 = .ref 23) (el : rg_v h 148 5 = 2147483647) (s0_z : 0 ≤ (rg_v h 149 1).toInt) (m0_z : 0 ≤ (hn_z (rg_v h 149 2) b (rg_v h (40 + b.toNatClampNeg) 6)).toInt) (sm : (rg_v h 149 1).toInt + (hn_z (rg_v h 149 2) b (rg_v h (40 + b.toNatClampNeg) 6)).toInt < 2147483647) (hc_z : rn n am_m74 0 (lv_args 0 [.ref 148, .int b]) [] h r h') : (rg_v h' 149 1).toInt = (rg_v h 149 1).toInt + (hn_z (rg_v h 149 2) b (rg_v h (40 + b.toNatClampNeg) 6)).toInt ∧ gk h h' := by
  have g0_z : am_get (lv_args 0 [.ref 148, .int b]) 0 = some (.ref 148) := rfl
  have g1_z : am_get (lv_args 0 [.ref 148, .int b]) 1 = some (.int b) := rfl
  replace hc_z := rn_aload_n (am_cur_of (i := (0, 1, .aload_n 0, (0, 0, 0), 0)) (by decide +kernel)) g0_z hc_z
  replace hc_z := rn_aload_n (am_cur_of (i := (1, 1, .aload_n 0, (0, 0, 0), 0)) (by decide +kernel)) g0_z hc_z
  replace hc_z := rn_iload_n (am_cur_of (i := (2, 1, .iload_n 1, (0, 0, 0), 0)) (by decide +kernel)) g1_z hc_z
  replace hc_z := rn_callV (M' := am_m72) (o := 148) (ar := [.int b]) (rest := [.ref 148]) (L := lv_args 0 [.ref 148, .int b]) (am_cur_of (i := (3, 3, .invokevirtual 143, (72, 951, 3), 0)) (by decide +kernel)) rfl rfl rfl rfl hc_z
  obtain ⟨r171_z, h172_z, q173_z, hc_z⟩ := hc_z
  have y175_z := pu_of (a := 72) (by decide) rfl q173_z
  have e174_z := se_72_23 T q173_z
  replace y175_z := y175_z.symm
  subst y175_z
  subst e174_z
  replace hc_z : rn _ _ _ _ [.int (hn_z (rg_v h 149 2) b (rg_v h (40 + b.toNatClampNeg) 6)), .ref 148] _ _ _ := hc_z
  replace hc_z := rn_iconst (w := 1) (am_cur_of (i := (6, 1, .iconst 1, (0, 0, 0), 0)) (by decide +kernel)) (by decide) hc_z
  replace hc_z := rn_callV (M' := am_m75) (o := 148) (ar := [.int 1, .int (hn_z (rg_v h 149 2) b (rg_v h (40 + b.toNatClampNeg) 6))]) (rest := []) (L := lv_args 0 [.ref 148, .int (hn_z (rg_v h 149 2) b (rg_v h (40 + b.toNatClampNeg) 6)), .int 1]) (am_cur_of (i := (7, 3, .invokevirtual 146, (75, 965, 3), 0)) (by decide +kernel)) rfl rfl rfl rfl hc_z
  obtain ⟨r176_z, h177_z, q178_z, hc_z⟩ := hc_z
  have z := gs_75_23 T el rfl s0_z m0_z sm q178_z
  obtain ⟨z1_z, z2_z, z3_z⟩ := z
  subst z1_z
  replace hc_z : rn _ _ _ _ [.int 1] _ _ _ := hc_z
  replace hc_z := rn_iret (am_cur_of (i := (10, 1, .ireturn, (0, 0, 0), 0)) (by decide +kernel)) hc_z
  obtain ⟨e179_z, e180_z⟩ := hc_z
  rw [e180_z]
  exact ⟨z2_z, z3_z⟩
theorem se_80_23 {n : Nat} {r : Option Value} {h h' : am_H} {x : Int32} (T : h 148 0 = .ref 23) (hc_z : rn n am_m80 0 (lv_args 0 [.ref 148, .int x]) [] h r h') : ∀ o k, wB o = false → ¬ (o = 149 ∧ k = 0) → h' o k = h o k := by
  have g0_z : am_get (lv_args 0 [.ref 148, .int x]) 0 = some (.ref 148) := rfl
  have g1_z : am_get (lv_args 0 [.ref 148, .int x]) 1 = some (.int x) := rfl
  replace hc_z := rn_aload_n (am_cur_of (i := (0, 1, .aload_n 0, (0, 0, 0), 0)) (by decide +kernel)) g0_z hc_z
  replace hc_z := rn_iconst (w := 1) (am_cur_of (i := (1, 1, .iconst 1, (0, 0, 0), 0)) (by decide +kernel)) (by decide) hc_z
  replace hc_z := rn_iconst (w := 0) (am_cur_of (i := (2, 1, .iconst 0, (0, 0, 0), 0)) (by decide +kernel)) (by decide) hc_z
  replace hc_z := rn_iload_n (am_cur_of (i := (3, 1, .iload_n 1, (0, 0, 0), 0)) (by decide +kernel)) g1_z hc_z
  replace hc_z := rn_callV (M' := am_m65) (o := 148) (ar := [.int x, .int 0, .int 1]) (rest := []) (L := lv_args 0 [.ref 148, .int 1, .int 0, .int x]) (am_cur_of (i := (4, 3, .invokevirtual 94, (65, 973, 3), 0)) (by decide +kernel)) rfl rfl rfl rfl hc_z
  obtain ⟨r181_z, h182_z, q183_z, hc_z⟩ := hc_z
  obtain ⟨v184_z, rfl⟩ := fk_long (M := am_m65) rfl q183_z
  have kw := wq_65_23 T q183_z
  have T2 := wd_b kw T
  replace hc_z : rn _ _ _ _ [.long v184_z] _ _ _ := hc_z
  replace hc_z := rn_bipush (w := 99) (am_cur_of (i := (7, 2, .bipush 99, (0, 0, 0), 0)) (by decide +kernel)) (by decide) hc_z
  replace hc_z := rn_iload_n (am_cur_of (i := (9, 1, .iload_n 1, (0, 0, 0), 0)) (by decide +kernel)) g1_z hc_z
  replace hc_z := rn_callS (M' := am_m68) (ar := [.int x, .int 99, .long v184_z]) (rest := []) (L := lv_args 0 [.long v184_z, .int 99, .int x]) (am_cur_of (i := (10, 3, .invokestatic 80, (68, 935, 3), 0)) (by decide +kernel)) rfl rfl rfl rfl hc_z
  obtain ⟨r185_z, h186_z, q187_z, hc_z⟩ := hc_z
  obtain ⟨v188_z, rfl⟩ := rn_ret (M := am_m68) rfl (by decide) q187_z
  have k2_z := wq_68 q187_z
  have T3 := wd_b k2_z T2
  replace hc_z : rn _ _ _ _ [.int v188_z] _ _ _ := hc_z
  replace hc_z := rn_istore_n (am_cur_of (i := (13, 1, .istore_n 2, (0, 0, 0), 0)) (by decide +kernel)) hc_z
  obtain ⟨_, s189_z, s190_z, g2_z, hc_z⟩ := hc_z
  replace g0_z := s189_z 0 _ (by decide) rfl g0_z
  replace g1_z := s189_z 1 _ (by decide) rfl g1_z
  clear s189_z s190_z
  replace hc_z := rn_aload_n (am_cur_of (i := (14, 1, .aload_n 0, (0, 0, 0), 0)) (by decide +kernel)) g0_z hc_z
  replace hc_z := rn_getR (x := 149) (am_cur_of (i := (15, 3, .getfield 12, (8, 1, 569), 0)) (by decide +kernel)) (by decide +kernel) hc_z
  replace hc_z := rn_aload_n (am_cur_of (i := (18, 1, .aload_n 0, (0, 0, 0), 0)) (by decide +kernel)) g0_z hc_z
  replace hc_z := rn_getR (x := 149) (am_cur_of (i := (19, 3, .getfield 12, (8, 1, 569), 0)) (by decide +kernel)) (by decide +kernel) hc_z
  replace hc_z := rn_getI (v := rg_v h186_z 149 0) (am_cur_of (i := (22, 3, .getfield 49, (5, 0, 463), 0)) (by decide +kernel)) (by decide +kernel) rfl hc_z
  replace hc_z := rn_iload_n (am_cur_of (i := (25, 1, .iload_n 2, (0, 0, 0), 0)) (by decide +kernel)) g2_z hc_z
  replace hc_z := rn_iadd (w := (rg_v h186_z 149 0) + v188_z) (am_cur_of (i := (26, 1, .iadd, (0, 0, 0), 0)) (by decide +kernel)) rfl hc_z
  replace hc_z := rn_aload_n (am_cur_of (i := (27, 1, .aload_n 0, (0, 0, 0), 0)) (by decide +kernel)) g0_z hc_z
  replace hc_z := rn_getM (x := 23) (am_cur_of (i := (28, 3, .getfield 18, (8, 0, 566), 0)) (by decide +kernel)) T3 hc_z
  replace hc_z := rn_getI (v := rg_v h186_z 23 0) (am_cur_of (i := (31, 3, .getfield 52, (1, 0, 249), 0)) (by decide +kernel)) (by decide +kernel) rfl hc_z
  obtain ⟨m191_z, e192_z⟩ : ∃ mq : Int32, (if rg_v h186_z 23 0 < (rg_v h186_z 149 0) + v188_z then rg_v h186_z 23 0 else (rg_v h186_z 149 0) + v188_z) = mq := ⟨_, rfl⟩
  replace hc_z := rn_min (w := m191_z) (am_cur_of (i := (34, 3, .invokestatic 107, (0, 975, 2), 0)) (by decide +kernel)) e192_z hc_z
  replace hc_z := rn_put (am_cur_of (i := (37, 3, .putfield 49, (5, 0, 463), 0)) (by decide +kernel)) (by decide +kernel) hc_z
  replace hc_z := rn_vret (am_cur_of (i := (40, 1, .return_, (0, 0, 0), 0)) (by decide +kernel)) hc_z
  obtain ⟨e193_z, e194_z⟩ := hc_z
  rw [e194_z]
  exact fun o k e1_z e2_z => (up_ne e2_z).trans ((k2_z o k e1_z).trans (kw o k e1_z))
theorem se_77_23 {n : Nat} {r : Option Value} {h h' : am_H} {b : Int32} (T : h 148 0 = .ref 23) (el : rg_v h 148 5 = 2147483647) (s0_z : 0 ≤ (rg_v h 149 1).toInt) (m0_z : 0 ≤ (rg_v h (40 + b.toNatClampNeg) 4).toInt) (sm : (rg_v h 149 1).toInt + (rg_v h (40 + b.toNatClampNeg) 4).toInt < 2147483647) (hc_z : rn n am_m77 0 (lv_args 0 [.ref 148, .int b]) [] h r h') : r = some (.int 1) ∧ (rg_v h' 149 1).toInt = (rg_v h 149 1).toInt + (rg_v h (40 + b.toNatClampNeg) 4).toInt ∧ rg_v h' 150 b.toNatClampNeg = ef (rg_v h 150 b.toNatClampNeg) (rg_v h 152 b.toNatClampNeg) (rg_v h 149 1) (rg_v h (40 + b.toNatClampNeg) 5) + 1 ∧ rg_v h' 151 b.toNatClampNeg = rg_v h 151 b.toNatClampNeg + 1 ∧ rg_v h' 152 b.toNatClampNeg = rg_v h' 149 1 ∧ rg_v h' 149 2 = b ∧ ∀ o k, gB o k = false → ¬ (150 ≤ o ∧ o ≤ 152 ∧ k = b.toNatClampNeg) → ¬ (o = 149 ∧ k = 2) → h' o k = h o k := by
  have g0_z : am_get (lv_args 0 [.ref 148, .int b]) 0 = some (.ref 148) := rfl
  have g1_z : am_get (lv_args 0 [.ref 148, .int b]) 1 = some (.int b) := rfl
  replace hc_z := rn_aload_n (am_cur_of (i := (0, 1, .aload_n 0, (0, 0, 0), 0)) (by decide +kernel)) g0_z hc_z
  replace hc_z := rn_iload_n (am_cur_of (i := (1, 1, .iload_n 1, (0, 0, 0), 0)) (by decide +kernel)) g1_z hc_z
  replace hc_z := rn_callV (M' := am_m78) (o := 148) (ar := [.int b]) (rest := []) (L := lv_args 0 [.ref 148, .int b]) (am_cur_of (i := (2, 3, .invokevirtual 128, (78, 980, 3), 0)) (by decide +kernel)) rfl rfl rfl rfl hc_z
  obtain ⟨r195_z, h196_z, q197_z, hc_z⟩ := hc_z
  have y199_z := pu_of (a := 78) (by decide) rfl q197_z
  have e198_z := se_78_23 T q197_z
  replace y199_z := y199_z.symm
  subst y199_z
  subst e198_z
  replace hc_z : rn _ _ _ _ [.int (ef (rg_v h 150 b.toNatClampNeg) (rg_v h 152 b.toNatClampNeg) (rg_v h 149 1) (rg_v h (40 + b.toNatClampNeg) 5))] _ _ _ := hc_z
  replace hc_z := rn_istore_n (am_cur_of (i := (5, 1, .istore_n 2, (0, 0, 0), 0)) (by decide +kernel)) hc_z
  obtain ⟨_, s200_z, s201_z, g2_z, hc_z⟩ := hc_z
  replace g0_z := s200_z 0 _ (by decide) rfl g0_z
  replace g1_z := s200_z 1 _ (by decide) rfl g1_z
  clear s200_z s201_z
  replace hc_z := rn_aload_n (am_cur_of (i := (6, 1, .aload_n 0, (0, 0, 0), 0)) (by decide +kernel)) g0_z hc_z
  replace hc_z := rn_aload_n (am_cur_of (i := (7, 1, .aload_n 0, (0, 0, 0), 0)) (by decide +kernel)) g0_z hc_z
  replace hc_z := rn_getM (x := 23) (am_cur_of (i := (8, 3, .getfield 18, (8, 0, 566), 0)) (by decide +kernel)) T hc_z
  replace hc_z := rn_getR (x := 24) (am_cur_of (i := (11, 3, .getfield 116, (1, 3, 263), 0)) (by decide +kernel)) (by decide +kernel) hc_z
  replace hc_z := rn_iload_n (am_cur_of (i := (14, 1, .iload_n 1, (0, 0, 0), 0)) (by decide +kernel)) g1_z hc_z
  replace hc_z := rn_aaload (s := "AirBed$Blower") (N := 4) (q := b.toNatClampNeg) (am_cur_of (i := (15, 1, .aaload, (0, 0, 0), 0)) (by decide +kernel)) (by decide +kernel) rfl hc_z
  obtain ⟨p202_z, hc_z⟩ := hc_z
  rw [rp_bc23 (rn_G hc_z) p202_z.2] at hc_z
  replace hc_z := rn_getI (v := rg_v h (40 + b.toNatClampNeg) 4) (am_cur_of (i := (16, 3, .getfield 156, (3, 4, 215), 0)) (by decide +kernel)) (rp_bf23 _ p202_z.2 4 (by decide)) rfl hc_z
  replace hc_z := rn_iconst (w := 0) (am_cur_of (i := (19, 1, .iconst 0, (0, 0, 0), 0)) (by decide +kernel)) (by decide) hc_z
  replace hc_z := rn_callV (M' := am_m75) (o := 148) (ar := [.int 0, .int (rg_v h (40 + b.toNatClampNeg) 4)]) (rest := []) (L := lv_args 0 [.ref 148, .int (rg_v h (40 + b.toNatClampNeg) 4), .int 0]) (am_cur_of (i := (20, 3, .invokevirtual 146, (75, 965, 3), 0)) (by decide +kernel)) rfl rfl rfl rfl hc_z
  obtain ⟨r203_z, h204_z, q205_z, hc_z⟩ := hc_z
  obtain ⟨z1_z, z2_z, z3_z⟩ := gs_75_23 T el rfl s0_z m0_z sm q205_z
  subst z1_z
  have T1 := gd_b z3_z T
  replace hc_z : rn _ _ _ _ [.int 1] _ _ _ := hc_z
  replace hc_z := rn_ifT (am_cur_of (i := (23, 3, .ifCond .ne 5, (16, 0, 0), 0)) (by decide +kernel)) (by decide) hc_z
  replace hc_z := rn_aload_n (am_cur_of (i := (28, 1, .aload_n 0, (0, 0, 0), 0)) (by decide +kernel)) g0_z hc_z
  replace hc_z := rn_aload_n (am_cur_of (i := (29, 1, .aload_n 0, (0, 0, 0), 0)) (by decide +kernel)) g0_z hc_z
  replace hc_z := rn_getM (x := 23) (am_cur_of (i := (30, 3, .getfield 18, (8, 0, 566), 0)) (by decide +kernel)) T1 hc_z
  replace hc_z := rn_getR (x := 24) (am_cur_of (i := (33, 3, .getfield 116, (1, 3, 263), 0)) (by decide +kernel)) (by decide +kernel) hc_z
  replace hc_z := rn_iload_n (am_cur_of (i := (36, 1, .iload_n 1, (0, 0, 0), 0)) (by decide +kernel)) g1_z hc_z
  replace hc_z := rn_aaload (s := "AirBed$Blower") (N := 4) (q := b.toNatClampNeg) (am_cur_of (i := (37, 1, .aaload, (0, 0, 0), 0)) (by decide +kernel)) (by decide +kernel) rfl hc_z
  obtain ⟨p206_z, hc_z⟩ := hc_z
  rw [rp_bc23 (rn_G hc_z) p206_z.2] at hc_z
  replace hc_z := rn_iload_n (am_cur_of (i := (38, 1, .iload_n 2, (0, 0, 0), 0)) (by decide +kernel)) g2_z hc_z
  replace hc_z := rn_callV (M' := am_m79) (o := (40 + b.toNatClampNeg)) (ar := [.int (ef (rg_v h 150 b.toNatClampNeg) (rg_v h 152 b.toNatClampNeg) (rg_v h 149 1) (rg_v h (40 + b.toNatClampNeg) 5))]) (rest := [.ref 148]) (L := lv_args 0 [.ref (40 + b.toNatClampNeg), .int (ef (rg_v h 150 b.toNatClampNeg) (rg_v h 152 b.toNatClampNeg) (rg_v h 149 1) (rg_v h (40 + b.toNatClampNeg) 5))]) (am_cur_of (i := (39, 3, .invokevirtual 131, (79, 984, 3), 0)) (by decide +kernel)) rfl rfl rfl rfl hc_z
  obtain ⟨r207_z, h208_z, q209_z, hc_z⟩ := hc_z
  have y211_z := pu_of (a := 79) (by decide) rfl q209_z
  obtain ⟨v210_z, rfl⟩ := rn_ret (M := am_m79) rfl (by decide) q209_z
  replace y211_z := y211_z.symm
  subst y211_z
  replace hc_z : rn _ _ _ _ [.int v210_z, .ref 148] _ _ _ := hc_z
  replace hc_z := rn_callV (M' := am_m80) (o := 148) (ar := [.int v210_z]) (rest := []) (L := lv_args 0 [.ref 148, .int v210_z]) (am_cur_of (i := (42, 3, .invokevirtual 159, (80, 988, 3), 0)) (by decide +kernel)) rfl rfl rfl rfl hc_z
  obtain ⟨r212_z, h213_z, q214_z, hc_z⟩ := hc_z
  have vo := rn_void rfl q214_z
  subst vo
  have fk := se_80_23 T1 q214_z
  replace hc_z : rn _ _ _ _ [] _ _ _ := hc_z
  replace hc_z := rn_aload_n (am_cur_of (i := (45, 1, .aload_n 0, (0, 0, 0), 0)) (by decide +kernel)) g0_z hc_z
  replace hc_z := rn_getR (x := 149) (am_cur_of (i := (46, 3, .getfield 12, (8, 1, 569), 0)) (by decide +kernel)) (by decide +kernel) hc_z
  replace hc_z := rn_getR (x := 150) (am_cur_of (i := (49, 3, .getfield 125, (5, 5, 481), 0)) (by decide +kernel)) (by decide +kernel) hc_z
  replace hc_z := rn_iload_n (am_cur_of (i := (52, 1, .iload_n 1, (0, 0, 0), 0)) (by decide +kernel)) g1_z hc_z
  replace hc_z := rn_iload_n (am_cur_of (i := (53, 1, .iload_n 2, (0, 0, 0), 0)) (by decide +kernel)) g2_z hc_z
  replace hc_z := rn_iconst (w := 1) (am_cur_of (i := (54, 1, .iconst 1, (0, 0, 0), 0)) (by decide +kernel)) (by decide) hc_z
  replace hc_z := rn_iadd (w := (ef (rg_v h 150 b.toNatClampNeg) (rg_v h 152 b.toNatClampNeg) (rg_v h 149 1) (rg_v h (40 + b.toNatClampNeg) 5)) + 1) (am_cur_of (i := (55, 1, .iadd, (0, 0, 0), 0)) (by decide +kernel)) rfl hc_z
  replace hc_z := rn_iastore (N := 4) (q := b.toNatClampNeg) (am_cur_of (i := (56, 1, .iastore, (0, 0, 0), 0)) (by decide +kernel)) (by decide +kernel) rfl hc_z
  obtain ⟨p215_z, hc_z⟩ := hc_z
  replace hc_z := rn_aload_n (am_cur_of (i := (57, 1, .aload_n 0, (0, 0, 0), 0)) (by decide +kernel)) g0_z hc_z
  replace hc_z := rn_getR (x := 149) (am_cur_of (i := (58, 3, .getfield 12, (8, 1, 569), 0)) (by decide +kernel)) (by decide +kernel) hc_z
  replace hc_z := rn_getR (x := 151) (am_cur_of (i := (61, 3, .getfield 163, (5, 6, 484), 0)) (by decide +kernel)) (by decide +kernel) hc_z
  replace hc_z := rn_iload_n (am_cur_of (i := (64, 1, .iload_n 1, (0, 0, 0), 0)) (by decide +kernel)) g1_z hc_z
  replace hc_z := rn_dup2 (am_cur_of (i := (65, 1, .dup2, (0, 0, 0), 0)) (by decide +kernel)) hc_z
  replace hc_z := rn_iaload (N := 4) (q := b.toNatClampNeg) (v := rg_v h213_z 151 b.toNatClampNeg) (am_cur_of (i := (66, 1, .iaload, (0, 0, 0), 0)) (by decide +kernel)) (by decide +kernel) rfl ((rg_v_other (by omega)).trans (rfl)) hc_z
  obtain ⟨p216_z, hc_z⟩ := hc_z
  replace hc_z := rn_iconst (w := 1) (am_cur_of (i := (67, 1, .iconst 1, (0, 0, 0), 0)) (by decide +kernel)) (by decide) hc_z
  replace hc_z := rn_iadd (w := (rg_v h213_z 151 b.toNatClampNeg) + 1) (am_cur_of (i := (68, 1, .iadd, (0, 0, 0), 0)) (by decide +kernel)) rfl hc_z
  replace hc_z := rn_iastore (N := 4) (q := b.toNatClampNeg) (am_cur_of (i := (69, 1, .iastore, (0, 0, 0), 0)) (by decide +kernel)) (by decide +kernel) rfl hc_z
  obtain ⟨p217_z, hc_z⟩ := hc_z
  replace hc_z := rn_aload_n (am_cur_of (i := (70, 1, .aload_n 0, (0, 0, 0), 0)) (by decide +kernel)) g0_z hc_z
  replace hc_z := rn_getR (x := 149) (am_cur_of (i := (71, 3, .getfield 12, (8, 1, 569), 0)) (by decide +kernel)) (by decide +kernel) hc_z
  replace hc_z := rn_getR (x := 152) (am_cur_of (i := (74, 3, .getfield 113, (5, 7, 486), 0)) (by decide +kernel)) (by decide +kernel) hc_z
  replace hc_z := rn_iload_n (am_cur_of (i := (77, 1, .iload_n 1, (0, 0, 0), 0)) (by decide +kernel)) g1_z hc_z
  replace hc_z := rn_aload_n (am_cur_of (i := (78, 1, .aload_n 0, (0, 0, 0), 0)) (by decide +kernel)) g0_z hc_z
  replace hc_z := rn_getR (x := 149) (am_cur_of (i := (79, 3, .getfield 12, (8, 1, 569), 0)) (by decide +kernel)) (by decide +kernel) hc_z
  replace hc_z := rn_getI (v := rg_v h213_z 149 1) (am_cur_of (i := (82, 3, .getfield 59, (5, 1, 470), 0)) (by decide +kernel)) (by decide +kernel) ((rg_v_other (by omega)).trans ((rg_v_other (by omega)).trans (rfl))) hc_z
  replace hc_z := rn_iastore (N := 4) (q := b.toNatClampNeg) (am_cur_of (i := (85, 1, .iastore, (0, 0, 0), 0)) (by decide +kernel)) (by decide +kernel) rfl hc_z
  obtain ⟨p218_z, hc_z⟩ := hc_z
  replace hc_z := rn_aload_n (am_cur_of (i := (86, 1, .aload_n 0, (0, 0, 0), 0)) (by decide +kernel)) g0_z hc_z
  replace hc_z := rn_getR (x := 149) (am_cur_of (i := (87, 3, .getfield 12, (8, 1, 569), 0)) (by decide +kernel)) (by decide +kernel) hc_z
  replace hc_z := rn_iload_n (am_cur_of (i := (90, 1, .iload_n 1, (0, 0, 0), 0)) (by decide +kernel)) g1_z hc_z
  replace hc_z := rn_put (am_cur_of (i := (91, 3, .putfield 137, (5, 2, 474), 0)) (by decide +kernel)) (by decide +kernel) hc_z
  replace hc_z := rn_iconst (w := 1) (am_cur_of (i := (94, 1, .iconst 1, (0, 0, 0), 0)) (by decide +kernel)) (by decide) hc_z
  replace hc_z := rn_iret (am_cur_of (i := (95, 1, .ireturn, (0, 0, 0), 0)) (by decide +kernel)) hc_z
  obtain ⟨e219_z, e220_z⟩ := hc_z
  have f1_z : ∀ o k, gB o k = false → ¬ (o = 149 ∧ k = 0) → h213_z o k = h o k := fun o k e1_z e2_z => (fk o k (gB_w e1_z) e2_z).trans (z3_z o k e1_z)
  have e1_z : rg_v h213_z 149 1 = rg_v h204_z 149 1 := by
    unfold rg_v
    rw [fk 149 1 rfl (by omega)]
  have e2_z : rg_v h213_z 151 b.toNatClampNeg = rg_v h 151 b.toNatClampNeg := by
    unfold rg_v
    rw [f1_z 151 b.toNatClampNeg (by rfl) (by omega)]
  refine ⟨e219_z, ?_, ?_, ?_, ?_, ?_, fun o k g1_z g2_z g3_z => ?_⟩
  · rw [e220_z]
    refine Eq.trans (congrArg Int32.toInt (((rg_v_other (by omega)).trans ((rg_v_other (by omega)).trans ((rg_v_other (by omega)).trans ((rg_v_other (by omega)).trans (rfl))))))) ?_
    rw [e1_z]
    exact z2_z
  · rw [e220_z]
    exact ((rg_v_other (by omega)).trans ((rg_v_other (by omega)).trans ((rg_v_other (by omega)).trans (rg_v_self))))
  · rw [e220_z]
    refine Eq.trans (((rg_v_other (by omega)).trans ((rg_v_other (by omega)).trans (rg_v_self)))) ?_
    rw [e2_z]
  · rw [e220_z]
    exact Eq.trans (((rg_v_other (by omega)).trans (rg_v_self))) (Eq.symm (((rg_v_other (by omega)).trans ((rg_v_other (by omega)).trans ((rg_v_other (by omega)).trans ((rg_v_other (by omega)).trans (rfl)))))))
  · rw [e220_z]
    exact rg_v_self
  · rw [e220_z]
    have g0_z : ¬ (o = 149 ∧ k = 0) := by
      rintro ⟨q1_z, q2_z⟩
      rw [q1_z, q2_z] at g1_z
      exact absurd g1_z (by decide)
    exact (up_ne (by omega)).trans ((up_ne (by omega)).trans ((up_ne (by omega)).trans ((up_ne (by omega)).trans (f1_z o k g1_z g0_z))))
theorem hn_r {l b x : Int32} (h0_z : 0 ≤ x.toInt) (h9_z : x.toInt ≤ 99) : 0 ≤ (hn_z l b x).toInt ∧ (hn_z l b x).toInt ≤ 99 := by
  unfold hn_z
  split
  · decide
  · exact ⟨h0_z, h9_z⟩
theorem se_mt {m t : Int32} (m1_z : 1 ≤ m.toInt) (m20_z : m.toInt ≤ 20) (t0_z : 0 ≤ t.toInt) (t9_z : t.toInt ≤ 99) : (m * t).toInt = m.toInt * t.toInt ∧ 0 ≤ m.toInt * t.toInt ∧ m.toInt * t.toInt ≤ 1980 := by
  have a : 0 ≤ m.toInt * t.toInt := Int.mul_nonneg (by omega) t0_z
  have c : m.toInt * t.toInt ≤ 20 * 99 := Int.mul_le_mul m20_z t9_z t0_z (by decide)
  exact ⟨ab_imul (by omega) (by omega), a, by omega⟩
theorem se_bn {a b : Nat} (h : ¬ a = b) : Nat.beq a b = false := by
  cases q : Nat.beq a b with
  | false => rfl
  | true => exact absurd (Nat.eq_of_beq_eq_true q) h
theorem se_gb {o k : Nat} (a : 149 ≤ o) (c : o ≤ 149 + 3) (e : ¬ (o = 149 ∧ k ≤ 2)) : gB o k = false := by
  unfold gB wB
  rw [se_bn (show ¬ o = 17 by omega), se_bn (show ¬ o = 18 by omega), se_bn (show ¬ o = 38 by omega), se_bn (show ¬ o = 39 by omega), se_bn (show ¬ o = 148 by omega)]
  by_cases q : o = 149
  · cases z : Nat.ble k 1 with
    | false => simp
    | true =>
      have := Nat.le_of_ble_eq_true z
      omega
  · rw [se_bn q]
    rfl
/-- breaths one behind another: how many count, the second behind them, how many in all -/
def bS (rests takes : Int32) : Nat → Int32 → Int32 → Int32 → Int32
  | 0, s, _, _ => s
  | k + 1, s, e, t => bS rests takes k (ef s e t rests + 1) (t + takes) (t + takes)
def bT (takes : Int32) : Nat → Int32 → Int32
  | 0, t => t
  | k + 1, t => bT takes k (t + takes)
def ad1_z : Nat → Int32 → Int32
  | 0, x => x
  | k + 1, x => ad1_z k (x + 1)
/-- the state behind n breaths of b -/
def bW (f : Nat → Int32) (b : Int32) (n : Nat) (t rests takes : Int32) (j : Nat) : Int32 :=
  if j = 1 then bT takes n t else if j = 2 then b else if j = 5 + b.toNatClampNeg then bS rests takes n (f (5 + b.toNatClampNeg)) (f (13 + b.toNatClampNeg)) t else if j = 9 + b.toNatClampNeg then ad1_z n (f (9 + b.toNatClampNeg)) else if j = 13 + b.toNatClampNeg then bT takes n t else f j
theorem cS_s {h : am_H} {a b : Nat} (hb_z : b < 4) : cS_z h a (5 + b) = rg_v h (a + 1) b := by
  unfold cS_z
  rw [if_neg (by omega), if_pos (by omega), show 5 + b - 5 = b by omega]
theorem cS_a {h : am_H} {a b : Nat} (hb_z : b < 4) : cS_z h a (9 + b) = rg_v h (a + 2) b := by
  unfold cS_z
  rw [if_neg (by omega), if_neg (by omega), if_pos (by omega), show 9 + b - 9 = b by omega]
theorem cS_n {h : am_H} {a b : Nat} (hb_z : b < 4) : cS_z h a (13 + b) = rg_v h (a + 3) b := by
  unfold cS_z
  rw [if_neg (by omega), if_neg (by omega), if_neg (by omega), show 13 + b - 13 = b by omega]
theorem cS_x {h h' : am_H} {a b : Nat} (e : ∀ o k, a ≤ o → o ≤ a + 3 → ¬ (o = a ∧ k ≤ 2) → ¬ (a + 1 ≤ o ∧ k = b) → h' o k = h o k) {j : Nat} (j3_z : 3 ≤ j) (n1_z : ¬ j = 5 + b) (n2_z : ¬ j = 9 + b) (n3_z : ¬ j = 13 + b) : cS_z h' a j = cS_z h a j := by
  have ev_z : ∀ o k, a ≤ o → o ≤ a + 3 → ¬ (o = a ∧ k ≤ 2) → ¬ (a + 1 ≤ o ∧ k = b) → rg_v h' o k = rg_v h o k := by
    intro o k h1_z h2_z h3_z h4_z
    unfold rg_v
    rw [e o k h1_z h2_z h3_z h4_z]
  unfold cS_z
  by_cases c1_z : j < 5
  · rw [if_pos c1_z, if_pos c1_z, ev_z a j (by omega) (by omega) (by omega) (by omega)]
  · rw [if_neg c1_z, if_neg c1_z]
    by_cases c2_z : j < 9
    · rw [if_pos c2_z, if_pos c2_z, ev_z (a + 1) (j - 5) (by omega) (by omega) (by omega) (by omega)]
    · rw [if_neg c2_z, if_neg c2_z]
      by_cases c3_z : j < 13
      · rw [if_pos c3_z, if_pos c3_z, ev_z (a + 2) (j - 9) (by omega) (by omega) (by omega) (by omega)]
      · rw [if_neg c3_z, if_neg c3_z, ev_z (a + 3) (j - 13) (by omega) (by omega) (by omega) (by omega)]
theorem bT_i {takes : Int32} (t0_z : 0 ≤ takes.toInt) : ∀ (k : Nat) (t : Int32), 0 ≤ t.toInt → t.toInt + k * takes.toInt < 2147483647 → (bT takes k t).toInt = t.toInt + k * takes.toInt
  | 0, t, _, _ => by
    show t.toInt = t.toInt + ((0 : Nat) : Int) * takes.toInt
    rw [show ((0 : Nat) : Int) = 0 from rfl, Int.zero_mul]
    omega
  | k + 1, t, h0_z, h1_z => by
    rw [show ((k + 1 : Nat) : Int) * takes.toInt = k * takes.toInt + takes.toInt by rw [Int.natCast_add, Int.add_mul]; omega] at h1_z ⊢
    have kn : 0 ≤ (k : Int) * takes.toInt := Int.mul_nonneg (Int.natCast_nonneg k) t0_z
    have e := ab_iadd (x := t) (y := takes) (by omega) (by omega)
    show (bT takes k (t + takes)).toInt = _
    rw [bT_i t0_z k (t + takes) (by omega) (by omega), e]
    omega
theorem se_l2 {r : Option Value} {h' : am_H} {b m : Int32} : ∀ (f k : Nat) (i : Int32) (ls : am_L) (h : am_H), h 148 0 = .ref 2 → rg_v h 148 5 = 2147483647 → 0 ≤ (rg_v h 149 1).toInt → 0 ≤ (rg_v h (19 + b.toNatClampNeg) 4).toInt → (rg_v h 149 1).toInt + k * (rg_v h (19 + b.toNatClampNeg) 4).toInt < 2147483647 → b.toNatClampNeg < 4 → am_get ls 0 = some (.ref 0) → am_get ls 1 = some (.int b) → am_get ls 2 = some (.int m) → am_get ls 4 = some (.int i) → i.toInt + k = m.toInt → rn f am_m69 56 ls [] h r h' → ∃ l2_z h2_z, am_get l2_z 0 = some (.ref 0) ∧ rn f am_m69 66 l2_z [] h2_z r h' ∧ h2_z 148 0 = .ref 2 ∧ rg_v h2_z 149 1 = bT (rg_v h (19 + b.toNatClampNeg) 4) k (rg_v h 149 1) ∧ rg_v h2_z 150 b.toNatClampNeg = bS (rg_v h (19 + b.toNatClampNeg) 5) (rg_v h (19 + b.toNatClampNeg) 4) k (rg_v h 150 b.toNatClampNeg) (rg_v h 152 b.toNatClampNeg) (rg_v h 149 1) ∧ rg_v h2_z 151 b.toNatClampNeg = ad1_z k (rg_v h 151 b.toNatClampNeg) ∧ (0 < k → rg_v h2_z 152 b.toNatClampNeg = bT (rg_v h (19 + b.toNatClampNeg) 4) k (rg_v h 149 1) ∧ rg_v h2_z 149 2 = b) ∧ (k = 0 → h2_z = h) ∧ ∀ o q, gB o q = false → ¬ (150 ≤ o ∧ o ≤ 152 ∧ q = b.toNatClampNeg) → ¬ (o = 149 ∧ q = 2) → h2_z o q = h o q := by
  intro f
  induction f with
  | zero => intro k i ls h T el s0_z t0_z sk b4_z g0_z g1_z g2_z g4_z ik hc_z; exact absurd hc_z rn_0
  | succ f ih_z =>
    intro k i ls h T el s0_z t0_z sk b4_z g0_z g1_z g2_z g4_z ik hc_z
    replace hc_z := rn_iload (am_cur_of (i := (102, 2, .iload 4, (0, 0, 0), 0)) (by decide +kernel)) g4_z hc_z
    replace hc_z := rn_iload_n (am_cur_of (i := (104, 1, .iload_n 2, (0, 0, 0), 0)) (by decide +kernel)) g2_z hc_z
    replace hc_z := rn_cmp (am_cur_of (i := (105, 3, .if_icmp .ge 18, (66, 0, 0), 0)) (by decide +kernel)) hc_z
    rcases hc_z with ⟨b221_z, hc_z⟩ | ⟨b221_z, hc_z⟩
    · replace b221_z : m.toInt ≤ i.toInt := b221_z
      obtain rfl : k = 0 := by omega
      exact ⟨_, _, g0_z, hc_z, T, rfl, rfl, rfl, fun q => absurd q (by omega), fun _ => rfl, fun _ _ _ _ _ => rfl⟩
    · replace b221_z : i.toInt < m.toInt := b221_z
      obtain ⟨k, rfl⟩ : ∃ k2_z, k = k2_z + 1 := ⟨k - 1, by omega⟩
      have ci_z := fk_c1 b221_z
      rw [show ((k + 1 : Nat) : Int) * (rg_v h (19 + b.toNatClampNeg) 4).toInt = k * (rg_v h (19 + b.toNatClampNeg) 4).toInt + (rg_v h (19 + b.toNatClampNeg) 4).toInt by rw [Int.natCast_add, Int.add_mul]; omega] at sk
      have kn : 0 ≤ (k : Int) * (rg_v h (19 + b.toNatClampNeg) 4).toInt := Int.mul_nonneg (Int.natCast_nonneg k) t0_z
      replace hc_z := rn_aload_n (am_cur_of (i := (108, 1, .aload_n 0, (0, 0, 0), 0)) (by decide +kernel)) g0_z hc_z
      replace hc_z := rn_getR (x := 148) (am_cur_of (i := (109, 3, .getfield 64, (0, 11, 672), 0)) (by decide +kernel)) (by decide +kernel) hc_z
      replace hc_z := rn_iload_n (am_cur_of (i := (112, 1, .iload_n 1, (0, 0, 0), 0)) (by decide +kernel)) g1_z hc_z
      replace hc_z := rn_callV (M' := am_m77) (o := 148) (ar := [.int b]) (rest := []) (L := lv_args 0 [.ref 148, .int b]) (am_cur_of (i := (113, 3, .invokevirtual 205, (77, 976, 3), 0)) (by decide +kernel)) rfl rfl rfl rfl hc_z
      obtain ⟨r222_z, h223_z, q224_z, hc_z⟩ := hc_z
      obtain ⟨y0_z, y1_z, y2_z, y3_z, y4_z, y5_z, y6_z⟩ := se_77_2 T el s0_z t0_z (by omega) q224_z
      subst y0_z
      have T1 : h223_z 148 0 = .ref 2 := (y6_z 148 0 rfl (by omega) (by omega)).trans T
      have el1_z : rg_v h223_z 148 5 = 2147483647 := by
        unfold rg_v at el ⊢
        rw [y6_z 148 5 rfl (by omega) (by omega)]
        exact el
      have bc : ∀ q, rg_v h223_z (19 + b.toNatClampNeg) q = rg_v h (19 + b.toNatClampNeg) q := by
        intro q
        unfold rg_v
        rw [y6_z (19 + b.toNatClampNeg) q (by
          have e : ∀ c, c < 4 → gB (19 + c) q = false := by
            intro c hc4_z
            match c, hc4_z with
            | 0, _ => rfl
            | 1, _ => rfl
            | 2, _ => rfl
            | 3, _ => rfl
          exact e _ b4_z) (by omega) (by omega)]
      have st : rg_v h223_z 149 1 = rg_v h 149 1 + (rg_v h (19 + b.toNatClampNeg) 4) := Int32.toInt_inj.mp (by rw [y1_z, ab_iadd (by omega) (by omega)])
      replace hc_z : rn _ _ _ _ [.int 1] _ _ _ := hc_z
      replace hc_z := rn_pop (am_cur_of (i := (116, 1, .pop, (0, 0, 0), 0)) (by decide +kernel)) hc_z
      replace hc_z := rn_iinc (w := i + 1) (am_cur_of (i := (117, 3, .iinc 4 1, (0, 0, 0), 0)) (by decide +kernel)) g4_z rfl hc_z
      obtain ⟨_, s225_z, s226_z, g4_z, hc_z⟩ := hc_z
      replace g0_z := s225_z 0 _ (by decide) rfl g0_z
      replace g1_z := s225_z 1 _ (by decide) rfl g1_z
      replace g2_z := s225_z 2 _ (by decide) rfl g2_z
      clear s225_z s226_z
      replace hc_z := rn_gotoL (am_cur_of (i := (120, 3, .goto (-18), (56, 0, 0), 0)) (by decide +kernel)) hc_z
      obtain ⟨l2_z, h2_z, f0_z, f1_z, f2_z, f3_z, f4_z, f5_z, f6_z, f8_z, f7_z⟩ := ih_z k (i + 1) _ h223_z T1 el1_z (by rw [y1_z]; omega) (by rw [bc 4]; exact t0_z) (by rw [bc 4, y1_z]; omega) b4_z g0_z g1_z g2_z g4_z (by omega) hc_z
      rw [bc 4, st] at f3_z
      rw [bc 4, bc 5, st, y2_z, y4_z, st] at f4_z
      rw [y3_z] at f5_z
      rw [bc 4, st] at f6_z
      refine ⟨l2_z, h2_z, f0_z, rn_up (Nat.le_succ _) f1_z, f2_z, f3_z, f4_z, f5_z, fun _ => ?_, fun q => absurd q (by omega), fun o q q1_z q2_z q3_z => (f7_z o q q1_z q2_z q3_z).trans (y6_z o q q1_z q2_z q3_z)⟩
      by_cases k0_z : 0 < k
      · exact f6_z k0_z
      · obtain rfl : k = 0 := by omega
        rw [f8_z rfl]
        refine ⟨?_, y5_z⟩
        rw [y4_z, st]
        rfl
/-- the history behind a push of what stands at 48 -/
def hp_z (h0_z h h' : am_H) : Prop := (∀ j, j < 17 → cS_z h' (62 + 4 * (rg_v h 60 1).toNatClampNeg) j = cS_z h0_z 48 j) ∧ (rg_v h' 60 1).toInt = ((rg_v h 60 1).toInt + 1) % 20 ∧ (rg_v h' 60 2).toInt = min ((rg_v h 60 2).toInt + 1) 20
theorem se_81 {n : Nat} {r : Option Value} {h h' : am_H} (n0_z : 0 ≤ (rg_v h 60 1).toInt) (n1_z : (rg_v h 60 1).toInt < 20) (s0_z : 0 ≤ (rg_v h 60 2).toInt) (s1_z : (rg_v h 60 2).toInt ≤ 20) (hc_z : rn n am_m81 0 (lv_args 0 [.ref 0]) [] h r h') : (∃ v : Int32, r = some (.int v)) ∧ (∀ j, j < 17 → cS_z h' (62 + 4 * (rg_v h 60 1).toNatClampNeg) j = cS_z h 48 j) ∧ (rg_v h' 60 1).toInt = ((rg_v h 60 1).toInt + 1) % 20 ∧ (rg_v h' 60 2).toInt = min ((rg_v h 60 2).toInt + 1) 20 ∧ (∀ j, j < 17 → cS_z h' 48 j = cS_z h 149 j) ∧ ∀ o k, ¬ (48 ≤ o ∧ o ≤ 48 + 3) → ¬ (62 + 4 * (rg_v h 60 1).toNatClampNeg ≤ o ∧ o ≤ 62 + 4 * (rg_v h 60 1).toNatClampNeg + 3) → ¬ (o = 60 ∧ (k = 1 ∨ k = 2)) → h' o k = h o k := by
  have g0_z : am_get (lv_args 0 [.ref 0]) 0 = some (.ref 0) := rfl
  replace hc_z := rn_aload_n (am_cur_of (i := (0, 1, .aload_n 0, (0, 0, 0), 0)) (by decide +kernel)) g0_z hc_z
  replace hc_z := rn_getR (x := 60) (am_cur_of (i := (1, 3, .getfield 50, (0, 9, 670), 0)) (by decide +kernel)) (by decide +kernel) hc_z
  replace hc_z := rn_aload_n (am_cur_of (i := (4, 1, .aload_n 0, (0, 0, 0), 0)) (by decide +kernel)) g0_z hc_z
  replace hc_z := rn_getR (x := 48) (am_cur_of (i := (5, 3, .getfield 37, (0, 5, 666), 0)) (by decide +kernel)) (by decide +kernel) hc_z
  replace hc_z := rn_callV (M' := am_m82) (o := 60) (ar := [.ref 48]) (rest := []) (L := lv_args 0 [.ref 60, .ref 48]) (am_cur_of (i := (8, 3, .invokevirtual 212, (82, 996, 3), 0)) (by decide +kernel)) rfl rfl rfl rfl hc_z
  obtain ⟨r227_z, h228_z, q229_z, hc_z⟩ := hc_z
  have vo := rn_void rfl q229_z
  subst vo
  obtain ⟨p1_z, p2_z, p3_z, p4_z⟩ := hp_82 rfl rfl n0_z n1_z s0_z s1_z q229_z
  have cn := rt_cl n0_z
  replace hc_z : rn _ _ _ _ [] _ _ _ := hc_z
  replace hc_z := rn_aload_n (am_cur_of (i := (11, 1, .aload_n 0, (0, 0, 0), 0)) (by decide +kernel)) g0_z hc_z
  replace hc_z := rn_getR (x := 48) (am_cur_of (i := (12, 3, .getfield 37, (0, 5, 666), 0)) (by decide +kernel)) (by decide +kernel) hc_z
  replace hc_z := rn_aload_n (am_cur_of (i := (15, 1, .aload_n 0, (0, 0, 0), 0)) (by decide +kernel)) g0_z hc_z
  replace hc_z := rn_getR (x := 148) (am_cur_of (i := (16, 3, .getfield 64, (0, 11, 672), 0)) (by decide +kernel)) (by decide +kernel) hc_z
  replace hc_z := rn_getR (x := 149) (am_cur_of (i := (19, 3, .getfield 216, (8, 1, 572), 0)) (by decide +kernel)) (by decide +kernel) hc_z
  replace hc_z := rn_callV (M' := am_m64) (o := 48) (ar := [.ref 149]) (rest := []) (L := lv_args 0 [.ref 48, .ref 149]) (am_cur_of (i := (22, 3, .invokevirtual 219, (64, 1002, 3), 0)) (by decide +kernel)) rfl rfl rfl rfl hc_z
  obtain ⟨r230_z, h231_z, q232_z, hc_z⟩ := hc_z
  have vo := rn_void rfl q232_z
  subst vo
  obtain ⟨c1_z, c2_z⟩ := cp_64 st_48 st_149 (by omega) q232_z
  replace hc_z : rn _ _ _ _ [] _ _ _ := hc_z
  replace hc_z := rn_aload_n (am_cur_of (i := (25, 1, .aload_n 0, (0, 0, 0), 0)) (by decide +kernel)) g0_z hc_z
  replace hc_z := rn_getR (x := 48) (am_cur_of (i := (26, 3, .getfield 37, (0, 5, 666), 0)) (by decide +kernel)) (by decide +kernel) hc_z
  replace hc_z := rn_getI (v := rg_v h231_z 48 0) (am_cur_of (i := (29, 3, .getfield 222, (5, 0, 466), 0)) (by decide +kernel)) (by decide +kernel) rfl hc_z
  replace hc_z := rn_iret (am_cur_of (i := (32, 1, .ireturn, (0, 0, 0), 0)) (by decide +kernel)) hc_z
  obtain ⟨e233_z, e234_z⟩ := hc_z
  refine ⟨⟨_, e233_z⟩, ?_, ?_, ?_, ?_, ?_⟩
  · intro j hj_z
    rw [e234_z]
    refine Eq.trans (cS_e (fun o k q1_z q2_z => c2_z o k (by omega)) j) (p1_z j hj_z)
  · rw [e234_z]
    refine Eq.trans (congrArg Int32.toInt (?_ : _ = _)) p2_z
    unfold rg_v
    rw [c2_z 60 1 (by omega)]
  · rw [e234_z]
    refine Eq.trans (congrArg Int32.toInt (?_ : _ = _)) p3_z
    unfold rg_v
    rw [c2_z 60 2 (by omega)]
  · intro j hj_z
    rw [e234_z]
    refine (c1_z j hj_z).trans ?_
    exact cS_e (fun o k q1_z q2_z => p4_z o k (by omega) (by omega)) j
  · intro o k q1_z q2_z q3_z
    rw [e234_z]
    exact (c2_z o k q1_z).trans (p4_z o k q2_z q3_z)
theorem se_l23 {r : Option Value} {h' : am_H} {b m : Int32} : ∀ (f k : Nat) (i : Int32) (ls : am_L) (h : am_H), h 148 0 = .ref 23 → rg_v h 148 5 = 2147483647 → 0 ≤ (rg_v h 149 1).toInt → 0 ≤ (rg_v h (40 + b.toNatClampNeg) 4).toInt → (rg_v h 149 1).toInt + k * (rg_v h (40 + b.toNatClampNeg) 4).toInt < 2147483647 → b.toNatClampNeg < 4 → am_get ls 0 = some (.ref 0) → am_get ls 1 = some (.int b) → am_get ls 2 = some (.int m) → am_get ls 4 = some (.int i) → i.toInt + k = m.toInt → rn f am_m69 56 ls [] h r h' → ∃ l2_z h2_z, am_get l2_z 0 = some (.ref 0) ∧ rn f am_m69 66 l2_z [] h2_z r h' ∧ h2_z 148 0 = .ref 23 ∧ rg_v h2_z 149 1 = bT (rg_v h (40 + b.toNatClampNeg) 4) k (rg_v h 149 1) ∧ rg_v h2_z 150 b.toNatClampNeg = bS (rg_v h (40 + b.toNatClampNeg) 5) (rg_v h (40 + b.toNatClampNeg) 4) k (rg_v h 150 b.toNatClampNeg) (rg_v h 152 b.toNatClampNeg) (rg_v h 149 1) ∧ rg_v h2_z 151 b.toNatClampNeg = ad1_z k (rg_v h 151 b.toNatClampNeg) ∧ (0 < k → rg_v h2_z 152 b.toNatClampNeg = bT (rg_v h (40 + b.toNatClampNeg) 4) k (rg_v h 149 1) ∧ rg_v h2_z 149 2 = b) ∧ (k = 0 → h2_z = h) ∧ ∀ o q, gB o q = false → ¬ (150 ≤ o ∧ o ≤ 152 ∧ q = b.toNatClampNeg) → ¬ (o = 149 ∧ q = 2) → h2_z o q = h o q := by
  intro f
  induction f with
  | zero => intro k i ls h T el s0_z t0_z sk b4_z g0_z g1_z g2_z g4_z ik hc_z; exact absurd hc_z rn_0
  | succ f ih_z =>
    intro k i ls h T el s0_z t0_z sk b4_z g0_z g1_z g2_z g4_z ik hc_z
    replace hc_z := rn_iload (am_cur_of (i := (102, 2, .iload 4, (0, 0, 0), 0)) (by decide +kernel)) g4_z hc_z
    replace hc_z := rn_iload_n (am_cur_of (i := (104, 1, .iload_n 2, (0, 0, 0), 0)) (by decide +kernel)) g2_z hc_z
    replace hc_z := rn_cmp (am_cur_of (i := (105, 3, .if_icmp .ge 18, (66, 0, 0), 0)) (by decide +kernel)) hc_z
    rcases hc_z with ⟨b235_z, hc_z⟩ | ⟨b235_z, hc_z⟩
    · replace b235_z : m.toInt ≤ i.toInt := b235_z
      obtain rfl : k = 0 := by omega
      exact ⟨_, _, g0_z, hc_z, T, rfl, rfl, rfl, fun q => absurd q (by omega), fun _ => rfl, fun _ _ _ _ _ => rfl⟩
    · replace b235_z : i.toInt < m.toInt := b235_z
      obtain ⟨k, rfl⟩ : ∃ k2_z, k = k2_z + 1 := ⟨k - 1, by omega⟩
      have ci_z := fk_c1 b235_z
      rw [show ((k + 1 : Nat) : Int) * (rg_v h (40 + b.toNatClampNeg) 4).toInt = k * (rg_v h (40 + b.toNatClampNeg) 4).toInt + (rg_v h (40 + b.toNatClampNeg) 4).toInt by rw [Int.natCast_add, Int.add_mul]; omega] at sk
      have kn : 0 ≤ (k : Int) * (rg_v h (40 + b.toNatClampNeg) 4).toInt := Int.mul_nonneg (Int.natCast_nonneg k) t0_z
      replace hc_z := rn_aload_n (am_cur_of (i := (108, 1, .aload_n 0, (0, 0, 0), 0)) (by decide +kernel)) g0_z hc_z
      replace hc_z := rn_getR (x := 148) (am_cur_of (i := (109, 3, .getfield 64, (0, 11, 672), 0)) (by decide +kernel)) (by decide +kernel) hc_z
      replace hc_z := rn_iload_n (am_cur_of (i := (112, 1, .iload_n 1, (0, 0, 0), 0)) (by decide +kernel)) g1_z hc_z
      replace hc_z := rn_callV (M' := am_m77) (o := 148) (ar := [.int b]) (rest := []) (L := lv_args 0 [.ref 148, .int b]) (am_cur_of (i := (113, 3, .invokevirtual 205, (77, 976, 3), 0)) (by decide +kernel)) rfl rfl rfl rfl hc_z
      obtain ⟨r236_z, h237_z, q238_z, hc_z⟩ := hc_z
      obtain ⟨y0_z, y1_z, y2_z, y3_z, y4_z, y5_z, y6_z⟩ := se_77_23 T el s0_z t0_z (by omega) q238_z
      subst y0_z
      have T1 : h237_z 148 0 = .ref 23 := (y6_z 148 0 rfl (by omega) (by omega)).trans T
      have el1_z : rg_v h237_z 148 5 = 2147483647 := by
        unfold rg_v at el ⊢
        rw [y6_z 148 5 rfl (by omega) (by omega)]
        exact el
      have bc : ∀ q, rg_v h237_z (40 + b.toNatClampNeg) q = rg_v h (40 + b.toNatClampNeg) q := by
        intro q
        unfold rg_v
        rw [y6_z (40 + b.toNatClampNeg) q (by
          have e : ∀ c, c < 4 → gB (40 + c) q = false := by
            intro c hc4_z
            match c, hc4_z with
            | 0, _ => rfl
            | 1, _ => rfl
            | 2, _ => rfl
            | 3, _ => rfl
          exact e _ b4_z) (by omega) (by omega)]
      have st : rg_v h237_z 149 1 = rg_v h 149 1 + (rg_v h (40 + b.toNatClampNeg) 4) := Int32.toInt_inj.mp (by rw [y1_z, ab_iadd (by omega) (by omega)])
      replace hc_z : rn _ _ _ _ [.int 1] _ _ _ := hc_z
      replace hc_z := rn_pop (am_cur_of (i := (116, 1, .pop, (0, 0, 0), 0)) (by decide +kernel)) hc_z
      replace hc_z := rn_iinc (w := i + 1) (am_cur_of (i := (117, 3, .iinc 4 1, (0, 0, 0), 0)) (by decide +kernel)) g4_z rfl hc_z
      obtain ⟨_, s239_z, s240_z, g4_z, hc_z⟩ := hc_z
      replace g0_z := s239_z 0 _ (by decide) rfl g0_z
      replace g1_z := s239_z 1 _ (by decide) rfl g1_z
      replace g2_z := s239_z 2 _ (by decide) rfl g2_z
      clear s239_z s240_z
      replace hc_z := rn_gotoL (am_cur_of (i := (120, 3, .goto (-18), (56, 0, 0), 0)) (by decide +kernel)) hc_z
      obtain ⟨l2_z, h2_z, f0_z, f1_z, f2_z, f3_z, f4_z, f5_z, f6_z, f8_z, f7_z⟩ := ih_z k (i + 1) _ h237_z T1 el1_z (by rw [y1_z]; omega) (by rw [bc 4]; exact t0_z) (by rw [bc 4, y1_z]; omega) b4_z g0_z g1_z g2_z g4_z (by omega) hc_z
      rw [bc 4, st] at f3_z
      rw [bc 4, bc 5, st, y2_z, y4_z, st] at f4_z
      rw [y3_z] at f5_z
      rw [bc 4, st] at f6_z
      refine ⟨l2_z, h2_z, f0_z, rn_up (Nat.le_succ _) f1_z, f2_z, f3_z, f4_z, f5_z, fun _ => ?_, fun q => absurd q (by omega), fun o q q1_z q2_z q3_z => (f7_z o q q1_z q2_z q3_z).trans (y6_z o q q1_z q2_z q3_z)⟩
      by_cases k0_z : 0 < k
      · exact f6_z k0_z
      · obtain rfl : k = 0 := by omega
        rw [f8_z rfl]
        refine ⟨?_, y5_z⟩
        rw [y4_z, st]
        rfl
theorem se_70_2 {n : Nat} {h h' : am_H} {r : Option Value} {k : Int32} (D : h 0 2 = .ref 2) (hc_z : rn n am_m70 0 (lv_args 0 [.ref 0, .int k]) [] h r h') : ((k.toInt < (0 : Int32).toInt) ∧ r = some (.int 0) ∧ h' = h) ∨ (((0 : Int32).toInt ≤ k.toInt) ∧ ((rg_v h 2 2).toInt ≤ k.toInt) ∧ r = some (.int 0) ∧ h' = h) ∨ (((0 : Int32).toInt ≤ k.toInt) ∧ (k.toInt < (rg_v h 2 2).toInt) ∧ r = some (.int 1) ∧ h' = h) := by
  have g0_z : am_get (lv_args 0 [.ref 0, .int k]) 0 = some (.ref 0) := rfl
  have g1_z : am_get (lv_args 0 [.ref 0, .int k]) 1 = some (.int k) := rfl
  replace hc_z := rn_iload_n (am_cur_of (i := (0, 1, .iload_n 1, (0, 0, 0), 0)) (by decide +kernel)) g1_z hc_z
  replace hc_z := rn_if (am_cur_of (i := (1, 3, .ifCond .lt 18, (9, 0, 0), 0)) (by decide +kernel)) hc_z
  rcases hc_z with ⟨b249_z, hc_z⟩ | ⟨b249_z, hc_z⟩
  · replace b249_z : k.toInt < (0 : Int32).toInt := b249_z
    replace hc_z := rn_iconst (w := 0) (am_cur_of (i := (19, 1, .iconst 0, (0, 0, 0), 0)) (by decide +kernel)) (by decide) hc_z
    replace hc_z := rn_iret (am_cur_of (i := (20, 1, .ireturn, (0, 0, 0), 0)) (by decide +kernel)) hc_z
    obtain ⟨e250_z, e251_z⟩ := hc_z
    exact Or.inl ⟨b249_z, e250_z, e251_z⟩
  · replace b249_z : (0 : Int32).toInt ≤ k.toInt := b249_z
    replace hc_z := rn_iload_n (am_cur_of (i := (4, 1, .iload_n 1, (0, 0, 0), 0)) (by decide +kernel)) g1_z hc_z
    replace hc_z := rn_aload_n (am_cur_of (i := (5, 1, .aload_n 0, (0, 0, 0), 0)) (by decide +kernel)) g0_z hc_z
    replace hc_z := rn_getM (x := 2) (am_cur_of (i := (6, 3, .getfield 18, (0, 2, 663), 0)) (by decide +kernel)) D hc_z
    replace hc_z := rn_getI (v := rg_v h 2 2) (am_cur_of (i := (9, 3, .getfield 169, (1, 2, 258), 0)) (by decide +kernel)) (by decide +kernel) rfl hc_z
    replace hc_z := rn_cmp (am_cur_of (i := (12, 3, .if_icmp .ge 7, (9, 0, 0), 0)) (by decide +kernel)) hc_z
    rcases hc_z with ⟨b252_z, hc_z⟩ | ⟨b252_z, hc_z⟩
    · replace b252_z : (rg_v h 2 2).toInt ≤ k.toInt := b252_z
      replace hc_z := rn_iconst (w := 0) (am_cur_of (i := (19, 1, .iconst 0, (0, 0, 0), 0)) (by decide +kernel)) (by decide) hc_z
      replace hc_z := rn_iret (am_cur_of (i := (20, 1, .ireturn, (0, 0, 0), 0)) (by decide +kernel)) hc_z
      obtain ⟨e253_z, e254_z⟩ := hc_z
      exact Or.inr (Or.inl ⟨b249_z, b252_z, e253_z, e254_z⟩)
    · replace b252_z : k.toInt < (rg_v h 2 2).toInt := b252_z
      replace hc_z := rn_iconst (w := 1) (am_cur_of (i := (15, 1, .iconst 1, (0, 0, 0), 0)) (by decide +kernel)) (by decide) hc_z
      replace hc_z := rn_goto (am_cur_of (i := (16, 3, .goto 4, (10, 0, 0), 0)) (by decide +kernel)) hc_z
      replace hc_z := rn_iret (am_cur_of (i := (20, 1, .ireturn, (0, 0, 0), 0)) (by decide +kernel)) hc_z
      obtain ⟨e255_z, e256_z⟩ := hc_z
      exact Or.inr (Or.inr (⟨b249_z, b252_z, e255_z, e256_z⟩))
theorem se_69_2 {n : Nat} {r : Option Value} {h h' : am_H} {b m s1_z s2_z se al en rs tk tm hd_z : Int32} (D : h 0 2 = .ref 2) (nb4_z : (rg_v h 2 2).toInt ≤ 4) (E1 : rg_v h 48 1 = s1_z) (E2 : rg_v h 48 2 = s2_z) (E5 : rg_v h 49 b.toNatClampNeg = se) (E9 : rg_v h 50 b.toNatClampNeg = al) (En : rg_v h 51 b.toNatClampNeg = en) (Y3 : rg_v h (19 + b.toNatClampNeg) 3 = tm) (Y4 : rg_v h (19 + b.toNatClampNeg) 4 = tk) (Y5 : rg_v h (19 + b.toNatClampNeg) 5 = rs) (Y6 : rg_v h (19 + b.toNatClampNeg) 6 = hd_z) (s10_z : 0 ≤ s1_z.toInt) (s19_z : s1_z.toInt ≤ 99999) (HB : 0 ≤ b.toInt → b.toInt < (rg_v h 2 2).toInt → (0 ≤ hd_z.toInt ∧ hd_z.toInt ≤ 99) ∧ (0 ≤ tk.toInt ∧ tk.toInt ≤ 99)) (n0_z : 0 ≤ (rg_v h 60 1).toInt) (n1_z : (rg_v h 60 1).toInt < 20) (s0_z : 0 ≤ (rg_v h 60 2).toInt) (sz20_z : (rg_v h 60 2).toInt ≤ 20) (hc_z : rn n am_m69 0 (lv_args 0 [.ref 0, .int b, .int m]) [] h r h') : (¬ (0 ≤ b.toInt ∧ b.toInt < (rg_v h 2 2).toInt ∧ 1 ≤ m.toInt ∧ m.toInt ≤ 20) ∧ r = some (.int (-1)) ∧ (∀ o k, ¬ (148 ≤ o ∧ o ≤ 152) → h' o k = h o k)) ∨ ((0 ≤ b.toInt ∧ b.toInt < (rg_v h 2 2).toInt ∧ 1 ≤ m.toInt ∧ m.toInt ≤ 20) ∧ (0 < rs.toInt ∧ tm.toInt < (ef se en (s1_z + hn_z s2_z b hd_z) rs + m).toInt) ∧ r = some (.int (-2)) ∧ (∀ o k, ¬ (148 ≤ o ∧ o ≤ 152) → h' o k = h o k)) ∨ ((0 ≤ b.toInt ∧ b.toInt < (rg_v h 2 2).toInt ∧ 1 ≤ m.toInt ∧ m.toInt ≤ 20) ∧ ¬ (0 < rs.toInt ∧ tm.toInt < (ef se en (s1_z + hn_z s2_z b hd_z) rs + m).toInt) ∧ ((99999 - s1_z).toInt < (hn_z s2_z b hd_z + m * tk).toInt) ∧ r = some (.int (-1)) ∧ (∀ o k, ¬ (148 ≤ o ∧ o ≤ 152) → h' o k = h o k)) ∨ ((0 ≤ b.toInt ∧ b.toInt < (rg_v h 2 2).toInt ∧ 1 ≤ m.toInt ∧ m.toInt ≤ 20) ∧ ¬ (0 < rs.toInt ∧ tm.toInt < (ef se en (s1_z + hn_z s2_z b hd_z) rs + m).toInt) ∧ ¬ ((99999 - s1_z).toInt < (hn_z s2_z b hd_z + m * tk).toInt) ∧ (∃ v : Int32, r = some (.int v)) ∧ hp_z h h h' ∧ (∀ j, 1 ≤ j → j < 17 → cS_z h' 48 j = bW (cS_z h 48) b m.toInt.toNat (s1_z + hn_z s2_z b hd_z) rs tk j) ∧ ∀ o k, 62 ≤ o → o ≤ 141 → ¬ (62 + 4 * (rg_v h 60 1).toNatClampNeg ≤ o ∧ o ≤ 62 + 4 * (rg_v h 60 1).toNatClampNeg + 3) → h' o k = h o k) := by
  have zm1_z : ((-1) : Int32).toInt = (-1) := by decide
  have z0_z : (0 : Int32).toInt = 0 := by decide
  have z1_z : (1 : Int32).toInt = 1 := by decide
  have z20_z : (20 : Int32).toInt = 20 := by decide
  have g0_z : am_get (lv_args 0 [.ref 0, .int b, .int m]) 0 = some (.ref 0) := rfl
  have g1_z : am_get (lv_args 0 [.ref 0, .int b, .int m]) 1 = some (.int b) := rfl
  have g2_z : am_get (lv_args 0 [.ref 0, .int b, .int m]) 2 = some (.int m) := rfl
  replace hc_z := rn_aload_n (am_cur_of (i := (0, 1, .aload_n 0, (0, 0, 0), 0)) (by decide +kernel)) g0_z hc_z
  replace hc_z := rn_iload_n (am_cur_of (i := (1, 1, .iload_n 1, (0, 0, 0), 0)) (by decide +kernel)) g1_z hc_z
  replace hc_z := rn_callV (M' := am_m70) (o := 0) (ar := [.int b]) (rest := []) (L := lv_args 0 [.ref 0, .int b]) (am_cur_of (i := (2, 3, .invokevirtual 135, (70, 943, 3), 0)) (by decide +kernel)) rfl rfl rfl rfl hc_z
  obtain ⟨r257_z, h258_z, q259_z, hc_z⟩ := hc_z
  rcases se_70_2 D q259_z with ⟨b260_z, rfl, y261_z⟩ | ⟨b262_z, b263_z, rfl, y264_z⟩ | ⟨b265_z, b266_z, rfl, y267_z⟩
  · replace y261_z := y261_z.symm
    subst y261_z
    replace b260_z : b.toInt < (0 : Int32).toInt := b260_z
    replace hc_z : rn _ _ _ _ [.int 0] _ _ _ := hc_z
    replace hc_z := rn_ifT (am_cur_of (i := (5, 3, .ifCond .eq 13, (9, 0, 0), 0)) (by decide +kernel)) (by decide) hc_z
    replace hc_z := rn_iconst (w := (-1)) (am_cur_of (i := (18, 1, .iconst (-1), (0, 0, 0), 0)) (by decide +kernel)) (by decide) hc_z
    replace hc_z := rn_iret (am_cur_of (i := (19, 1, .ireturn, (0, 0, 0), 0)) (by decide +kernel)) hc_z
    obtain ⟨e268_z, e269_z⟩ := hc_z
    exact Or.inl ⟨by omega, e268_z, fun o k _ => by rw [e269_z]⟩
  · replace y264_z := y264_z.symm
    subst y264_z
    replace b262_z : (0 : Int32).toInt ≤ b.toInt := b262_z
    replace b263_z : ((rg_v h 2 2)).toInt ≤ b.toInt := b263_z
    replace hc_z : rn _ _ _ _ [.int 0] _ _ _ := hc_z
    replace hc_z := rn_ifT (am_cur_of (i := (5, 3, .ifCond .eq 13, (9, 0, 0), 0)) (by decide +kernel)) (by decide) hc_z
    replace hc_z := rn_iconst (w := (-1)) (am_cur_of (i := (18, 1, .iconst (-1), (0, 0, 0), 0)) (by decide +kernel)) (by decide) hc_z
    replace hc_z := rn_iret (am_cur_of (i := (19, 1, .ireturn, (0, 0, 0), 0)) (by decide +kernel)) hc_z
    obtain ⟨e270_z, e271_z⟩ := hc_z
    exact Or.inl ⟨by omega, e270_z, fun o k _ => by rw [e271_z]⟩
  · replace y267_z := y267_z.symm
    subst y267_z
    replace b265_z : (0 : Int32).toInt ≤ b.toInt := b265_z
    replace b266_z : b.toInt < ((rg_v h 2 2)).toInt := b266_z
    replace hc_z : rn _ _ _ _ [.int 1] _ _ _ := hc_z
    replace hc_z := rn_ifF (am_cur_of (i := (5, 3, .ifCond .eq 13, (9, 0, 0), 0)) (by decide +kernel)) (by decide) hc_z
    replace hc_z := rn_iload_n (am_cur_of (i := (8, 1, .iload_n 2, (0, 0, 0), 0)) (by decide +kernel)) g2_z hc_z
    replace hc_z := rn_iconst (w := 1) (am_cur_of (i := (9, 1, .iconst 1, (0, 0, 0), 0)) (by decide +kernel)) (by decide) hc_z
    replace hc_z := rn_bipush (w := 20) (am_cur_of (i := (10, 2, .bipush 20, (0, 0, 0), 0)) (by decide +kernel)) (by decide) hc_z
    replace hc_z := rn_callS (M' := am_m62) (ar := [.int 20, .int 1, .int m]) (rest := []) (L := lv_args 0 [.int m, .int 1, .int 20]) (am_cur_of (i := (12, 3, .invokestatic 172, (62, 908, 3), 0)) (by decide +kernel)) rfl rfl rfl rfl hc_z
    obtain ⟨r272_z, h273_z, q274_z, hc_z⟩ := hc_z
    rcases se_62 q274_z with ⟨b275_z, rfl, y276_z⟩ | ⟨b277_z, b278_z, rfl, y279_z⟩ | ⟨b280_z, b281_z, rfl, y282_z⟩
    · replace y276_z := y276_z.symm
      subst y276_z
      replace b275_z : m.toInt < (1 : Int32).toInt := b275_z
      replace hc_z : rn _ _ _ _ [.int 0] _ _ _ := hc_z
      replace hc_z := rn_ifF (am_cur_of (i := (15, 3, .ifCond .ne 5, (11, 0, 0), 0)) (by decide +kernel)) (by decide) hc_z
      replace hc_z := rn_iconst (w := (-1)) (am_cur_of (i := (18, 1, .iconst (-1), (0, 0, 0), 0)) (by decide +kernel)) (by decide) hc_z
      replace hc_z := rn_iret (am_cur_of (i := (19, 1, .ireturn, (0, 0, 0), 0)) (by decide +kernel)) hc_z
      obtain ⟨e283_z, e284_z⟩ := hc_z
      exact Or.inl ⟨by omega, e283_z, fun o k _ => by rw [e284_z]⟩
    · replace y279_z := y279_z.symm
      subst y279_z
      replace b277_z : (1 : Int32).toInt ≤ m.toInt := b277_z
      replace b278_z : (20 : Int32).toInt < m.toInt := b278_z
      replace hc_z : rn _ _ _ _ [.int 0] _ _ _ := hc_z
      replace hc_z := rn_ifF (am_cur_of (i := (15, 3, .ifCond .ne 5, (11, 0, 0), 0)) (by decide +kernel)) (by decide) hc_z
      replace hc_z := rn_iconst (w := (-1)) (am_cur_of (i := (18, 1, .iconst (-1), (0, 0, 0), 0)) (by decide +kernel)) (by decide) hc_z
      replace hc_z := rn_iret (am_cur_of (i := (19, 1, .ireturn, (0, 0, 0), 0)) (by decide +kernel)) hc_z
      obtain ⟨e285_z, e286_z⟩ := hc_z
      exact Or.inl ⟨by omega, e285_z, fun o k _ => by rw [e286_z]⟩
    · replace y282_z := y282_z.symm
      subst y282_z
      replace b280_z : (1 : Int32).toInt ≤ m.toInt := b280_z
      replace b281_z : m.toInt ≤ (20 : Int32).toInt := b281_z
      replace hc_z : rn _ _ _ _ [.int 1] _ _ _ := hc_z
      replace hc_z := rn_ifT (am_cur_of (i := (15, 3, .ifCond .ne 5, (11, 0, 0), 0)) (by decide +kernel)) (by decide) hc_z
      replace hc_z := rn_aload_n (am_cur_of (i := (20, 1, .aload_n 0, (0, 0, 0), 0)) (by decide +kernel)) g0_z hc_z
      replace hc_z := rn_getR (x := 148) (am_cur_of (i := (21, 3, .getfield 64, (0, 11, 672), 0)) (by decide +kernel)) (by decide +kernel) hc_z
      replace hc_z := rn_aload_n (am_cur_of (i := (24, 1, .aload_n 0, (0, 0, 0), 0)) (by decide +kernel)) g0_z hc_z
      replace hc_z := rn_getM (x := 2) (am_cur_of (i := (25, 3, .getfield 18, (0, 2, 663), 0)) (by decide +kernel)) D hc_z
      replace hc_z := rn_aload_n (am_cur_of (i := (28, 1, .aload_n 0, (0, 0, 0), 0)) (by decide +kernel)) g0_z hc_z
      replace hc_z := rn_getR (x := 48) (am_cur_of (i := (29, 3, .getfield 37, (0, 5, 666), 0)) (by decide +kernel)) (by decide +kernel) hc_z
      replace hc_z := rn_callV (M' := am_m63) (o := 148) (ar := [.ref 48, .ref 2]) (rest := []) (L := lv_args 0 [.ref 148, .ref 2, .ref 48]) (am_cur_of (i := (32, 3, .invokevirtual 146, (63, 912, 3), 0)) (by decide +kernel)) rfl rfl rfl rfl hc_z
      obtain ⟨r287_z, h288_z, q289_z, hc_z⟩ := hc_z
      have vo := rn_void rfl q289_z
      subst vo
      obtain ⟨T1, el1_z, -, -, -, c149_z, f1_z⟩ := se_63_2 q289_z
      have b4_z : b.toNatClampNeg < 4 := by have := rt_cl (x := b) (by omega); omega
      obtain ⟨⟨hd0_z, hd9_z⟩, ⟨tk0_z, tk9_z⟩⟩ := HB (by omega) (by omega)
      have x1_z : rg_v h288_z 149 1 = s1_z := (c149_z 1 (by decide)).trans E1
      have x2_z : rg_v h288_z 149 2 = s2_z := (c149_z 2 (by decide)).trans E2
      have x5_z : rg_v h288_z 150 b.toNatClampNeg = se := (cS_s (a := 149) b4_z).symm.trans ((c149_z (5 + b.toNatClampNeg) (by omega)).trans ((cS_s b4_z).trans E5))
      have x9_z : rg_v h288_z 151 b.toNatClampNeg = al := (cS_a (a := 149) b4_z).symm.trans ((c149_z (9 + b.toNatClampNeg) (by omega)).trans ((cS_a b4_z).trans E9))
      have xn : rg_v h288_z 152 b.toNatClampNeg = en := (cS_n (a := 149) b4_z).symm.trans ((c149_z (13 + b.toNatClampNeg) (by omega)).trans ((cS_n b4_z).trans En))
      have bl : ∀ q, rg_v h288_z (19 + b.toNatClampNeg) q = rg_v h (19 + b.toNatClampNeg) q := by
        intro q
        unfold rg_v
        rw [f1_z _ _ (by omega)]
      have y3_z := (bl 3).trans Y3
      have y4_z := (bl 4).trans Y4
      have y5_z := (bl 5).trans Y5
      have y6_z := (bl 6).trans Y6
      have D1 : h288_z 0 2 = .ref 2 := (f1_z 0 2 (by omega)).trans D
      have z1_z : rg_v h288_z 48 1 = s1_z := by
        unfold rg_v at E1 ⊢
        rw [f1_z 48 1 (by omega)]
        exact E1
      replace hc_z : rn _ _ _ _ [] _ _ _ := hc_z
      replace hc_z := rn_aload_n (am_cur_of (i := (35, 1, .aload_n 0, (0, 0, 0), 0)) (by decide +kernel)) g0_z hc_z
      replace hc_z := rn_getR (x := 148) (am_cur_of (i := (36, 3, .getfield 64, (0, 11, 672), 0)) (by decide +kernel)) (by decide +kernel) hc_z
      replace hc_z := rn_iload_n (am_cur_of (i := (39, 1, .iload_n 1, (0, 0, 0), 0)) (by decide +kernel)) g1_z hc_z
      replace hc_z := rn_iload_n (am_cur_of (i := (40, 1, .iload_n 2, (0, 0, 0), 0)) (by decide +kernel)) g2_z hc_z
      replace hc_z := rn_callV (M' := am_m71) (o := 148) (ar := [.int m, .int b]) (rest := []) (L := lv_args 0 [.ref 148, .int b, .int m]) (am_cur_of (i := (41, 3, .invokevirtual 182, (71, 947, 3), 0)) (by decide +kernel)) rfl rfl rfl rfl hc_z
      obtain ⟨r290_z, h291_z, q292_z, hc_z⟩ := hc_z
      have y293_z := pu_of (a := 71) (by decide) rfl q292_z
      obtain ⟨wv, er, wq⟩ := se_71_2 T1 q292_z
      replace y293_z := y293_z.symm
      subst y293_z
      subst er
      rw [x5_z, xn, x1_z, x2_z, y3_z, y5_z, y6_z] at wq
      replace hc_z : rn _ _ _ _ [.int wv] _ _ _ := hc_z
      replace hc_z := rn_if (am_cur_of (i := (44, 3, .ifCond .eq 6, (26, 0, 0), 0)) (by decide +kernel)) hc_z
      rcases hc_z with ⟨b294_z, hc_z⟩ | ⟨b294_z, hc_z⟩
      · replace b294_z : wv = (0 : Int32) ∧ wv.toInt = (0 : Int32).toInt := b294_z
        replace hc_z := rn_aload_n (am_cur_of (i := (50, 1, .aload_n 0, (0, 0, 0), 0)) (by decide +kernel)) g0_z hc_z
        replace hc_z := rn_getR (x := 148) (am_cur_of (i := (51, 3, .getfield 64, (0, 11, 672), 0)) (by decide +kernel)) (by decide +kernel) hc_z
        replace hc_z := rn_iload_n (am_cur_of (i := (54, 1, .iload_n 1, (0, 0, 0), 0)) (by decide +kernel)) g1_z hc_z
        replace hc_z := rn_callV (M' := am_m72) (o := 148) (ar := [.int b]) (rest := []) (L := lv_args 0 [.ref 148, .int b]) (am_cur_of (i := (55, 3, .invokevirtual 186, (72, 959, 3), 0)) (by decide +kernel)) rfl rfl rfl rfl hc_z
        obtain ⟨r295_z, h296_z, q297_z, hc_z⟩ := hc_z
        have y299_z := pu_of (a := 72) (by decide) rfl q297_z
        have e298_z := se_72_2 T1 q297_z
        replace y299_z := y299_z.symm
        subst y299_z
        rw [x2_z, y6_z] at e298_z
        subst e298_z
        replace hc_z : rn _ _ _ _ [.int (hn_z s2_z b hd_z)] _ _ _ := hc_z
        replace hc_z := rn_iload_n (am_cur_of (i := (58, 1, .iload_n 2, (0, 0, 0), 0)) (by decide +kernel)) g2_z hc_z
        replace hc_z := rn_aload_n (am_cur_of (i := (59, 1, .aload_n 0, (0, 0, 0), 0)) (by decide +kernel)) g0_z hc_z
        replace hc_z := rn_getM (x := 2) (am_cur_of (i := (60, 3, .getfield 18, (0, 2, 663), 0)) (by decide +kernel)) D1 hc_z
        replace hc_z := rn_getR (x := 3) (am_cur_of (i := (63, 3, .getfield 189, (1, 3, 264), 0)) (by decide +kernel)) (by decide +kernel) hc_z
        replace hc_z := rn_iload_n (am_cur_of (i := (66, 1, .iload_n 1, (0, 0, 0), 0)) (by decide +kernel)) g1_z hc_z
        replace hc_z := rn_aaload (s := "AirBed$Blower") (N := 4) (q := b.toNatClampNeg) (am_cur_of (i := (67, 1, .aaload, (0, 0, 0), 0)) (by decide +kernel)) (by decide +kernel) rfl hc_z
        obtain ⟨p300_z, hc_z⟩ := hc_z
        rw [rp_bc2 (rn_G hc_z) p300_z.2] at hc_z
        replace hc_z := rn_getI (v := tk) (am_cur_of (i := (68, 3, .getfield 193, (3, 4, 214), 0)) (by decide +kernel)) (rp_bf2 _ p300_z.2 4 (by decide)) y4_z hc_z
        replace hc_z := rn_imul (w := m * tk) (am_cur_of (i := (71, 1, .imul, (0, 0, 0), 0)) (by decide +kernel)) rfl hc_z
        replace hc_z := rn_iadd (w := (hn_z s2_z b hd_z) + (m * tk)) (am_cur_of (i := (72, 1, .iadd, (0, 0, 0), 0)) (by decide +kernel)) rfl hc_z
        replace hc_z := rn_istore_n (am_cur_of (i := (73, 1, .istore_n 3, (0, 0, 0), 0)) (by decide +kernel)) hc_z
        obtain ⟨_, s301_z, s302_z, g3_z, hc_z⟩ := hc_z
        replace g0_z := s301_z 0 _ (by decide) rfl g0_z
        replace g1_z := s301_z 1 _ (by decide) rfl g1_z
        replace g2_z := s301_z 2 _ (by decide) rfl g2_z
        clear s301_z s302_z
        replace hc_z := rn_iload_n (am_cur_of (i := (74, 1, .iload_n 3, (0, 0, 0), 0)) (by decide +kernel)) g3_z hc_z
        replace hc_z := rn_ldc (w := 99999) (am_cur_of (i := (75, 2, .ldc 198, (0, 0, 960), 99999)) (by decide +kernel)) (by decide) hc_z
        replace hc_z := rn_aload_n (am_cur_of (i := (77, 1, .aload_n 0, (0, 0, 0), 0)) (by decide +kernel)) g0_z hc_z
        replace hc_z := rn_getR (x := 48) (am_cur_of (i := (78, 3, .getfield 37, (0, 5, 666), 0)) (by decide +kernel)) (by decide +kernel) hc_z
        replace hc_z := rn_getI (v := s1_z) (am_cur_of (i := (81, 3, .getfield 199, (5, 1, 471), 0)) (by decide +kernel)) (by decide +kernel) z1_z hc_z
        replace hc_z := rn_isub (w := (99999 : Int32) - s1_z) (am_cur_of (i := (84, 1, .isub, (0, 0, 0), 0)) (by decide +kernel)) rfl hc_z
        replace hc_z := rn_cmp (am_cur_of (i := (85, 3, .if_icmp .le 5, (49, 0, 0), 0)) (by decide +kernel)) hc_z
        rcases hc_z with ⟨b303_z, hc_z⟩ | ⟨b303_z, hc_z⟩
        · replace b303_z : ((hn_z s2_z b hd_z) + (m * tk)).toInt ≤ ((99999 : Int32) - s1_z).toInt := b303_z
          replace hc_z := rn_aload_n (am_cur_of (i := (90, 1, .aload_n 0, (0, 0, 0), 0)) (by decide +kernel)) g0_z hc_z
          replace hc_z := rn_getR (x := 148) (am_cur_of (i := (91, 3, .getfield 64, (0, 11, 672), 0)) (by decide +kernel)) (by decide +kernel) hc_z
          replace hc_z := rn_iload_n (am_cur_of (i := (94, 1, .iload_n 1, (0, 0, 0), 0)) (by decide +kernel)) g1_z hc_z
          replace hc_z := rn_callV (M' := am_m74) (o := 148) (ar := [.int b]) (rest := []) (L := lv_args 0 [.ref 148, .int b]) (am_cur_of (i := (95, 3, .invokevirtual 202, (74, 961, 3), 0)) (by decide +kernel)) rfl rfl rfl rfl hc_z
          obtain ⟨r304_z, h305_z, q306_z, hc_z⟩ := hc_z
          obtain ⟨v2_z, er⟩ := rn_ret (M := am_m74) rfl (by decide) q306_z
          subst er
          have hr := hn_r (l := s2_z) (b := b) hd0_z hd9_z
          have zz := se_74_2 T1 el1_z (by rw [x1_z]; exact s10_z) (by rw [x2_z, y6_z]; omega) (by rw [x1_z, x2_z, y6_z]; omega) q306_z
          rw [x1_z, x2_z, y6_z] at zz
          obtain ⟨q1_z, q2_z⟩ := zz
          have T2 := gd_b q2_z T1
          have el2_z : rg_v h305_z 148 5 = 2147483647 := by
            unfold rg_v at el1_z ⊢
            rw [q2_z 148 5 rfl]
            exact el1_z
          have gv : ∀ o k, gB o k = false → rg_v h305_z o k = rg_v h288_z o k := by
            intro o k e
            unfold rg_v
            rw [q2_z o k e]
          have gB4 : ∀ q, gB (19 + b.toNatClampNeg) q = false := by
            have e : ∀ c, c < 4 → ∀ q, gB (19 + c) q = false := by
              intro c hc4_z q
              match c, hc4_z with
              | 0, _ => rfl
              | 1, _ => rfl
              | 2, _ => rfl
              | 3, _ => rfl
            exact fun q => e _ b4_z q
          have u1_z : rg_v h305_z 149 1 = s1_z + hn_z s2_z b hd_z := Int32.toInt_inj.mp (by rw [q1_z, ab_iadd (by omega) (by omega)])
          have u5_z := (gv 150 b.toNatClampNeg rfl).trans x5_z
          have u9_z := (gv 151 b.toNatClampNeg rfl).trans x9_z
          have un := (gv 152 b.toNatClampNeg rfl).trans xn
          have u4_z := (gv _ 4 (gB4 4)).trans y4_z
          have uk := (gv _ 5 (gB4 5)).trans y5_z
          replace hc_z : rn _ _ _ _ [.int v2_z] _ _ _ := hc_z
          replace hc_z := rn_pop (am_cur_of (i := (98, 1, .pop, (0, 0, 0), 0)) (by decide +kernel)) hc_z
          replace hc_z := rn_iconst (w := 0) (am_cur_of (i := (99, 1, .iconst 0, (0, 0, 0), 0)) (by decide +kernel)) (by decide) hc_z
          replace hc_z := rn_istore (am_cur_of (i := (100, 2, .istore 4, (0, 0, 0), 0)) (by decide +kernel)) hc_z
          obtain ⟨_, s307_z, s308_z, g4_z, hc_z⟩ := hc_z
          replace g0_z := s307_z 0 _ (by decide) rfl g0_z
          replace g1_z := s307_z 1 _ (by decide) rfl g1_z
          replace g2_z := s307_z 2 _ (by decide) rfl g2_z
          replace g3_z := s307_z 3 _ (by decide) rfl g3_z
          clear s307_z s308_z
          have em : ((m.toInt.toNat : Nat) : Int) = m.toInt := by omega
          have mt := se_mt (m := m) (t := tk) (by omega) (by omega) tk0_z tk9_z
          have la := ab_iadd (x := hn_z s2_z b hd_z) (y := m * tk) (by omega) (by omega)
          have sb := ab_isub (x := 99999) (y := s1_z) (by rw [show (99999 : Int32).toInt = 99999 by decide]; omega) (by rw [show (99999 : Int32).toInt = 99999 by decide]; omega)
          rw [show (99999 : Int32).toInt = 99999 by decide] at sb
          have us : (rg_v h305_z 149 1).toInt = s1_z.toInt + (hn_z s2_z b hd_z).toInt := by rw [u1_z, ab_iadd (by omega) (by omega)]
          obtain ⟨l3_z, h3_z, f0_z, hc3_z, T3, t1_z, t5_z, t9_z, tn, -, tf⟩ := se_l2 _ m.toInt.toNat 0 _ _ T2 el2_z (by omega) (by rw [u4_z]; exact tk0_z) (by rw [u4_z, us, em]; omega) b4_z g0_z g1_z g2_z g4_z (by rw [show (0 : Int32).toInt = 0 by decide]; omega) hc_z
          rw [u4_z, u1_z] at t1_z tn
          rw [u4_z, uk, u5_z, un, u1_z] at t5_z
          rw [u9_z] at t9_z
          obtain ⟨tn1_z, tn2_z⟩ := tn (by omega)
          have hf_z : ∀ o k, (48 ≤ o ∧ o ≤ 51) ∨ (60 ≤ o ∧ o ≤ 141) → h3_z o k = h o k := by
            intro o k ho
            have e1_z : gB o k = false := by
              unfold gB wB
              have n1_z : Nat.beq o 17 = false := se_bn (by omega)
              have n2_z : Nat.beq o 18 = false := se_bn (by omega)
              have n3_z : Nat.beq o 38 = false := se_bn (by omega)
              have n4_z : Nat.beq o 39 = false := se_bn (by omega)
              have n5_z : Nat.beq o 149 = false := se_bn (by omega)
              have n6_z : Nat.beq o 148 = false := se_bn (by omega)
              rw [n1_z, n2_z, n3_z, n4_z, n5_z, n6_z]
              rfl
            exact (tf o k e1_z (by omega) (by omega)).trans ((q2_z o k e1_z).trans (f1_z o k (by omega)))
          have hv_z : ∀ o k, (48 ≤ o ∧ o ≤ 51) ∨ (60 ≤ o ∧ o ≤ 141) → rg_v h3_z o k = rg_v h o k := by
            intro o k ho
            unfold rg_v
            rw [hf_z o k ho]
          replace hc_z := hc3_z
          clear g0_z
          have g0_z := f0_z
          replace hc_z := rn_aload_n (am_cur_of (i := (123, 1, .aload_n 0, (0, 0, 0), 0)) (by decide +kernel)) g0_z hc_z
          replace hc_z := rn_callV (M' := am_m81) (o := 0) (ar := []) (rest := []) (L := lv_args 0 [.ref 0]) (am_cur_of (i := (124, 3, .invokevirtual 208, (81, 992, 3), 0)) (by decide +kernel)) rfl rfl rfl rfl hc_z
          obtain ⟨r309_z, h310_z, q311_z, hc_z⟩ := hc_z
          have zx := se_81 (by rw [hv_z 60 1 (by omega)]; exact n0_z) (by rw [hv_z 60 1 (by omega)]; exact n1_z) (by rw [hv_z 60 2 (by omega)]; exact s0_z) (by rw [hv_z 60 2 (by omega)]; exact sz20_z) q311_z
          rw [hv_z 60 1 (by omega), hv_z 60 2 (by omega)] at zx
          obtain ⟨⟨v8_z, rfl⟩, p1_z, p2_z, p3_z, p4_z, p5_z⟩ := zx
          replace hc_z : rn _ _ _ _ [.int v8_z] _ _ _ := hc_z
          replace hc_z := rn_iret (am_cur_of (i := (127, 1, .ireturn, (0, 0, 0), 0)) (by decide +kernel)) hc_z
          obtain ⟨e312_z, e313_z⟩ := hc_z
          rw [e313_z]
          refine Or.inr (Or.inr (Or.inr ⟨⟨by omega, by omega, by omega, by omega⟩, (wq.resolve_left (fun q => absurd (q.1.symm.trans b294_z.1) (by decide))).2, (by omega), ⟨_, e312_z⟩, ⟨fun j hj_z => (p1_z j hj_z).trans (cS_e (fun o k a c => hf_z o k (by omega)) j), p2_z, p3_z⟩, fun j j1_z j17_z => ?_, fun o k a c e => (p5_z o k (by omega) e (by omega)).trans (hf_z o k (by omega))⟩))
          refine (p4_z j j17_z).trans ?_
          unfold bW
          by_cases c1_z : j = 1
          · rw [if_pos c1_z, c1_z]
            exact t1_z
          · rw [if_neg c1_z]
            by_cases c2_z : j = 2
            · rw [if_pos c2_z, c2_z]
              exact tn2_z
            · rw [if_neg c2_z]
              by_cases c3_z : j = 5 + b.toNatClampNeg
              · rw [if_pos c3_z, c3_z, cS_s b4_z, cS_s b4_z, cS_n b4_z, E5, En]
                exact t5_z
              · rw [if_neg c3_z]
                by_cases c4_z : j = 9 + b.toNatClampNeg
                · rw [if_pos c4_z, c4_z, cS_a b4_z, cS_a b4_z, E9]
                  exact t9_z
                · rw [if_neg c4_z]
                  by_cases c5_z : j = 13 + b.toNatClampNeg
                  · rw [if_pos c5_z, c5_z, cS_n b4_z]
                    exact tn1_z
                  · rw [if_neg c5_z]
                    have k1_z : cS_z h3_z 149 j = cS_z h305_z 149 j := cS_x (b := b.toNatClampNeg) (fun o k a c e f => tf o k (se_gb a c e) (by omega) (by omega)) (by omega) c3_z c4_z c5_z
                    have k2_z : cS_z h305_z 149 j = cS_z h288_z 149 j := cS_x (b := b.toNatClampNeg) (fun o k a c e f => q2_z o k (se_gb a c e)) (by omega) c3_z c4_z c5_z
                    exact k1_z.trans (k2_z.trans (c149_z j j17_z))
        · replace b303_z : ((99999 : Int32) - s1_z).toInt < ((hn_z s2_z b hd_z) + (m * tk)).toInt := b303_z
          replace hc_z := rn_iconst (w := (-1)) (am_cur_of (i := (88, 1, .iconst (-1), (0, 0, 0), 0)) (by decide +kernel)) (by decide) hc_z
          replace hc_z := rn_iret (am_cur_of (i := (89, 1, .ireturn, (0, 0, 0), 0)) (by decide +kernel)) hc_z
          obtain ⟨e314_z, e315_z⟩ := hc_z
          exact Or.inr (Or.inr (Or.inl ⟨⟨by omega, by omega, by omega, by omega⟩, (wq.resolve_left (fun q => absurd (q.1.symm.trans b294_z.1) (by decide))).2, by omega, e314_z, fun o k q => by rw [e315_z]; exact f1_z o k q⟩))
      · replace b294_z : ¬ wv = (0 : Int32) ∧ ¬ wv.toInt = (0 : Int32).toInt := b294_z
        replace hc_z := rn_bipush (w := (-2)) (am_cur_of (i := (47, 2, .bipush (-2), (0, 0, 0), 0)) (by decide +kernel)) (by decide) hc_z
        replace hc_z := rn_iret (am_cur_of (i := (49, 1, .ireturn, (0, 0, 0), 0)) (by decide +kernel)) hc_z
        obtain ⟨e316_z, e317_z⟩ := hc_z
        exact Or.inr (Or.inl ⟨⟨by omega, by omega, by omega, by omega⟩, (wq.resolve_right (fun q => b294_z.1 q.1)).2, e316_z, fun o k q => by rw [e317_z]; exact f1_z o k q⟩)
theorem se_70_23 {n : Nat} {h h' : am_H} {r : Option Value} {k : Int32} (D : h 0 2 = .ref 23) (hc_z : rn n am_m70 0 (lv_args 0 [.ref 0, .int k]) [] h r h') : ((k.toInt < (0 : Int32).toInt) ∧ r = some (.int 0) ∧ h' = h) ∨ (((0 : Int32).toInt ≤ k.toInt) ∧ ((rg_v h 23 2).toInt ≤ k.toInt) ∧ r = some (.int 0) ∧ h' = h) ∨ (((0 : Int32).toInt ≤ k.toInt) ∧ (k.toInt < (rg_v h 23 2).toInt) ∧ r = some (.int 1) ∧ h' = h) := by
  have g0_z : am_get (lv_args 0 [.ref 0, .int k]) 0 = some (.ref 0) := rfl
  have g1_z : am_get (lv_args 0 [.ref 0, .int k]) 1 = some (.int k) := rfl
  replace hc_z := rn_iload_n (am_cur_of (i := (0, 1, .iload_n 1, (0, 0, 0), 0)) (by decide +kernel)) g1_z hc_z
  replace hc_z := rn_if (am_cur_of (i := (1, 3, .ifCond .lt 18, (9, 0, 0), 0)) (by decide +kernel)) hc_z
  rcases hc_z with ⟨b318_z, hc_z⟩ | ⟨b318_z, hc_z⟩
  · replace b318_z : k.toInt < (0 : Int32).toInt := b318_z
    replace hc_z := rn_iconst (w := 0) (am_cur_of (i := (19, 1, .iconst 0, (0, 0, 0), 0)) (by decide +kernel)) (by decide) hc_z
    replace hc_z := rn_iret (am_cur_of (i := (20, 1, .ireturn, (0, 0, 0), 0)) (by decide +kernel)) hc_z
    obtain ⟨e319_z, e320_z⟩ := hc_z
    exact Or.inl ⟨b318_z, e319_z, e320_z⟩
  · replace b318_z : (0 : Int32).toInt ≤ k.toInt := b318_z
    replace hc_z := rn_iload_n (am_cur_of (i := (4, 1, .iload_n 1, (0, 0, 0), 0)) (by decide +kernel)) g1_z hc_z
    replace hc_z := rn_aload_n (am_cur_of (i := (5, 1, .aload_n 0, (0, 0, 0), 0)) (by decide +kernel)) g0_z hc_z
    replace hc_z := rn_getM (x := 23) (am_cur_of (i := (6, 3, .getfield 18, (0, 2, 663), 0)) (by decide +kernel)) D hc_z
    replace hc_z := rn_getI (v := rg_v h 23 2) (am_cur_of (i := (9, 3, .getfield 169, (1, 2, 258), 0)) (by decide +kernel)) (by decide +kernel) rfl hc_z
    replace hc_z := rn_cmp (am_cur_of (i := (12, 3, .if_icmp .ge 7, (9, 0, 0), 0)) (by decide +kernel)) hc_z
    rcases hc_z with ⟨b321_z, hc_z⟩ | ⟨b321_z, hc_z⟩
    · replace b321_z : (rg_v h 23 2).toInt ≤ k.toInt := b321_z
      replace hc_z := rn_iconst (w := 0) (am_cur_of (i := (19, 1, .iconst 0, (0, 0, 0), 0)) (by decide +kernel)) (by decide) hc_z
      replace hc_z := rn_iret (am_cur_of (i := (20, 1, .ireturn, (0, 0, 0), 0)) (by decide +kernel)) hc_z
      obtain ⟨e322_z, e323_z⟩ := hc_z
      exact Or.inr (Or.inl ⟨b318_z, b321_z, e322_z, e323_z⟩)
    · replace b321_z : k.toInt < (rg_v h 23 2).toInt := b321_z
      replace hc_z := rn_iconst (w := 1) (am_cur_of (i := (15, 1, .iconst 1, (0, 0, 0), 0)) (by decide +kernel)) (by decide) hc_z
      replace hc_z := rn_goto (am_cur_of (i := (16, 3, .goto 4, (10, 0, 0), 0)) (by decide +kernel)) hc_z
      replace hc_z := rn_iret (am_cur_of (i := (20, 1, .ireturn, (0, 0, 0), 0)) (by decide +kernel)) hc_z
      obtain ⟨e324_z, e325_z⟩ := hc_z
      exact Or.inr (Or.inr (⟨b318_z, b321_z, e324_z, e325_z⟩))
theorem se_69_23 {n : Nat} {r : Option Value} {h h' : am_H} {b m s1_z s2_z se al en rs tk tm hd_z : Int32} (D : h 0 2 = .ref 23) (nb4_z : (rg_v h 23 2).toInt ≤ 4) (E1 : rg_v h 48 1 = s1_z) (E2 : rg_v h 48 2 = s2_z) (E5 : rg_v h 49 b.toNatClampNeg = se) (E9 : rg_v h 50 b.toNatClampNeg = al) (En : rg_v h 51 b.toNatClampNeg = en) (Y3 : rg_v h (40 + b.toNatClampNeg) 3 = tm) (Y4 : rg_v h (40 + b.toNatClampNeg) 4 = tk) (Y5 : rg_v h (40 + b.toNatClampNeg) 5 = rs) (Y6 : rg_v h (40 + b.toNatClampNeg) 6 = hd_z) (s10_z : 0 ≤ s1_z.toInt) (s19_z : s1_z.toInt ≤ 99999) (HB : 0 ≤ b.toInt → b.toInt < (rg_v h 23 2).toInt → (0 ≤ hd_z.toInt ∧ hd_z.toInt ≤ 99) ∧ (0 ≤ tk.toInt ∧ tk.toInt ≤ 99)) (n0_z : 0 ≤ (rg_v h 60 1).toInt) (n1_z : (rg_v h 60 1).toInt < 20) (s0_z : 0 ≤ (rg_v h 60 2).toInt) (sz20_z : (rg_v h 60 2).toInt ≤ 20) (hc_z : rn n am_m69 0 (lv_args 0 [.ref 0, .int b, .int m]) [] h r h') : (¬ (0 ≤ b.toInt ∧ b.toInt < (rg_v h 23 2).toInt ∧ 1 ≤ m.toInt ∧ m.toInt ≤ 20) ∧ r = some (.int (-1)) ∧ (∀ o k, ¬ (148 ≤ o ∧ o ≤ 152) → h' o k = h o k)) ∨ ((0 ≤ b.toInt ∧ b.toInt < (rg_v h 23 2).toInt ∧ 1 ≤ m.toInt ∧ m.toInt ≤ 20) ∧ (0 < rs.toInt ∧ tm.toInt < (ef se en (s1_z + hn_z s2_z b hd_z) rs + m).toInt) ∧ r = some (.int (-2)) ∧ (∀ o k, ¬ (148 ≤ o ∧ o ≤ 152) → h' o k = h o k)) ∨ ((0 ≤ b.toInt ∧ b.toInt < (rg_v h 23 2).toInt ∧ 1 ≤ m.toInt ∧ m.toInt ≤ 20) ∧ ¬ (0 < rs.toInt ∧ tm.toInt < (ef se en (s1_z + hn_z s2_z b hd_z) rs + m).toInt) ∧ ((99999 - s1_z).toInt < (hn_z s2_z b hd_z + m * tk).toInt) ∧ r = some (.int (-1)) ∧ (∀ o k, ¬ (148 ≤ o ∧ o ≤ 152) → h' o k = h o k)) ∨ ((0 ≤ b.toInt ∧ b.toInt < (rg_v h 23 2).toInt ∧ 1 ≤ m.toInt ∧ m.toInt ≤ 20) ∧ ¬ (0 < rs.toInt ∧ tm.toInt < (ef se en (s1_z + hn_z s2_z b hd_z) rs + m).toInt) ∧ ¬ ((99999 - s1_z).toInt < (hn_z s2_z b hd_z + m * tk).toInt) ∧ (∃ v : Int32, r = some (.int v)) ∧ hp_z h h h' ∧ (∀ j, 1 ≤ j → j < 17 → cS_z h' 48 j = bW (cS_z h 48) b m.toInt.toNat (s1_z + hn_z s2_z b hd_z) rs tk j) ∧ ∀ o k, 62 ≤ o → o ≤ 141 → ¬ (62 + 4 * (rg_v h 60 1).toNatClampNeg ≤ o ∧ o ≤ 62 + 4 * (rg_v h 60 1).toNatClampNeg + 3) → h' o k = h o k) := by
  have zm1_z : ((-1) : Int32).toInt = (-1) := by decide
  have z0_z : (0 : Int32).toInt = 0 := by decide
  have z1_z : (1 : Int32).toInt = 1 := by decide
  have z20_z : (20 : Int32).toInt = 20 := by decide
  have g0_z : am_get (lv_args 0 [.ref 0, .int b, .int m]) 0 = some (.ref 0) := rfl
  have g1_z : am_get (lv_args 0 [.ref 0, .int b, .int m]) 1 = some (.int b) := rfl
  have g2_z : am_get (lv_args 0 [.ref 0, .int b, .int m]) 2 = some (.int m) := rfl
  replace hc_z := rn_aload_n (am_cur_of (i := (0, 1, .aload_n 0, (0, 0, 0), 0)) (by decide +kernel)) g0_z hc_z
  replace hc_z := rn_iload_n (am_cur_of (i := (1, 1, .iload_n 1, (0, 0, 0), 0)) (by decide +kernel)) g1_z hc_z
  replace hc_z := rn_callV (M' := am_m70) (o := 0) (ar := [.int b]) (rest := []) (L := lv_args 0 [.ref 0, .int b]) (am_cur_of (i := (2, 3, .invokevirtual 135, (70, 943, 3), 0)) (by decide +kernel)) rfl rfl rfl rfl hc_z
  obtain ⟨r326_z, h327_z, q328_z, hc_z⟩ := hc_z
  rcases se_70_23 D q328_z with ⟨b329_z, rfl, y330_z⟩ | ⟨b331_z, b332_z, rfl, y333_z⟩ | ⟨b334_z, b335_z, rfl, y336_z⟩
  · replace y330_z := y330_z.symm
    subst y330_z
    replace b329_z : b.toInt < (0 : Int32).toInt := b329_z
    replace hc_z : rn _ _ _ _ [.int 0] _ _ _ := hc_z
    replace hc_z := rn_ifT (am_cur_of (i := (5, 3, .ifCond .eq 13, (9, 0, 0), 0)) (by decide +kernel)) (by decide) hc_z
    replace hc_z := rn_iconst (w := (-1)) (am_cur_of (i := (18, 1, .iconst (-1), (0, 0, 0), 0)) (by decide +kernel)) (by decide) hc_z
    replace hc_z := rn_iret (am_cur_of (i := (19, 1, .ireturn, (0, 0, 0), 0)) (by decide +kernel)) hc_z
    obtain ⟨e337_z, e338_z⟩ := hc_z
    exact Or.inl ⟨by omega, e337_z, fun o k _ => by rw [e338_z]⟩
  · replace y333_z := y333_z.symm
    subst y333_z
    replace b331_z : (0 : Int32).toInt ≤ b.toInt := b331_z
    replace b332_z : ((rg_v h 23 2)).toInt ≤ b.toInt := b332_z
    replace hc_z : rn _ _ _ _ [.int 0] _ _ _ := hc_z
    replace hc_z := rn_ifT (am_cur_of (i := (5, 3, .ifCond .eq 13, (9, 0, 0), 0)) (by decide +kernel)) (by decide) hc_z
    replace hc_z := rn_iconst (w := (-1)) (am_cur_of (i := (18, 1, .iconst (-1), (0, 0, 0), 0)) (by decide +kernel)) (by decide) hc_z
    replace hc_z := rn_iret (am_cur_of (i := (19, 1, .ireturn, (0, 0, 0), 0)) (by decide +kernel)) hc_z
    obtain ⟨e339_z, e340_z⟩ := hc_z
    exact Or.inl ⟨by omega, e339_z, fun o k _ => by rw [e340_z]⟩
  · replace y336_z := y336_z.symm
    subst y336_z
    replace b334_z : (0 : Int32).toInt ≤ b.toInt := b334_z
    replace b335_z : b.toInt < ((rg_v h 23 2)).toInt := b335_z
    replace hc_z : rn _ _ _ _ [.int 1] _ _ _ := hc_z
    replace hc_z := rn_ifF (am_cur_of (i := (5, 3, .ifCond .eq 13, (9, 0, 0), 0)) (by decide +kernel)) (by decide) hc_z
    replace hc_z := rn_iload_n (am_cur_of (i := (8, 1, .iload_n 2, (0, 0, 0), 0)) (by decide +kernel)) g2_z hc_z
    replace hc_z := rn_iconst (w := 1) (am_cur_of (i := (9, 1, .iconst 1, (0, 0, 0), 0)) (by decide +kernel)) (by decide) hc_z
    replace hc_z := rn_bipush (w := 20) (am_cur_of (i := (10, 2, .bipush 20, (0, 0, 0), 0)) (by decide +kernel)) (by decide) hc_z
    replace hc_z := rn_callS (M' := am_m62) (ar := [.int 20, .int 1, .int m]) (rest := []) (L := lv_args 0 [.int m, .int 1, .int 20]) (am_cur_of (i := (12, 3, .invokestatic 172, (62, 908, 3), 0)) (by decide +kernel)) rfl rfl rfl rfl hc_z
    obtain ⟨r341_z, h342_z, q343_z, hc_z⟩ := hc_z
    rcases se_62 q343_z with ⟨b344_z, rfl, y345_z⟩ | ⟨b346_z, b347_z, rfl, y348_z⟩ | ⟨b349_z, b350_z, rfl, y351_z⟩
    · replace y345_z := y345_z.symm
      subst y345_z
      replace b344_z : m.toInt < (1 : Int32).toInt := b344_z
      replace hc_z : rn _ _ _ _ [.int 0] _ _ _ := hc_z
      replace hc_z := rn_ifF (am_cur_of (i := (15, 3, .ifCond .ne 5, (11, 0, 0), 0)) (by decide +kernel)) (by decide) hc_z
      replace hc_z := rn_iconst (w := (-1)) (am_cur_of (i := (18, 1, .iconst (-1), (0, 0, 0), 0)) (by decide +kernel)) (by decide) hc_z
      replace hc_z := rn_iret (am_cur_of (i := (19, 1, .ireturn, (0, 0, 0), 0)) (by decide +kernel)) hc_z
      obtain ⟨e352_z, e353_z⟩ := hc_z
      exact Or.inl ⟨by omega, e352_z, fun o k _ => by rw [e353_z]⟩
    · replace y348_z := y348_z.symm
      subst y348_z
      replace b346_z : (1 : Int32).toInt ≤ m.toInt := b346_z
      replace b347_z : (20 : Int32).toInt < m.toInt := b347_z
      replace hc_z : rn _ _ _ _ [.int 0] _ _ _ := hc_z
      replace hc_z := rn_ifF (am_cur_of (i := (15, 3, .ifCond .ne 5, (11, 0, 0), 0)) (by decide +kernel)) (by decide) hc_z
      replace hc_z := rn_iconst (w := (-1)) (am_cur_of (i := (18, 1, .iconst (-1), (0, 0, 0), 0)) (by decide +kernel)) (by decide) hc_z
      replace hc_z := rn_iret (am_cur_of (i := (19, 1, .ireturn, (0, 0, 0), 0)) (by decide +kernel)) hc_z
      obtain ⟨e354_z, e355_z⟩ := hc_z
      exact Or.inl ⟨by omega, e354_z, fun o k _ => by rw [e355_z]⟩
    · replace y351_z := y351_z.symm
      subst y351_z
      replace b349_z : (1 : Int32).toInt ≤ m.toInt := b349_z
      replace b350_z : m.toInt ≤ (20 : Int32).toInt := b350_z
      replace hc_z : rn _ _ _ _ [.int 1] _ _ _ := hc_z
      replace hc_z := rn_ifT (am_cur_of (i := (15, 3, .ifCond .ne 5, (11, 0, 0), 0)) (by decide +kernel)) (by decide) hc_z
      replace hc_z := rn_aload_n (am_cur_of (i := (20, 1, .aload_n 0, (0, 0, 0), 0)) (by decide +kernel)) g0_z hc_z
      replace hc_z := rn_getR (x := 148) (am_cur_of (i := (21, 3, .getfield 64, (0, 11, 672), 0)) (by decide +kernel)) (by decide +kernel) hc_z
      replace hc_z := rn_aload_n (am_cur_of (i := (24, 1, .aload_n 0, (0, 0, 0), 0)) (by decide +kernel)) g0_z hc_z
      replace hc_z := rn_getM (x := 23) (am_cur_of (i := (25, 3, .getfield 18, (0, 2, 663), 0)) (by decide +kernel)) D hc_z
      replace hc_z := rn_aload_n (am_cur_of (i := (28, 1, .aload_n 0, (0, 0, 0), 0)) (by decide +kernel)) g0_z hc_z
      replace hc_z := rn_getR (x := 48) (am_cur_of (i := (29, 3, .getfield 37, (0, 5, 666), 0)) (by decide +kernel)) (by decide +kernel) hc_z
      replace hc_z := rn_callV (M' := am_m63) (o := 148) (ar := [.ref 48, .ref 23]) (rest := []) (L := lv_args 0 [.ref 148, .ref 23, .ref 48]) (am_cur_of (i := (32, 3, .invokevirtual 146, (63, 912, 3), 0)) (by decide +kernel)) rfl rfl rfl rfl hc_z
      obtain ⟨r356_z, h357_z, q358_z, hc_z⟩ := hc_z
      have vo := rn_void rfl q358_z
      subst vo
      obtain ⟨T1, el1_z, -, -, -, c149_z, f1_z⟩ := se_63_23 q358_z
      have b4_z : b.toNatClampNeg < 4 := by have := rt_cl (x := b) (by omega); omega
      obtain ⟨⟨hd0_z, hd9_z⟩, ⟨tk0_z, tk9_z⟩⟩ := HB (by omega) (by omega)
      have x1_z : rg_v h357_z 149 1 = s1_z := (c149_z 1 (by decide)).trans E1
      have x2_z : rg_v h357_z 149 2 = s2_z := (c149_z 2 (by decide)).trans E2
      have x5_z : rg_v h357_z 150 b.toNatClampNeg = se := (cS_s (a := 149) b4_z).symm.trans ((c149_z (5 + b.toNatClampNeg) (by omega)).trans ((cS_s b4_z).trans E5))
      have x9_z : rg_v h357_z 151 b.toNatClampNeg = al := (cS_a (a := 149) b4_z).symm.trans ((c149_z (9 + b.toNatClampNeg) (by omega)).trans ((cS_a b4_z).trans E9))
      have xn : rg_v h357_z 152 b.toNatClampNeg = en := (cS_n (a := 149) b4_z).symm.trans ((c149_z (13 + b.toNatClampNeg) (by omega)).trans ((cS_n b4_z).trans En))
      have bl : ∀ q, rg_v h357_z (40 + b.toNatClampNeg) q = rg_v h (40 + b.toNatClampNeg) q := by
        intro q
        unfold rg_v
        rw [f1_z _ _ (by omega)]
      have y3_z := (bl 3).trans Y3
      have y4_z := (bl 4).trans Y4
      have y5_z := (bl 5).trans Y5
      have y6_z := (bl 6).trans Y6
      have D1 : h357_z 0 2 = .ref 23 := (f1_z 0 2 (by omega)).trans D
      have z1_z : rg_v h357_z 48 1 = s1_z := by
        unfold rg_v at E1 ⊢
        rw [f1_z 48 1 (by omega)]
        exact E1
      replace hc_z : rn _ _ _ _ [] _ _ _ := hc_z
      replace hc_z := rn_aload_n (am_cur_of (i := (35, 1, .aload_n 0, (0, 0, 0), 0)) (by decide +kernel)) g0_z hc_z
      replace hc_z := rn_getR (x := 148) (am_cur_of (i := (36, 3, .getfield 64, (0, 11, 672), 0)) (by decide +kernel)) (by decide +kernel) hc_z
      replace hc_z := rn_iload_n (am_cur_of (i := (39, 1, .iload_n 1, (0, 0, 0), 0)) (by decide +kernel)) g1_z hc_z
      replace hc_z := rn_iload_n (am_cur_of (i := (40, 1, .iload_n 2, (0, 0, 0), 0)) (by decide +kernel)) g2_z hc_z
      replace hc_z := rn_callV (M' := am_m71) (o := 148) (ar := [.int m, .int b]) (rest := []) (L := lv_args 0 [.ref 148, .int b, .int m]) (am_cur_of (i := (41, 3, .invokevirtual 182, (71, 947, 3), 0)) (by decide +kernel)) rfl rfl rfl rfl hc_z
      obtain ⟨r359_z, h360_z, q361_z, hc_z⟩ := hc_z
      have y362_z := pu_of (a := 71) (by decide) rfl q361_z
      obtain ⟨wv, er, wq⟩ := se_71_23 T1 q361_z
      replace y362_z := y362_z.symm
      subst y362_z
      subst er
      rw [x5_z, xn, x1_z, x2_z, y3_z, y5_z, y6_z] at wq
      replace hc_z : rn _ _ _ _ [.int wv] _ _ _ := hc_z
      replace hc_z := rn_if (am_cur_of (i := (44, 3, .ifCond .eq 6, (26, 0, 0), 0)) (by decide +kernel)) hc_z
      rcases hc_z with ⟨b363_z, hc_z⟩ | ⟨b363_z, hc_z⟩
      · replace b363_z : wv = (0 : Int32) ∧ wv.toInt = (0 : Int32).toInt := b363_z
        replace hc_z := rn_aload_n (am_cur_of (i := (50, 1, .aload_n 0, (0, 0, 0), 0)) (by decide +kernel)) g0_z hc_z
        replace hc_z := rn_getR (x := 148) (am_cur_of (i := (51, 3, .getfield 64, (0, 11, 672), 0)) (by decide +kernel)) (by decide +kernel) hc_z
        replace hc_z := rn_iload_n (am_cur_of (i := (54, 1, .iload_n 1, (0, 0, 0), 0)) (by decide +kernel)) g1_z hc_z
        replace hc_z := rn_callV (M' := am_m72) (o := 148) (ar := [.int b]) (rest := []) (L := lv_args 0 [.ref 148, .int b]) (am_cur_of (i := (55, 3, .invokevirtual 186, (72, 959, 3), 0)) (by decide +kernel)) rfl rfl rfl rfl hc_z
        obtain ⟨r364_z, h365_z, q366_z, hc_z⟩ := hc_z
        have y368_z := pu_of (a := 72) (by decide) rfl q366_z
        have e367_z := se_72_23 T1 q366_z
        replace y368_z := y368_z.symm
        subst y368_z
        rw [x2_z, y6_z] at e367_z
        subst e367_z
        replace hc_z : rn _ _ _ _ [.int (hn_z s2_z b hd_z)] _ _ _ := hc_z
        replace hc_z := rn_iload_n (am_cur_of (i := (58, 1, .iload_n 2, (0, 0, 0), 0)) (by decide +kernel)) g2_z hc_z
        replace hc_z := rn_aload_n (am_cur_of (i := (59, 1, .aload_n 0, (0, 0, 0), 0)) (by decide +kernel)) g0_z hc_z
        replace hc_z := rn_getM (x := 23) (am_cur_of (i := (60, 3, .getfield 18, (0, 2, 663), 0)) (by decide +kernel)) D1 hc_z
        replace hc_z := rn_getR (x := 24) (am_cur_of (i := (63, 3, .getfield 189, (1, 3, 264), 0)) (by decide +kernel)) (by decide +kernel) hc_z
        replace hc_z := rn_iload_n (am_cur_of (i := (66, 1, .iload_n 1, (0, 0, 0), 0)) (by decide +kernel)) g1_z hc_z
        replace hc_z := rn_aaload (s := "AirBed$Blower") (N := 4) (q := b.toNatClampNeg) (am_cur_of (i := (67, 1, .aaload, (0, 0, 0), 0)) (by decide +kernel)) (by decide +kernel) rfl hc_z
        obtain ⟨p369_z, hc_z⟩ := hc_z
        rw [rp_bc23 (rn_G hc_z) p369_z.2] at hc_z
        replace hc_z := rn_getI (v := tk) (am_cur_of (i := (68, 3, .getfield 193, (3, 4, 214), 0)) (by decide +kernel)) (rp_bf23 _ p369_z.2 4 (by decide)) y4_z hc_z
        replace hc_z := rn_imul (w := m * tk) (am_cur_of (i := (71, 1, .imul, (0, 0, 0), 0)) (by decide +kernel)) rfl hc_z
        replace hc_z := rn_iadd (w := (hn_z s2_z b hd_z) + (m * tk)) (am_cur_of (i := (72, 1, .iadd, (0, 0, 0), 0)) (by decide +kernel)) rfl hc_z
        replace hc_z := rn_istore_n (am_cur_of (i := (73, 1, .istore_n 3, (0, 0, 0), 0)) (by decide +kernel)) hc_z
        obtain ⟨_, s370_z, s371_z, g3_z, hc_z⟩ := hc_z
        replace g0_z := s370_z 0 _ (by decide) rfl g0_z
        replace g1_z := s370_z 1 _ (by decide) rfl g1_z
        replace g2_z := s370_z 2 _ (by decide) rfl g2_z
        clear s370_z s371_z
        replace hc_z := rn_iload_n (am_cur_of (i := (74, 1, .iload_n 3, (0, 0, 0), 0)) (by decide +kernel)) g3_z hc_z
        replace hc_z := rn_ldc (w := 99999) (am_cur_of (i := (75, 2, .ldc 198, (0, 0, 960), 99999)) (by decide +kernel)) (by decide) hc_z
        replace hc_z := rn_aload_n (am_cur_of (i := (77, 1, .aload_n 0, (0, 0, 0), 0)) (by decide +kernel)) g0_z hc_z
        replace hc_z := rn_getR (x := 48) (am_cur_of (i := (78, 3, .getfield 37, (0, 5, 666), 0)) (by decide +kernel)) (by decide +kernel) hc_z
        replace hc_z := rn_getI (v := s1_z) (am_cur_of (i := (81, 3, .getfield 199, (5, 1, 471), 0)) (by decide +kernel)) (by decide +kernel) z1_z hc_z
        replace hc_z := rn_isub (w := (99999 : Int32) - s1_z) (am_cur_of (i := (84, 1, .isub, (0, 0, 0), 0)) (by decide +kernel)) rfl hc_z
        replace hc_z := rn_cmp (am_cur_of (i := (85, 3, .if_icmp .le 5, (49, 0, 0), 0)) (by decide +kernel)) hc_z
        rcases hc_z with ⟨b372_z, hc_z⟩ | ⟨b372_z, hc_z⟩
        · replace b372_z : ((hn_z s2_z b hd_z) + (m * tk)).toInt ≤ ((99999 : Int32) - s1_z).toInt := b372_z
          replace hc_z := rn_aload_n (am_cur_of (i := (90, 1, .aload_n 0, (0, 0, 0), 0)) (by decide +kernel)) g0_z hc_z
          replace hc_z := rn_getR (x := 148) (am_cur_of (i := (91, 3, .getfield 64, (0, 11, 672), 0)) (by decide +kernel)) (by decide +kernel) hc_z
          replace hc_z := rn_iload_n (am_cur_of (i := (94, 1, .iload_n 1, (0, 0, 0), 0)) (by decide +kernel)) g1_z hc_z
          replace hc_z := rn_callV (M' := am_m74) (o := 148) (ar := [.int b]) (rest := []) (L := lv_args 0 [.ref 148, .int b]) (am_cur_of (i := (95, 3, .invokevirtual 202, (74, 961, 3), 0)) (by decide +kernel)) rfl rfl rfl rfl hc_z
          obtain ⟨r373_z, h374_z, q375_z, hc_z⟩ := hc_z
          obtain ⟨v2_z, er⟩ := rn_ret (M := am_m74) rfl (by decide) q375_z
          subst er
          have hr := hn_r (l := s2_z) (b := b) hd0_z hd9_z
          have zz := se_74_23 T1 el1_z (by rw [x1_z]; exact s10_z) (by rw [x2_z, y6_z]; omega) (by rw [x1_z, x2_z, y6_z]; omega) q375_z
          rw [x1_z, x2_z, y6_z] at zz
          obtain ⟨q1_z, q2_z⟩ := zz
          have T2 := gd_b q2_z T1
          have el2_z : rg_v h374_z 148 5 = 2147483647 := by
            unfold rg_v at el1_z ⊢
            rw [q2_z 148 5 rfl]
            exact el1_z
          have gv : ∀ o k, gB o k = false → rg_v h374_z o k = rg_v h357_z o k := by
            intro o k e
            unfold rg_v
            rw [q2_z o k e]
          have gB4 : ∀ q, gB (40 + b.toNatClampNeg) q = false := by
            have e : ∀ c, c < 4 → ∀ q, gB (40 + c) q = false := by
              intro c hc4_z q
              match c, hc4_z with
              | 0, _ => rfl
              | 1, _ => rfl
              | 2, _ => rfl
              | 3, _ => rfl
            exact fun q => e _ b4_z q
          have u1_z : rg_v h374_z 149 1 = s1_z + hn_z s2_z b hd_z := Int32.toInt_inj.mp (by rw [q1_z, ab_iadd (by omega) (by omega)])
          have u5_z := (gv 150 b.toNatClampNeg rfl).trans x5_z
          have u9_z := (gv 151 b.toNatClampNeg rfl).trans x9_z
          have un := (gv 152 b.toNatClampNeg rfl).trans xn
          have u4_z := (gv _ 4 (gB4 4)).trans y4_z
          have uk := (gv _ 5 (gB4 5)).trans y5_z
          replace hc_z : rn _ _ _ _ [.int v2_z] _ _ _ := hc_z
          replace hc_z := rn_pop (am_cur_of (i := (98, 1, .pop, (0, 0, 0), 0)) (by decide +kernel)) hc_z
          replace hc_z := rn_iconst (w := 0) (am_cur_of (i := (99, 1, .iconst 0, (0, 0, 0), 0)) (by decide +kernel)) (by decide) hc_z
          replace hc_z := rn_istore (am_cur_of (i := (100, 2, .istore 4, (0, 0, 0), 0)) (by decide +kernel)) hc_z
          obtain ⟨_, s376_z, s377_z, g4_z, hc_z⟩ := hc_z
          replace g0_z := s376_z 0 _ (by decide) rfl g0_z
          replace g1_z := s376_z 1 _ (by decide) rfl g1_z
          replace g2_z := s376_z 2 _ (by decide) rfl g2_z
          replace g3_z := s376_z 3 _ (by decide) rfl g3_z
          clear s376_z s377_z
          have em : ((m.toInt.toNat : Nat) : Int) = m.toInt := by omega
          have mt := se_mt (m := m) (t := tk) (by omega) (by omega) tk0_z tk9_z
          have la := ab_iadd (x := hn_z s2_z b hd_z) (y := m * tk) (by omega) (by omega)
          have sb := ab_isub (x := 99999) (y := s1_z) (by rw [show (99999 : Int32).toInt = 99999 by decide]; omega) (by rw [show (99999 : Int32).toInt = 99999 by decide]; omega)
          rw [show (99999 : Int32).toInt = 99999 by decide] at sb
          have us : (rg_v h374_z 149 1).toInt = s1_z.toInt + (hn_z s2_z b hd_z).toInt := by rw [u1_z, ab_iadd (by omega) (by omega)]
          obtain ⟨l3_z, h3_z, f0_z, hc3_z, T3, t1_z, t5_z, t9_z, tn, -, tf⟩ := se_l23 _ m.toInt.toNat 0 _ _ T2 el2_z (by omega) (by rw [u4_z]; exact tk0_z) (by rw [u4_z, us, em]; omega) b4_z g0_z g1_z g2_z g4_z (by rw [show (0 : Int32).toInt = 0 by decide]; omega) hc_z
          rw [u4_z, u1_z] at t1_z tn
          rw [u4_z, uk, u5_z, un, u1_z] at t5_z
          rw [u9_z] at t9_z
          obtain ⟨tn1_z, tn2_z⟩ := tn (by omega)
          have hf_z : ∀ o k, (48 ≤ o ∧ o ≤ 51) ∨ (60 ≤ o ∧ o ≤ 141) → h3_z o k = h o k := by
            intro o k ho
            have e1_z : gB o k = false := by
              unfold gB wB
              have n1_z : Nat.beq o 17 = false := se_bn (by omega)
              have n2_z : Nat.beq o 18 = false := se_bn (by omega)
              have n3_z : Nat.beq o 38 = false := se_bn (by omega)
              have n4_z : Nat.beq o 39 = false := se_bn (by omega)
              have n5_z : Nat.beq o 149 = false := se_bn (by omega)
              have n6_z : Nat.beq o 148 = false := se_bn (by omega)
              rw [n1_z, n2_z, n3_z, n4_z, n5_z, n6_z]
              rfl
            exact (tf o k e1_z (by omega) (by omega)).trans ((q2_z o k e1_z).trans (f1_z o k (by omega)))
          have hv_z : ∀ o k, (48 ≤ o ∧ o ≤ 51) ∨ (60 ≤ o ∧ o ≤ 141) → rg_v h3_z o k = rg_v h o k := by
            intro o k ho
            unfold rg_v
            rw [hf_z o k ho]
          replace hc_z := hc3_z
          clear g0_z
          have g0_z := f0_z
          replace hc_z := rn_aload_n (am_cur_of (i := (123, 1, .aload_n 0, (0, 0, 0), 0)) (by decide +kernel)) g0_z hc_z
          replace hc_z := rn_callV (M' := am_m81) (o := 0) (ar := []) (rest := []) (L := lv_args 0 [.ref 0]) (am_cur_of (i := (124, 3, .invokevirtual 208, (81, 992, 3), 0)) (by decide +kernel)) rfl rfl rfl rfl hc_z
          obtain ⟨r378_z, h379_z, q380_z, hc_z⟩ := hc_z
          have zx := se_81 (by rw [hv_z 60 1 (by omega)]; exact n0_z) (by rw [hv_z 60 1 (by omega)]; exact n1_z) (by rw [hv_z 60 2 (by omega)]; exact s0_z) (by rw [hv_z 60 2 (by omega)]; exact sz20_z) q380_z
          rw [hv_z 60 1 (by omega), hv_z 60 2 (by omega)] at zx
          obtain ⟨⟨v8_z, rfl⟩, p1_z, p2_z, p3_z, p4_z, p5_z⟩ := zx
          replace hc_z : rn _ _ _ _ [.int v8_z] _ _ _ := hc_z
          replace hc_z := rn_iret (am_cur_of (i := (127, 1, .ireturn, (0, 0, 0), 0)) (by decide +kernel)) hc_z
          obtain ⟨e381_z, e382_z⟩ := hc_z
          rw [e382_z]
          refine Or.inr (Or.inr (Or.inr ⟨⟨by omega, by omega, by omega, by omega⟩, (wq.resolve_left (fun q => absurd (q.1.symm.trans b363_z.1) (by decide))).2, (by omega), ⟨_, e381_z⟩, ⟨fun j hj_z => (p1_z j hj_z).trans (cS_e (fun o k a c => hf_z o k (by omega)) j), p2_z, p3_z⟩, fun j j1_z j17_z => ?_, fun o k a c e => (p5_z o k (by omega) e (by omega)).trans (hf_z o k (by omega))⟩))
          refine (p4_z j j17_z).trans ?_
          unfold bW
          by_cases c1_z : j = 1
          · rw [if_pos c1_z, c1_z]
            exact t1_z
          · rw [if_neg c1_z]
            by_cases c2_z : j = 2
            · rw [if_pos c2_z, c2_z]
              exact tn2_z
            · rw [if_neg c2_z]
              by_cases c3_z : j = 5 + b.toNatClampNeg
              · rw [if_pos c3_z, c3_z, cS_s b4_z, cS_s b4_z, cS_n b4_z, E5, En]
                exact t5_z
              · rw [if_neg c3_z]
                by_cases c4_z : j = 9 + b.toNatClampNeg
                · rw [if_pos c4_z, c4_z, cS_a b4_z, cS_a b4_z, E9]
                  exact t9_z
                · rw [if_neg c4_z]
                  by_cases c5_z : j = 13 + b.toNatClampNeg
                  · rw [if_pos c5_z, c5_z, cS_n b4_z]
                    exact tn1_z
                  · rw [if_neg c5_z]
                    have k1_z : cS_z h3_z 149 j = cS_z h374_z 149 j := cS_x (b := b.toNatClampNeg) (fun o k a c e f => tf o k (se_gb a c e) (by omega) (by omega)) (by omega) c3_z c4_z c5_z
                    have k2_z : cS_z h374_z 149 j = cS_z h357_z 149 j := cS_x (b := b.toNatClampNeg) (fun o k a c e f => q2_z o k (se_gb a c e)) (by omega) c3_z c4_z c5_z
                    exact k1_z.trans (k2_z.trans (c149_z j j17_z))
        · replace b372_z : ((99999 : Int32) - s1_z).toInt < ((hn_z s2_z b hd_z) + (m * tk)).toInt := b372_z
          replace hc_z := rn_iconst (w := (-1)) (am_cur_of (i := (88, 1, .iconst (-1), (0, 0, 0), 0)) (by decide +kernel)) (by decide) hc_z
          replace hc_z := rn_iret (am_cur_of (i := (89, 1, .ireturn, (0, 0, 0), 0)) (by decide +kernel)) hc_z
          obtain ⟨e383_z, e384_z⟩ := hc_z
          exact Or.inr (Or.inr (Or.inl ⟨⟨by omega, by omega, by omega, by omega⟩, (wq.resolve_left (fun q => absurd (q.1.symm.trans b363_z.1) (by decide))).2, by omega, e383_z, fun o k q => by rw [e384_z]; exact f1_z o k q⟩))
      · replace b363_z : ¬ wv = (0 : Int32) ∧ ¬ wv.toInt = (0 : Int32).toInt := b363_z
        replace hc_z := rn_bipush (w := (-2)) (am_cur_of (i := (47, 2, .bipush (-2), (0, 0, 0), 0)) (by decide +kernel)) (by decide) hc_z
        replace hc_z := rn_iret (am_cur_of (i := (49, 1, .ireturn, (0, 0, 0), 0)) (by decide +kernel)) hc_z
        obtain ⟨e385_z, e386_z⟩ := hc_z
        exact Or.inr (Or.inl ⟨⟨by omega, by omega, by omega, by omega⟩, (wq.resolve_right (fun q => b363_z.1 q.1)).2, e385_z, fun o k q => by rw [e386_z]; exact f1_z o k q⟩)
def wW (f : Nat → Int32) (m : Int32) (j : Nat) : Int32 := if j = 1 then f 1 + m else f j
def pW (f : Nat → Int32) (m : Int32) (j : Nat) : Int32 := if j = 1 then f 1 + m else if j = 2 then -2 else if j = 3 then f 3 - m else f j
theorem cS_y {h h' : am_H} {a : Nat} (e : ∀ o k, a ≤ o → o ≤ a + 3 → ¬ (o = a ∧ k ≤ 1) → h' o k = h o k) {j : Nat} (j2_z : 2 ≤ j) : cS_z h' a j = cS_z h a j := by
  have ev_z : ∀ o k, a ≤ o → o ≤ a + 3 → ¬ (o = a ∧ k ≤ 1) → rg_v h' o k = rg_v h o k := by
    intro o k h1_z h2_z h3_z
    unfold rg_v
    rw [e o k h1_z h2_z h3_z]
  unfold cS_z
  by_cases c1_z : j < 5
  · rw [if_pos c1_z, if_pos c1_z, ev_z a j (by omega) (by omega) (by omega)]
  · rw [if_neg c1_z, if_neg c1_z, ev_z (a + 1) (j - 5) (by omega) (by omega) (by omega), ev_z (a + 2) (j - 9) (by omega) (by omega) (by omega), ev_z (a + 3) (j - 13) (by omega) (by omega) (by omega)]
theorem se_gc {o k : Nat} (a : 149 ≤ o) (c : o ≤ 149 + 3) (e : ¬ (o = 149 ∧ k ≤ 1)) : gB o k = false := by
  unfold gB wB
  rw [se_bn (show ¬ o = 17 by omega), se_bn (show ¬ o = 18 by omega), se_bn (show ¬ o = 38 by omega), se_bn (show ¬ o = 39 by omega), se_bn (show ¬ o = 148 by omega)]
  by_cases q : o = 149
  · cases z : Nat.ble k 1 with
    | false => simp
    | true =>
      have := Nat.le_of_ble_eq_true z
      omega
  · rw [se_bn q]
    rfl
theorem se_gh {o k : Nat} (ho : (48 ≤ o ∧ o ≤ 51) ∨ (60 ≤ o ∧ o ≤ 141)) : gB o k = false := by
  unfold gB wB
  rw [se_bn (show ¬ o = 17 by omega), se_bn (show ¬ o = 18 by omega), se_bn (show ¬ o = 38 by omega), se_bn (show ¬ o = 39 by omega), se_bn (show ¬ o = 149 by omega), se_bn (show ¬ o = 148 by omega)]
  rfl
theorem se_83_2 {n : Nat} {r : Option Value} {h h' : am_H} {m o s1_z : Int32} (D : h 0 2 = .ref 2) (E1 : rg_v h 48 1 = s1_z) (s10_z : 0 ≤ s1_z.toInt) (s19_z : s1_z.toInt ≤ 99999) (n0_z : 0 ≤ (rg_v h 60 1).toInt) (n1_z : (rg_v h 60 1).toInt < 20) (s0_z : 0 ≤ (rg_v h 60 2).toInt) (sz20_z : (rg_v h 60 2).toInt ≤ 20) (hc_z : rn n am_m83 0 (lv_args 0 [.ref 0, .int m, .int o]) [] h r h') : (¬ (1 ≤ m.toInt ∧ m.toInt ≤ 999 ∧ s1_z.toInt + m.toInt ≤ 99999) ∧ r = some (.int (-1)) ∧ (∀ o k, ¬ (148 ≤ o ∧ o ≤ 152) → h' o k = h o k)) ∨ ((1 ≤ m.toInt ∧ m.toInt ≤ 999 ∧ s1_z.toInt + m.toInt ≤ 99999) ∧ (∃ v : Int32, r = some (.int v)) ∧ hp_z h h h' ∧ (∀ j, 1 ≤ j → j < 17 → cS_z h' 48 j = wW (cS_z h 48) m j) ∧ (∀ o k, 62 ≤ o → o ≤ 141 → ¬ (62 + 4 * (rg_v h 60 1).toNatClampNeg ≤ o ∧ o ≤ 62 + 4 * (rg_v h 60 1).toNatClampNeg + 3) → h' o k = h o k)) := by
  have z0_z : (0 : Int32).toInt = 0 := by decide
  have z1_z : (1 : Int32).toInt = 1 := by decide
  have z999_z : (999 : Int32).toInt = 999 := by decide
  have g0_z : am_get (lv_args 0 [.ref 0, .int m, .int o]) 0 = some (.ref 0) := rfl
  have g1_z : am_get (lv_args 0 [.ref 0, .int m, .int o]) 1 = some (.int m) := rfl
  have g2_z : am_get (lv_args 0 [.ref 0, .int m, .int o]) 2 = some (.int o) := rfl
  replace hc_z := rn_iload_n (am_cur_of (i := (0, 1, .iload_n 1, (0, 0, 0), 0)) (by decide +kernel)) g1_z hc_z
  replace hc_z := rn_iconst (w := 1) (am_cur_of (i := (1, 1, .iconst 1, (0, 0, 0), 0)) (by decide +kernel)) (by decide) hc_z
  replace hc_z := rn_sipush (w := 999) (am_cur_of (i := (2, 3, .sipush 999, (0, 0, 0), 0)) (by decide +kernel)) (by decide) hc_z
  replace hc_z := rn_callS (M' := am_m62) (ar := [.int 999, .int 1, .int m]) (rest := []) (L := lv_args 0 [.int m, .int 1, .int 999]) (am_cur_of (i := (5, 3, .invokestatic 172, (62, 908, 3), 0)) (by decide +kernel)) rfl rfl rfl rfl hc_z
  obtain ⟨r387_z, h388_z, q389_z, hc_z⟩ := hc_z
  rcases se_62 q389_z with ⟨b390_z, rfl, y391_z⟩ | ⟨b392_z, b393_z, rfl, y394_z⟩ | ⟨b395_z, b396_z, rfl, y397_z⟩
  · replace y391_z := y391_z.symm
    subst y391_z
    replace b390_z : m.toInt < (1 : Int32).toInt := b390_z
    replace hc_z : rn _ _ _ _ [.int 0] _ _ _ := hc_z
    replace hc_z := rn_ifT (am_cur_of (i := (8, 3, .ifCond .eq 17, (12, 0, 0), 0)) (by decide +kernel)) (by decide) hc_z
    replace hc_z := rn_iconst (w := (-1)) (am_cur_of (i := (25, 1, .iconst (-1), (0, 0, 0), 0)) (by decide +kernel)) (by decide) hc_z
    replace hc_z := rn_iret (am_cur_of (i := (26, 1, .ireturn, (0, 0, 0), 0)) (by decide +kernel)) hc_z
    obtain ⟨e398_z, e399_z⟩ := hc_z
    have sb := ab_isub (x := 99999) (y := s1_z) (by rw [show (99999 : Int32).toInt = 99999 by decide]; omega) (by rw [show (99999 : Int32).toInt = 99999 by decide]; omega)
    rw [show (99999 : Int32).toInt = 99999 by decide] at sb
    exact Or.inl ⟨by omega, e398_z, fun o k _ => by rw [e399_z]⟩
  · replace y394_z := y394_z.symm
    subst y394_z
    replace b392_z : (1 : Int32).toInt ≤ m.toInt := b392_z
    replace b393_z : (999 : Int32).toInt < m.toInt := b393_z
    replace hc_z : rn _ _ _ _ [.int 0] _ _ _ := hc_z
    replace hc_z := rn_ifT (am_cur_of (i := (8, 3, .ifCond .eq 17, (12, 0, 0), 0)) (by decide +kernel)) (by decide) hc_z
    replace hc_z := rn_iconst (w := (-1)) (am_cur_of (i := (25, 1, .iconst (-1), (0, 0, 0), 0)) (by decide +kernel)) (by decide) hc_z
    replace hc_z := rn_iret (am_cur_of (i := (26, 1, .ireturn, (0, 0, 0), 0)) (by decide +kernel)) hc_z
    obtain ⟨e400_z, e401_z⟩ := hc_z
    have sb := ab_isub (x := 99999) (y := s1_z) (by rw [show (99999 : Int32).toInt = 99999 by decide]; omega) (by rw [show (99999 : Int32).toInt = 99999 by decide]; omega)
    rw [show (99999 : Int32).toInt = 99999 by decide] at sb
    exact Or.inl ⟨by omega, e400_z, fun o k _ => by rw [e401_z]⟩
  · replace y397_z := y397_z.symm
    subst y397_z
    replace b395_z : (1 : Int32).toInt ≤ m.toInt := b395_z
    replace b396_z : m.toInt ≤ (999 : Int32).toInt := b396_z
    replace hc_z : rn _ _ _ _ [.int 1] _ _ _ := hc_z
    replace hc_z := rn_ifF (am_cur_of (i := (8, 3, .ifCond .eq 17, (12, 0, 0), 0)) (by decide +kernel)) (by decide) hc_z
    replace hc_z := rn_iload_n (am_cur_of (i := (11, 1, .iload_n 1, (0, 0, 0), 0)) (by decide +kernel)) g1_z hc_z
    replace hc_z := rn_ldc (w := 99999) (am_cur_of (i := (12, 2, .ldc 198, (0, 0, 960), 99999)) (by decide +kernel)) (by decide) hc_z
    replace hc_z := rn_aload_n (am_cur_of (i := (14, 1, .aload_n 0, (0, 0, 0), 0)) (by decide +kernel)) g0_z hc_z
    replace hc_z := rn_getR (x := 48) (am_cur_of (i := (15, 3, .getfield 37, (0, 5, 666), 0)) (by decide +kernel)) (by decide +kernel) hc_z
    replace hc_z := rn_getI (v := s1_z) (am_cur_of (i := (18, 3, .getfield 199, (5, 1, 471), 0)) (by decide +kernel)) (by decide +kernel) E1 hc_z
    replace hc_z := rn_isub (w := (99999 : Int32) - s1_z) (am_cur_of (i := (21, 1, .isub, (0, 0, 0), 0)) (by decide +kernel)) rfl hc_z
    replace hc_z := rn_cmp (am_cur_of (i := (22, 3, .if_icmp .le 5, (14, 0, 0), 0)) (by decide +kernel)) hc_z
    rcases hc_z with ⟨b402_z, hc_z⟩ | ⟨b402_z, hc_z⟩
    · replace b402_z : m.toInt ≤ ((99999 : Int32) - s1_z).toInt := b402_z
      replace hc_z := rn_aload_n (am_cur_of (i := (27, 1, .aload_n 0, (0, 0, 0), 0)) (by decide +kernel)) g0_z hc_z
      replace hc_z := rn_getR (x := 148) (am_cur_of (i := (28, 3, .getfield 64, (0, 11, 672), 0)) (by decide +kernel)) (by decide +kernel) hc_z
      replace hc_z := rn_aload_n (am_cur_of (i := (31, 1, .aload_n 0, (0, 0, 0), 0)) (by decide +kernel)) g0_z hc_z
      replace hc_z := rn_getM (x := 2) (am_cur_of (i := (32, 3, .getfield 18, (0, 2, 663), 0)) (by decide +kernel)) D hc_z
      replace hc_z := rn_aload_n (am_cur_of (i := (35, 1, .aload_n 0, (0, 0, 0), 0)) (by decide +kernel)) g0_z hc_z
      replace hc_z := rn_getR (x := 48) (am_cur_of (i := (36, 3, .getfield 37, (0, 5, 666), 0)) (by decide +kernel)) (by decide +kernel) hc_z
      replace hc_z := rn_callV (M' := am_m63) (o := 148) (ar := [.ref 48, .ref 2]) (rest := []) (L := lv_args 0 [.ref 148, .ref 2, .ref 48]) (am_cur_of (i := (39, 3, .invokevirtual 146, (63, 912, 3), 0)) (by decide +kernel)) rfl rfl rfl rfl hc_z
      obtain ⟨r403_z, h404_z, q405_z, hc_z⟩ := hc_z
      have vo := rn_void rfl q405_z
      subst vo
      obtain ⟨T1, el1_z, -, -, -, c149_z, f1_z⟩ := se_63_2 q405_z
      have x1_z : rg_v h404_z 149 1 = s1_z := (c149_z 1 (by decide)).trans E1
      replace hc_z : rn _ _ _ _ [] _ _ _ := hc_z
      replace hc_z := rn_aload_n (am_cur_of (i := (42, 1, .aload_n 0, (0, 0, 0), 0)) (by decide +kernel)) g0_z hc_z
      replace hc_z := rn_getR (x := 148) (am_cur_of (i := (43, 3, .getfield 64, (0, 11, 672), 0)) (by decide +kernel)) (by decide +kernel) hc_z
      replace hc_z := rn_iload_n (am_cur_of (i := (46, 1, .iload_n 1, (0, 0, 0), 0)) (by decide +kernel)) g1_z hc_z
      replace hc_z := rn_iload_n (am_cur_of (i := (47, 1, .iload_n 2, (0, 0, 0), 0)) (by decide +kernel)) g2_z hc_z
      replace hc_z := rn_callV (M' := am_m75) (o := 148) (ar := [.int o, .int m]) (rest := []) (L := lv_args 0 [.ref 148, .int m, .int o]) (am_cur_of (i := (48, 3, .invokevirtual 225, (75, 1007, 3), 0)) (by decide +kernel)) rfl rfl rfl rfl hc_z
      obtain ⟨r406_z, h407_z, q408_z, hc_z⟩ := hc_z
      obtain ⟨z1_z, z2_z, z3_z⟩ := gs_75_2 T1 el1_z x1_z s10_z (by omega) (by omega) q408_z
      subst z1_z
      have u1_z : rg_v h407_z 149 1 = s1_z + m := Int32.toInt_inj.mp (by rw [z2_z, ab_iadd (by omega) (by omega)])
      have gf : ∀ o k, gB o k = false → ¬ (o = 148 ∧ k = 4) → h407_z o k = h404_z o k := fun o k e e2_z => (z3_z o k e)
      replace hc_z : rn _ _ _ _ [.int 1] _ _ _ := hc_z
      replace hc_z := rn_pop (am_cur_of (i := (51, 1, .pop, (0, 0, 0), 0)) (by decide +kernel)) hc_z
      replace hc_z := rn_aload_n (am_cur_of (i := (52, 1, .aload_n 0, (0, 0, 0), 0)) (by decide +kernel)) g0_z hc_z
      replace hc_z := rn_callV (M' := am_m81) (o := 0) (ar := []) (rest := []) (L := lv_args 0 [.ref 0]) (am_cur_of (i := (53, 3, .invokevirtual 208, (81, 992, 3), 0)) (by decide +kernel)) rfl rfl rfl rfl hc_z
      obtain ⟨r409_z, h410_z, q411_z, hc_z⟩ := hc_z
      have hf_z : ∀ o k, (48 ≤ o ∧ o ≤ 51) ∨ (60 ≤ o ∧ o ≤ 141) → h407_z o k = h o k := by
        intro o k ho
        exact (gf o k (se_gh ho) (by omega)).trans (f1_z o k (by omega))
      have hv_z : ∀ o k, (48 ≤ o ∧ o ≤ 51) ∨ (60 ≤ o ∧ o ≤ 141) → rg_v h407_z o k = rg_v h o k := by
        intro o k ho
        unfold rg_v
        rw [hf_z o k ho]
      have zx := se_81 (by rw [hv_z 60 1 (by omega)]; exact n0_z) (by rw [hv_z 60 1 (by omega)]; exact n1_z) (by rw [hv_z 60 2 (by omega)]; exact s0_z) (by rw [hv_z 60 2 (by omega)]; exact sz20_z) q411_z
      rw [hv_z 60 1 (by omega), hv_z 60 2 (by omega)] at zx
      obtain ⟨⟨v8_z, rfl⟩, p1_z, p2_z, p3_z, p4_z, p5_z⟩ := zx
      replace hc_z : rn _ _ _ _ [.int v8_z] _ _ _ := hc_z
      replace hc_z := rn_iret (am_cur_of (i := (56, 1, .ireturn, (0, 0, 0), 0)) (by decide +kernel)) hc_z
      obtain ⟨e412_z, e413_z⟩ := hc_z
      have sb := ab_isub (x := 99999) (y := s1_z) (by rw [show (99999 : Int32).toInt = 99999 by decide]; omega) (by rw [show (99999 : Int32).toInt = 99999 by decide]; omega)
      rw [show (99999 : Int32).toInt = 99999 by decide] at sb
      rw [e413_z]
      refine Or.inr ⟨⟨by omega, by omega, by omega⟩, ⟨_, e412_z⟩, ⟨fun j hj_z => (p1_z j hj_z).trans (cS_e (fun o k a c => hf_z o k (by omega)) j), p2_z, p3_z⟩, fun j j1_z j17_z => ?_, fun o k a c e => (p5_z o k (by omega) e (by omega)).trans (hf_z o k (by omega))⟩
      refine (p4_z j j17_z).trans ?_
      unfold wW
      by_cases c1_z : j = 1
      · rw [if_pos c1_z, c1_z]
        exact u1_z.trans (congrArg (fun q => q + m) E1.symm)
      · rw [if_neg c1_z]
        exact (cS_y (fun o k a c e => gf o k (se_gc a c e) (by omega)) (by omega)).trans (c149_z j j17_z)
    · replace b402_z : ((99999 : Int32) - s1_z).toInt < m.toInt := b402_z
      replace hc_z := rn_iconst (w := (-1)) (am_cur_of (i := (25, 1, .iconst (-1), (0, 0, 0), 0)) (by decide +kernel)) (by decide) hc_z
      replace hc_z := rn_iret (am_cur_of (i := (26, 1, .ireturn, (0, 0, 0), 0)) (by decide +kernel)) hc_z
      obtain ⟨e414_z, e415_z⟩ := hc_z
      have sb := ab_isub (x := 99999) (y := s1_z) (by rw [show (99999 : Int32).toInt = 99999 by decide]; omega) (by rw [show (99999 : Int32).toInt = 99999 by decide]; omega)
      rw [show (99999 : Int32).toInt = 99999 by decide] at sb
      exact Or.inl ⟨by omega, e414_z, fun o k _ => by rw [e415_z]⟩
theorem pm_c {h h' : am_H} {a : Nat} (e : ∀ o k, a ≤ o → o ≤ a + 3 → ¬ (o = a ∧ k ≤ 3) → h' o k = h o k) {j : Nat} (j2_z : 4 ≤ j) : cS_z h' a j = cS_z h a j := by
  have ev_z : ∀ o k, a ≤ o → o ≤ a + 3 → ¬ (o = a ∧ k ≤ 3) → rg_v h' o k = rg_v h o k := by
    intro o k h1_z h2_z h3_z
    unfold rg_v
    rw [e o k h1_z h2_z h3_z]
  unfold cS_z
  by_cases c1_z : j < 5
  · rw [if_pos c1_z, if_pos c1_z, ev_z a j (by omega) (by omega) (by omega)]
  · rw [if_neg c1_z, if_neg c1_z, ev_z (a + 1) (j - 5) (by omega) (by omega) (by omega), ev_z (a + 2) (j - 9) (by omega) (by omega) (by omega), ev_z (a + 3) (j - 13) (by omega) (by omega) (by omega)]
theorem pm_l {V W X Y : Prop} {r : Option Value} {A : Prop} {B : Prop} (h : V ∨ (W ∧ X)) (a : r = some (.int (-1))) (k : Y) : (V ∧ r = some (.int (-1)) ∧ Y) ∨ B ∨ (W ∧ X ∧ r = some (.int (-1)) ∧ Y) ∨ A := by
  rcases h with h | ⟨h1_z, h2_z⟩
  · exact Or.inl ⟨h, a, k⟩
  · exact Or.inr (Or.inr (Or.inl ⟨h1_z, h2_z, a, k⟩))
theorem se_84_2 {n : Nat} {r : Option Value} {h h' : am_H} {m s1_z lf : Int32} (D : h 0 2 = .ref 2) (E1 : rg_v h 48 1 = s1_z) (s10_z : 0 ≤ s1_z.toInt) (s19_z : s1_z.toInt ≤ 99999) (n0_z : 0 ≤ (rg_v h 60 1).toInt) (n1_z : (rg_v h 60 1).toInt < 20) (s0_z : 0 ≤ (rg_v h 60 2).toInt) (sz20_z : (rg_v h 60 2).toInt ≤ 20) (E3 : rg_v h 48 3 = lf) (l0_z : 0 ≤ lf.toInt) (l9_z : lf.toInt ≤ 99) (hc_z : rn n am_m84 0 (lv_args 0 [.ref 0, .int m]) [] h r h') : (¬ (¬ (rg_v h 2 8).toInt = 0 ∧ 1 ≤ m.toInt) ∧ r = some (.int (-1)) ∧ (∀ o k, ¬ (148 ≤ o ∧ o ≤ 152) → h' o k = h o k)) ∨ ((¬ (rg_v h 2 8).toInt = 0 ∧ 1 ≤ m.toInt) ∧ ¬ (m.toInt ≤ lf.toInt) ∧ r = some (.int (-2)) ∧ (∀ o k, ¬ (148 ≤ o ∧ o ≤ 152) → h' o k = h o k)) ∨ (((¬ (rg_v h 2 8).toInt = 0 ∧ 1 ≤ m.toInt) ∧ (m.toInt ≤ lf.toInt)) ∧ ¬ (s1_z.toInt + m.toInt ≤ 99999) ∧ r = some (.int (-1)) ∧ (∀ o k, ¬ (148 ≤ o ∧ o ≤ 152) → h' o k = h o k)) ∨ ((¬ (rg_v h 2 8).toInt = 0 ∧ 1 ≤ m.toInt) ∧ (m.toInt ≤ lf.toInt) ∧ (s1_z.toInt + m.toInt ≤ 99999) ∧ (∃ v : Int32, r = some (.int v)) ∧ hp_z h h h' ∧ (∀ j, 1 ≤ j → j < 17 → cS_z h' 48 j = pW (cS_z h 48) m j) ∧ (∀ o k, 62 ≤ o → o ≤ 141 → ¬ (62 + 4 * (rg_v h 60 1).toNatClampNeg ≤ o ∧ o ≤ 62 + 4 * (rg_v h 60 1).toNatClampNeg + 3) → h' o k = h o k)) := by
  have z0_z : (0 : Int32).toInt = 0 := by decide
  have z1_z : (1 : Int32).toInt = 1 := by decide
  have g0_z : am_get (lv_args 0 [.ref 0, .int m]) 0 = some (.ref 0) := rfl
  have g1_z : am_get (lv_args 0 [.ref 0, .int m]) 1 = some (.int m) := rfl
  replace hc_z := rn_aload_n (am_cur_of (i := (0, 1, .aload_n 0, (0, 0, 0), 0)) (by decide +kernel)) g0_z hc_z
  replace hc_z := rn_getM (x := 2) (am_cur_of (i := (1, 3, .getfield 18, (0, 2, 663), 0)) (by decide +kernel)) D hc_z
  replace hc_z := rn_getI (v := rg_v h 2 8) (am_cur_of (i := (4, 3, .getfield 229, (1, 8, 281), 0)) (by decide +kernel)) (by decide +kernel) rfl hc_z
  replace hc_z := rn_if (am_cur_of (i := (7, 3, .ifCond .eq 8, (7, 0, 0), 0)) (by decide +kernel)) hc_z
  rcases hc_z with ⟨b416_z, hc_z⟩ | ⟨b416_z, hc_z⟩
  · replace b416_z : (rg_v h 2 8) = (0 : Int32) ∧ (rg_v h 2 8).toInt = (0 : Int32).toInt := b416_z
    replace hc_z := rn_iconst (w := (-1)) (am_cur_of (i := (15, 1, .iconst (-1), (0, 0, 0), 0)) (by decide +kernel)) (by decide) hc_z
    replace hc_z := rn_iret (am_cur_of (i := (16, 1, .ireturn, (0, 0, 0), 0)) (by decide +kernel)) hc_z
    obtain ⟨e417_z, e418_z⟩ := hc_z
    have sb := ab_isub (x := 99999) (y := s1_z) (by rw [show (99999 : Int32).toInt = 99999 by decide]; omega) (by rw [show (99999 : Int32).toInt = 99999 by decide]; omega)
    rw [show (99999 : Int32).toInt = 99999 by decide] at sb
    refine pm_l ?_ e417_z (fun o k _ => by rw [e418_z])
    omega
  · replace b416_z : ¬ (rg_v h 2 8) = (0 : Int32) ∧ ¬ (rg_v h 2 8).toInt = (0 : Int32).toInt := b416_z
    replace hc_z := rn_iload_n (am_cur_of (i := (10, 1, .iload_n 1, (0, 0, 0), 0)) (by decide +kernel)) g1_z hc_z
    replace hc_z := rn_iconst (w := 1) (am_cur_of (i := (11, 1, .iconst 1, (0, 0, 0), 0)) (by decide +kernel)) (by decide) hc_z
    replace hc_z := rn_cmp (am_cur_of (i := (12, 3, .if_icmp .ge 5, (9, 0, 0), 0)) (by decide +kernel)) hc_z
    rcases hc_z with ⟨b419_z, hc_z⟩ | ⟨b419_z, hc_z⟩
    · replace b419_z : (1 : Int32).toInt ≤ m.toInt := b419_z
      replace hc_z := rn_iload_n (am_cur_of (i := (17, 1, .iload_n 1, (0, 0, 0), 0)) (by decide +kernel)) g1_z hc_z
      replace hc_z := rn_aload_n (am_cur_of (i := (18, 1, .aload_n 0, (0, 0, 0), 0)) (by decide +kernel)) g0_z hc_z
      replace hc_z := rn_getR (x := 48) (am_cur_of (i := (19, 3, .getfield 37, (0, 5, 666), 0)) (by decide +kernel)) (by decide +kernel) hc_z
      replace hc_z := rn_getI (v := lf) (am_cur_of (i := (22, 3, .getfield 232, (5, 3, 477), 0)) (by decide +kernel)) (by decide +kernel) E3 hc_z
      replace hc_z := rn_cmp (am_cur_of (i := (25, 3, .if_icmp .le 6, (16, 0, 0), 0)) (by decide +kernel)) hc_z
      rcases hc_z with ⟨b420_z, hc_z⟩ | ⟨b420_z, hc_z⟩
      · replace b420_z : m.toInt ≤ lf.toInt := b420_z
        replace hc_z := rn_iload_n (am_cur_of (i := (31, 1, .iload_n 1, (0, 0, 0), 0)) (by decide +kernel)) g1_z hc_z
        replace hc_z := rn_ldc (w := 99999) (am_cur_of (i := (32, 2, .ldc 198, (0, 0, 960), 99999)) (by decide +kernel)) (by decide) hc_z
        replace hc_z := rn_aload_n (am_cur_of (i := (34, 1, .aload_n 0, (0, 0, 0), 0)) (by decide +kernel)) g0_z hc_z
        replace hc_z := rn_getR (x := 48) (am_cur_of (i := (35, 3, .getfield 37, (0, 5, 666), 0)) (by decide +kernel)) (by decide +kernel) hc_z
        replace hc_z := rn_getI (v := s1_z) (am_cur_of (i := (38, 3, .getfield 199, (5, 1, 471), 0)) (by decide +kernel)) (by decide +kernel) E1 hc_z
        replace hc_z := rn_isub (w := (99999 : Int32) - s1_z) (am_cur_of (i := (41, 1, .isub, (0, 0, 0), 0)) (by decide +kernel)) rfl hc_z
        replace hc_z := rn_cmp (am_cur_of (i := (42, 3, .if_icmp .le 5, (25, 0, 0), 0)) (by decide +kernel)) hc_z
        rcases hc_z with ⟨b421_z, hc_z⟩ | ⟨b421_z, hc_z⟩
        · replace b421_z : m.toInt ≤ ((99999 : Int32) - s1_z).toInt := b421_z
          replace hc_z := rn_aload_n (am_cur_of (i := (47, 1, .aload_n 0, (0, 0, 0), 0)) (by decide +kernel)) g0_z hc_z
          replace hc_z := rn_getR (x := 148) (am_cur_of (i := (48, 3, .getfield 64, (0, 11, 672), 0)) (by decide +kernel)) (by decide +kernel) hc_z
          replace hc_z := rn_aload_n (am_cur_of (i := (51, 1, .aload_n 0, (0, 0, 0), 0)) (by decide +kernel)) g0_z hc_z
          replace hc_z := rn_getM (x := 2) (am_cur_of (i := (52, 3, .getfield 18, (0, 2, 663), 0)) (by decide +kernel)) D hc_z
          replace hc_z := rn_aload_n (am_cur_of (i := (55, 1, .aload_n 0, (0, 0, 0), 0)) (by decide +kernel)) g0_z hc_z
          replace hc_z := rn_getR (x := 48) (am_cur_of (i := (56, 3, .getfield 37, (0, 5, 666), 0)) (by decide +kernel)) (by decide +kernel) hc_z
          replace hc_z := rn_callV (M' := am_m63) (o := 148) (ar := [.ref 48, .ref 2]) (rest := []) (L := lv_args 0 [.ref 148, .ref 2, .ref 48]) (am_cur_of (i := (59, 3, .invokevirtual 146, (63, 912, 3), 0)) (by decide +kernel)) rfl rfl rfl rfl hc_z
          obtain ⟨r422_z, h423_z, q424_z, hc_z⟩ := hc_z
          have vo := rn_void rfl q424_z
          subst vo
          obtain ⟨T1, el1_z, -, -, -, c149_z, f1_z⟩ := se_63_2 q424_z
          have x1_z : rg_v h423_z 149 1 = s1_z := (c149_z 1 (by decide)).trans E1
          replace hc_z : rn _ _ _ _ [] _ _ _ := hc_z
          replace hc_z := rn_aload_n (am_cur_of (i := (62, 1, .aload_n 0, (0, 0, 0), 0)) (by decide +kernel)) g0_z hc_z
          replace hc_z := rn_getR (x := 148) (am_cur_of (i := (63, 3, .getfield 64, (0, 11, 672), 0)) (by decide +kernel)) (by decide +kernel) hc_z
          replace hc_z := rn_iconst (w := 1) (am_cur_of (i := (66, 1, .iconst 1, (0, 0, 0), 0)) (by decide +kernel)) (by decide) hc_z
          replace hc_z := rn_put (am_cur_of (i := (67, 3, .putfield 235, (8, 4, 578), 0)) (by decide +kernel)) (by decide +kernel) hc_z
          replace hc_z := rn_aload_n (am_cur_of (i := (70, 1, .aload_n 0, (0, 0, 0), 0)) (by decide +kernel)) g0_z hc_z
          replace hc_z := rn_getR (x := 148) (am_cur_of (i := (71, 3, .getfield 64, (0, 11, 672), 0)) (by decide +kernel)) (by decide +kernel) hc_z
          replace hc_z := rn_iload_n (am_cur_of (i := (74, 1, .iload_n 1, (0, 0, 0), 0)) (by decide +kernel)) g1_z hc_z
          replace hc_z := rn_iconst (w := 0) (am_cur_of (i := (75, 1, .iconst 0, (0, 0, 0), 0)) (by decide +kernel)) (by decide) hc_z
          replace hc_z := rn_callV (M' := am_m75) (o := 148) (ar := [.int 0, .int m]) (rest := []) (L := lv_args 0 [.ref 148, .int m, .int 0]) (am_cur_of (i := (76, 3, .invokevirtual 225, (75, 1007, 3), 0)) (by decide +kernel)) rfl rfl rfl rfl hc_z
          obtain ⟨r425_z, h426_z, q427_z, hc_z⟩ := hc_z
          have T1b : (am_up h423_z 148 4 (.int 1)) 148 0 = .ref 2 := (up_ne (by omega)).trans T1
          have el1b : rg_v (am_up h423_z 148 4 (.int 1)) 148 5 = 2147483647 := (rg_v_other (by omega)).trans el1_z
          have x1b : rg_v (am_up h423_z 148 4 (.int 1)) 149 1 = s1_z := (rg_v_other (by omega)).trans x1_z
          obtain ⟨z1_z, z2_z, z3_z⟩ := gs_75_2 T1b el1b x1b s10_z (by omega) (by omega) q427_z
          subst z1_z
          have u1_z : rg_v h426_z 149 1 = s1_z + m := Int32.toInt_inj.mp (by rw [z2_z, ab_iadd (by omega) (by omega)])
          have gf : ∀ o k, gB o k = false → ¬ (o = 148 ∧ k = 4) → h426_z o k = h423_z o k := fun o k e e2_z => (z3_z o k e).trans (up_ne e2_z)
          replace hc_z : rn _ _ _ _ [.int 1] _ _ _ := hc_z
          have u3_z : rg_v h426_z 149 3 = lf := by
            have e : rg_v h426_z 149 3 = rg_v h423_z 149 3 := by
              unfold rg_v
              rw [gf 149 3 rfl (by omega)]
            exact e.trans ((c149_z 3 (by decide)).trans E3)
          replace hc_z := rn_pop (am_cur_of (i := (79, 1, .pop, (0, 0, 0), 0)) (by decide +kernel)) hc_z
          replace hc_z := rn_aload_n (am_cur_of (i := (80, 1, .aload_n 0, (0, 0, 0), 0)) (by decide +kernel)) g0_z hc_z
          replace hc_z := rn_getR (x := 148) (am_cur_of (i := (81, 3, .getfield 64, (0, 11, 672), 0)) (by decide +kernel)) (by decide +kernel) hc_z
          replace hc_z := rn_getR (x := 149) (am_cur_of (i := (84, 3, .getfield 216, (8, 1, 572), 0)) (by decide +kernel)) (by decide +kernel) hc_z
          replace hc_z := rn_dup (am_cur_of (i := (87, 1, .dup, (0, 0, 0), 0)) (by decide +kernel)) hc_z
          replace hc_z := rn_getI (v := lf) (am_cur_of (i := (88, 3, .getfield 232, (5, 3, 477), 0)) (by decide +kernel)) (by decide +kernel) u3_z hc_z
          replace hc_z := rn_iload_n (am_cur_of (i := (91, 1, .iload_n 1, (0, 0, 0), 0)) (by decide +kernel)) g1_z hc_z
          replace hc_z := rn_isub (w := lf - m) (am_cur_of (i := (92, 1, .isub, (0, 0, 0), 0)) (by decide +kernel)) rfl hc_z
          replace hc_z := rn_put (am_cur_of (i := (93, 3, .putfield 232, (5, 3, 477), 0)) (by decide +kernel)) (by decide +kernel) hc_z
          replace hc_z := rn_aload_n (am_cur_of (i := (96, 1, .aload_n 0, (0, 0, 0), 0)) (by decide +kernel)) g0_z hc_z
          replace hc_z := rn_getR (x := 148) (am_cur_of (i := (97, 3, .getfield 64, (0, 11, 672), 0)) (by decide +kernel)) (by decide +kernel) hc_z
          replace hc_z := rn_getR (x := 149) (am_cur_of (i := (100, 3, .getfield 216, (8, 1, 572), 0)) (by decide +kernel)) (by decide +kernel) hc_z
          replace hc_z := rn_bipush (w := (-2)) (am_cur_of (i := (103, 2, .bipush (-2), (0, 0, 0), 0)) (by decide +kernel)) (by decide) hc_z
          replace hc_z := rn_put (am_cur_of (i := (105, 3, .putfield 238, (5, 2, 475), 0)) (by decide +kernel)) (by decide +kernel) hc_z
          replace hc_z := rn_aload_n (am_cur_of (i := (108, 1, .aload_n 0, (0, 0, 0), 0)) (by decide +kernel)) g0_z hc_z
          replace hc_z := rn_callV (M' := am_m81) (o := 0) (ar := []) (rest := []) (L := lv_args 0 [.ref 0]) (am_cur_of (i := (109, 3, .invokevirtual 208, (81, 992, 3), 0)) (by decide +kernel)) rfl rfl rfl rfl hc_z
          obtain ⟨r428_z, h429_z, q430_z, hc_z⟩ := hc_z
          have hf_z : ∀ o k, (48 ≤ o ∧ o ≤ 51) ∨ (60 ≤ o ∧ o ≤ 141) → (am_up (am_up h426_z 149 3 (.int (lf - m))) 149 2 (.int (-2))) o k = h o k := by
            intro o k ho
            exact (up_ne (by omega)).trans ((up_ne (by omega)).trans ((gf o k (se_gh ho) (by omega)).trans (f1_z o k (by omega))))
          have hv_z : ∀ o k, (48 ≤ o ∧ o ≤ 51) ∨ (60 ≤ o ∧ o ≤ 141) → rg_v (am_up (am_up h426_z 149 3 (.int (lf - m))) 149 2 (.int (-2))) o k = rg_v h o k := by
            intro o k ho
            unfold rg_v
            rw [hf_z o k ho]
          have zx := se_81 (by rw [hv_z 60 1 (by omega)]; exact n0_z) (by rw [hv_z 60 1 (by omega)]; exact n1_z) (by rw [hv_z 60 2 (by omega)]; exact s0_z) (by rw [hv_z 60 2 (by omega)]; exact sz20_z) q430_z
          rw [hv_z 60 1 (by omega), hv_z 60 2 (by omega)] at zx
          obtain ⟨⟨v8_z, rfl⟩, p1_z, p2_z, p3_z, p4_z, p5_z⟩ := zx
          have t1_z : rg_v (am_up (am_up h426_z 149 3 (.int (lf - m))) 149 2 (.int (-2))) 149 1 = s1_z + m := ((rg_v_other (by omega)).trans ((rg_v_other (by omega)).trans (u1_z)))
          have t2_z : rg_v (am_up (am_up h426_z 149 3 (.int (lf - m))) 149 2 (.int (-2))) 149 2 = -2 := rg_v_self
          have t3_z : rg_v (am_up (am_up h426_z 149 3 (.int (lf - m))) 149 2 (.int (-2))) 149 3 = lf - m := ((rg_v_other (by omega)).trans (rg_v_self))
          replace hc_z : rn _ _ _ _ [.int v8_z] _ _ _ := hc_z
          replace hc_z := rn_iret (am_cur_of (i := (112, 1, .ireturn, (0, 0, 0), 0)) (by decide +kernel)) hc_z
          obtain ⟨e431_z, e432_z⟩ := hc_z
          have sb := ab_isub (x := 99999) (y := s1_z) (by rw [show (99999 : Int32).toInt = 99999 by decide]; omega) (by rw [show (99999 : Int32).toInt = 99999 by decide]; omega)
          rw [show (99999 : Int32).toInt = 99999 by decide] at sb
          rw [e432_z]
          refine Or.inr (Or.inr (Or.inr ⟨⟨by omega, by omega⟩, by omega, by omega, ⟨_, e431_z⟩, ⟨fun j hj_z => (p1_z j hj_z).trans (cS_e (fun o k a c => hf_z o k (by omega)) j), p2_z, p3_z⟩, fun j j1_z j17_z => ?_, fun o k a c e => (p5_z o k (by omega) e (by omega)).trans (hf_z o k (by omega))⟩))
          refine (p4_z j j17_z).trans ?_
          unfold pW
          by_cases c1_z : j = 1
          · rw [if_pos c1_z, c1_z]
            exact t1_z.trans (congrArg (fun q => q + m) E1.symm)
          · rw [if_neg c1_z]
            by_cases c2_z : j = 2
            · rw [if_pos c2_z, c2_z]
              exact t2_z
            · rw [if_neg c2_z]
              by_cases c3_z : j = 3
              · rw [if_pos c3_z, c3_z]
                exact t3_z.trans (congrArg (fun q => q - m) E3.symm)
              · rw [if_neg c3_z]
                refine Eq.trans (pm_c (a := 149) (fun o k a c e => ?_) (by omega)) (c149_z j j17_z)
                exact (up_ne (by omega)).trans ((up_ne (by omega)).trans (gf o k (se_gc a c (by omega)) (by omega)))
        · replace b421_z : ((99999 : Int32) - s1_z).toInt < m.toInt := b421_z
          replace hc_z := rn_iconst (w := (-1)) (am_cur_of (i := (45, 1, .iconst (-1), (0, 0, 0), 0)) (by decide +kernel)) (by decide) hc_z
          replace hc_z := rn_iret (am_cur_of (i := (46, 1, .ireturn, (0, 0, 0), 0)) (by decide +kernel)) hc_z
          obtain ⟨e433_z, e434_z⟩ := hc_z
          have sb := ab_isub (x := 99999) (y := s1_z) (by rw [show (99999 : Int32).toInt = 99999 by decide]; omega) (by rw [show (99999 : Int32).toInt = 99999 by decide]; omega)
          rw [show (99999 : Int32).toInt = 99999 by decide] at sb
          refine pm_l ?_ e433_z (fun o k _ => by rw [e434_z])
          omega
      · replace b420_z : lf.toInt < m.toInt := b420_z
        replace hc_z := rn_bipush (w := (-2)) (am_cur_of (i := (28, 2, .bipush (-2), (0, 0, 0), 0)) (by decide +kernel)) (by decide) hc_z
        replace hc_z := rn_iret (am_cur_of (i := (30, 1, .ireturn, (0, 0, 0), 0)) (by decide +kernel)) hc_z
        obtain ⟨e435_z, e436_z⟩ := hc_z
        have sb := ab_isub (x := 99999) (y := s1_z) (by rw [show (99999 : Int32).toInt = 99999 by decide]; omega) (by rw [show (99999 : Int32).toInt = 99999 by decide]; omega)
        rw [show (99999 : Int32).toInt = 99999 by decide] at sb
        exact Or.inr (Or.inl ⟨⟨by omega, by omega⟩, by omega, e435_z, fun o k _ => by rw [e436_z]⟩)
    · replace b419_z : m.toInt < (1 : Int32).toInt := b419_z
      replace hc_z := rn_iconst (w := (-1)) (am_cur_of (i := (15, 1, .iconst (-1), (0, 0, 0), 0)) (by decide +kernel)) (by decide) hc_z
      replace hc_z := rn_iret (am_cur_of (i := (16, 1, .ireturn, (0, 0, 0), 0)) (by decide +kernel)) hc_z
      obtain ⟨e437_z, e438_z⟩ := hc_z
      have sb := ab_isub (x := 99999) (y := s1_z) (by rw [show (99999 : Int32).toInt = 99999 by decide]; omega) (by rw [show (99999 : Int32).toInt = 99999 by decide]; omega)
      rw [show (99999 : Int32).toInt = 99999 by decide] at sb
      refine pm_l ?_ e437_z (fun o k _ => by rw [e438_z])
      omega
theorem se_83_23 {n : Nat} {r : Option Value} {h h' : am_H} {m o s1_z : Int32} (D : h 0 2 = .ref 23) (E1 : rg_v h 48 1 = s1_z) (s10_z : 0 ≤ s1_z.toInt) (s19_z : s1_z.toInt ≤ 99999) (n0_z : 0 ≤ (rg_v h 60 1).toInt) (n1_z : (rg_v h 60 1).toInt < 20) (s0_z : 0 ≤ (rg_v h 60 2).toInt) (sz20_z : (rg_v h 60 2).toInt ≤ 20) (hc_z : rn n am_m83 0 (lv_args 0 [.ref 0, .int m, .int o]) [] h r h') : (¬ (1 ≤ m.toInt ∧ m.toInt ≤ 999 ∧ s1_z.toInt + m.toInt ≤ 99999) ∧ r = some (.int (-1)) ∧ (∀ o k, ¬ (148 ≤ o ∧ o ≤ 152) → h' o k = h o k)) ∨ ((1 ≤ m.toInt ∧ m.toInt ≤ 999 ∧ s1_z.toInt + m.toInt ≤ 99999) ∧ (∃ v : Int32, r = some (.int v)) ∧ hp_z h h h' ∧ (∀ j, 1 ≤ j → j < 17 → cS_z h' 48 j = wW (cS_z h 48) m j) ∧ (∀ o k, 62 ≤ o → o ≤ 141 → ¬ (62 + 4 * (rg_v h 60 1).toNatClampNeg ≤ o ∧ o ≤ 62 + 4 * (rg_v h 60 1).toNatClampNeg + 3) → h' o k = h o k)) := by
  have z0_z : (0 : Int32).toInt = 0 := by decide
  have z1_z : (1 : Int32).toInt = 1 := by decide
  have z999_z : (999 : Int32).toInt = 999 := by decide
  have g0_z : am_get (lv_args 0 [.ref 0, .int m, .int o]) 0 = some (.ref 0) := rfl
  have g1_z : am_get (lv_args 0 [.ref 0, .int m, .int o]) 1 = some (.int m) := rfl
  have g2_z : am_get (lv_args 0 [.ref 0, .int m, .int o]) 2 = some (.int o) := rfl
  replace hc_z := rn_iload_n (am_cur_of (i := (0, 1, .iload_n 1, (0, 0, 0), 0)) (by decide +kernel)) g1_z hc_z
  replace hc_z := rn_iconst (w := 1) (am_cur_of (i := (1, 1, .iconst 1, (0, 0, 0), 0)) (by decide +kernel)) (by decide) hc_z
  replace hc_z := rn_sipush (w := 999) (am_cur_of (i := (2, 3, .sipush 999, (0, 0, 0), 0)) (by decide +kernel)) (by decide) hc_z
  replace hc_z := rn_callS (M' := am_m62) (ar := [.int 999, .int 1, .int m]) (rest := []) (L := lv_args 0 [.int m, .int 1, .int 999]) (am_cur_of (i := (5, 3, .invokestatic 172, (62, 908, 3), 0)) (by decide +kernel)) rfl rfl rfl rfl hc_z
  obtain ⟨r439_z, h440_z, q441_z, hc_z⟩ := hc_z
  rcases se_62 q441_z with ⟨b442_z, rfl, y443_z⟩ | ⟨b444_z, b445_z, rfl, y446_z⟩ | ⟨b447_z, b448_z, rfl, y449_z⟩
  · replace y443_z := y443_z.symm
    subst y443_z
    replace b442_z : m.toInt < (1 : Int32).toInt := b442_z
    replace hc_z : rn _ _ _ _ [.int 0] _ _ _ := hc_z
    replace hc_z := rn_ifT (am_cur_of (i := (8, 3, .ifCond .eq 17, (12, 0, 0), 0)) (by decide +kernel)) (by decide) hc_z
    replace hc_z := rn_iconst (w := (-1)) (am_cur_of (i := (25, 1, .iconst (-1), (0, 0, 0), 0)) (by decide +kernel)) (by decide) hc_z
    replace hc_z := rn_iret (am_cur_of (i := (26, 1, .ireturn, (0, 0, 0), 0)) (by decide +kernel)) hc_z
    obtain ⟨e450_z, e451_z⟩ := hc_z
    have sb := ab_isub (x := 99999) (y := s1_z) (by rw [show (99999 : Int32).toInt = 99999 by decide]; omega) (by rw [show (99999 : Int32).toInt = 99999 by decide]; omega)
    rw [show (99999 : Int32).toInt = 99999 by decide] at sb
    exact Or.inl ⟨by omega, e450_z, fun o k _ => by rw [e451_z]⟩
  · replace y446_z := y446_z.symm
    subst y446_z
    replace b444_z : (1 : Int32).toInt ≤ m.toInt := b444_z
    replace b445_z : (999 : Int32).toInt < m.toInt := b445_z
    replace hc_z : rn _ _ _ _ [.int 0] _ _ _ := hc_z
    replace hc_z := rn_ifT (am_cur_of (i := (8, 3, .ifCond .eq 17, (12, 0, 0), 0)) (by decide +kernel)) (by decide) hc_z
    replace hc_z := rn_iconst (w := (-1)) (am_cur_of (i := (25, 1, .iconst (-1), (0, 0, 0), 0)) (by decide +kernel)) (by decide) hc_z
    replace hc_z := rn_iret (am_cur_of (i := (26, 1, .ireturn, (0, 0, 0), 0)) (by decide +kernel)) hc_z
    obtain ⟨e452_z, e453_z⟩ := hc_z
    have sb := ab_isub (x := 99999) (y := s1_z) (by rw [show (99999 : Int32).toInt = 99999 by decide]; omega) (by rw [show (99999 : Int32).toInt = 99999 by decide]; omega)
    rw [show (99999 : Int32).toInt = 99999 by decide] at sb
    exact Or.inl ⟨by omega, e452_z, fun o k _ => by rw [e453_z]⟩
  · replace y449_z := y449_z.symm
    subst y449_z
    replace b447_z : (1 : Int32).toInt ≤ m.toInt := b447_z
    replace b448_z : m.toInt ≤ (999 : Int32).toInt := b448_z
    replace hc_z : rn _ _ _ _ [.int 1] _ _ _ := hc_z
    replace hc_z := rn_ifF (am_cur_of (i := (8, 3, .ifCond .eq 17, (12, 0, 0), 0)) (by decide +kernel)) (by decide) hc_z
    replace hc_z := rn_iload_n (am_cur_of (i := (11, 1, .iload_n 1, (0, 0, 0), 0)) (by decide +kernel)) g1_z hc_z
    replace hc_z := rn_ldc (w := 99999) (am_cur_of (i := (12, 2, .ldc 198, (0, 0, 960), 99999)) (by decide +kernel)) (by decide) hc_z
    replace hc_z := rn_aload_n (am_cur_of (i := (14, 1, .aload_n 0, (0, 0, 0), 0)) (by decide +kernel)) g0_z hc_z
    replace hc_z := rn_getR (x := 48) (am_cur_of (i := (15, 3, .getfield 37, (0, 5, 666), 0)) (by decide +kernel)) (by decide +kernel) hc_z
    replace hc_z := rn_getI (v := s1_z) (am_cur_of (i := (18, 3, .getfield 199, (5, 1, 471), 0)) (by decide +kernel)) (by decide +kernel) E1 hc_z
    replace hc_z := rn_isub (w := (99999 : Int32) - s1_z) (am_cur_of (i := (21, 1, .isub, (0, 0, 0), 0)) (by decide +kernel)) rfl hc_z
    replace hc_z := rn_cmp (am_cur_of (i := (22, 3, .if_icmp .le 5, (14, 0, 0), 0)) (by decide +kernel)) hc_z
    rcases hc_z with ⟨b454_z, hc_z⟩ | ⟨b454_z, hc_z⟩
    · replace b454_z : m.toInt ≤ ((99999 : Int32) - s1_z).toInt := b454_z
      replace hc_z := rn_aload_n (am_cur_of (i := (27, 1, .aload_n 0, (0, 0, 0), 0)) (by decide +kernel)) g0_z hc_z
      replace hc_z := rn_getR (x := 148) (am_cur_of (i := (28, 3, .getfield 64, (0, 11, 672), 0)) (by decide +kernel)) (by decide +kernel) hc_z
      replace hc_z := rn_aload_n (am_cur_of (i := (31, 1, .aload_n 0, (0, 0, 0), 0)) (by decide +kernel)) g0_z hc_z
      replace hc_z := rn_getM (x := 23) (am_cur_of (i := (32, 3, .getfield 18, (0, 2, 663), 0)) (by decide +kernel)) D hc_z
      replace hc_z := rn_aload_n (am_cur_of (i := (35, 1, .aload_n 0, (0, 0, 0), 0)) (by decide +kernel)) g0_z hc_z
      replace hc_z := rn_getR (x := 48) (am_cur_of (i := (36, 3, .getfield 37, (0, 5, 666), 0)) (by decide +kernel)) (by decide +kernel) hc_z
      replace hc_z := rn_callV (M' := am_m63) (o := 148) (ar := [.ref 48, .ref 23]) (rest := []) (L := lv_args 0 [.ref 148, .ref 23, .ref 48]) (am_cur_of (i := (39, 3, .invokevirtual 146, (63, 912, 3), 0)) (by decide +kernel)) rfl rfl rfl rfl hc_z
      obtain ⟨r455_z, h456_z, q457_z, hc_z⟩ := hc_z
      have vo := rn_void rfl q457_z
      subst vo
      obtain ⟨T1, el1_z, -, -, -, c149_z, f1_z⟩ := se_63_23 q457_z
      have x1_z : rg_v h456_z 149 1 = s1_z := (c149_z 1 (by decide)).trans E1
      replace hc_z : rn _ _ _ _ [] _ _ _ := hc_z
      replace hc_z := rn_aload_n (am_cur_of (i := (42, 1, .aload_n 0, (0, 0, 0), 0)) (by decide +kernel)) g0_z hc_z
      replace hc_z := rn_getR (x := 148) (am_cur_of (i := (43, 3, .getfield 64, (0, 11, 672), 0)) (by decide +kernel)) (by decide +kernel) hc_z
      replace hc_z := rn_iload_n (am_cur_of (i := (46, 1, .iload_n 1, (0, 0, 0), 0)) (by decide +kernel)) g1_z hc_z
      replace hc_z := rn_iload_n (am_cur_of (i := (47, 1, .iload_n 2, (0, 0, 0), 0)) (by decide +kernel)) g2_z hc_z
      replace hc_z := rn_callV (M' := am_m75) (o := 148) (ar := [.int o, .int m]) (rest := []) (L := lv_args 0 [.ref 148, .int m, .int o]) (am_cur_of (i := (48, 3, .invokevirtual 225, (75, 1007, 3), 0)) (by decide +kernel)) rfl rfl rfl rfl hc_z
      obtain ⟨r458_z, h459_z, q460_z, hc_z⟩ := hc_z
      obtain ⟨z1_z, z2_z, z3_z⟩ := gs_75_23 T1 el1_z x1_z s10_z (by omega) (by omega) q460_z
      subst z1_z
      have u1_z : rg_v h459_z 149 1 = s1_z + m := Int32.toInt_inj.mp (by rw [z2_z, ab_iadd (by omega) (by omega)])
      have gf : ∀ o k, gB o k = false → ¬ (o = 148 ∧ k = 4) → h459_z o k = h456_z o k := fun o k e e2_z => (z3_z o k e)
      replace hc_z : rn _ _ _ _ [.int 1] _ _ _ := hc_z
      replace hc_z := rn_pop (am_cur_of (i := (51, 1, .pop, (0, 0, 0), 0)) (by decide +kernel)) hc_z
      replace hc_z := rn_aload_n (am_cur_of (i := (52, 1, .aload_n 0, (0, 0, 0), 0)) (by decide +kernel)) g0_z hc_z
      replace hc_z := rn_callV (M' := am_m81) (o := 0) (ar := []) (rest := []) (L := lv_args 0 [.ref 0]) (am_cur_of (i := (53, 3, .invokevirtual 208, (81, 992, 3), 0)) (by decide +kernel)) rfl rfl rfl rfl hc_z
      obtain ⟨r461_z, h462_z, q463_z, hc_z⟩ := hc_z
      have hf_z : ∀ o k, (48 ≤ o ∧ o ≤ 51) ∨ (60 ≤ o ∧ o ≤ 141) → h459_z o k = h o k := by
        intro o k ho
        exact (gf o k (se_gh ho) (by omega)).trans (f1_z o k (by omega))
      have hv_z : ∀ o k, (48 ≤ o ∧ o ≤ 51) ∨ (60 ≤ o ∧ o ≤ 141) → rg_v h459_z o k = rg_v h o k := by
        intro o k ho
        unfold rg_v
        rw [hf_z o k ho]
      have zx := se_81 (by rw [hv_z 60 1 (by omega)]; exact n0_z) (by rw [hv_z 60 1 (by omega)]; exact n1_z) (by rw [hv_z 60 2 (by omega)]; exact s0_z) (by rw [hv_z 60 2 (by omega)]; exact sz20_z) q463_z
      rw [hv_z 60 1 (by omega), hv_z 60 2 (by omega)] at zx
      obtain ⟨⟨v8_z, rfl⟩, p1_z, p2_z, p3_z, p4_z, p5_z⟩ := zx
      replace hc_z : rn _ _ _ _ [.int v8_z] _ _ _ := hc_z
      replace hc_z := rn_iret (am_cur_of (i := (56, 1, .ireturn, (0, 0, 0), 0)) (by decide +kernel)) hc_z
      obtain ⟨e464_z, e465_z⟩ := hc_z
      have sb := ab_isub (x := 99999) (y := s1_z) (by rw [show (99999 : Int32).toInt = 99999 by decide]; omega) (by rw [show (99999 : Int32).toInt = 99999 by decide]; omega)
      rw [show (99999 : Int32).toInt = 99999 by decide] at sb
      rw [e465_z]
      refine Or.inr ⟨⟨by omega, by omega, by omega⟩, ⟨_, e464_z⟩, ⟨fun j hj_z => (p1_z j hj_z).trans (cS_e (fun o k a c => hf_z o k (by omega)) j), p2_z, p3_z⟩, fun j j1_z j17_z => ?_, fun o k a c e => (p5_z o k (by omega) e (by omega)).trans (hf_z o k (by omega))⟩
      refine (p4_z j j17_z).trans ?_
      unfold wW
      by_cases c1_z : j = 1
      · rw [if_pos c1_z, c1_z]
        exact u1_z.trans (congrArg (fun q => q + m) E1.symm)
      · rw [if_neg c1_z]
        exact (cS_y (fun o k a c e => gf o k (se_gc a c e) (by omega)) (by omega)).trans (c149_z j j17_z)
    · replace b454_z : ((99999 : Int32) - s1_z).toInt < m.toInt := b454_z
      replace hc_z := rn_iconst (w := (-1)) (am_cur_of (i := (25, 1, .iconst (-1), (0, 0, 0), 0)) (by decide +kernel)) (by decide) hc_z
      replace hc_z := rn_iret (am_cur_of (i := (26, 1, .ireturn, (0, 0, 0), 0)) (by decide +kernel)) hc_z
      obtain ⟨e466_z, e467_z⟩ := hc_z
      have sb := ab_isub (x := 99999) (y := s1_z) (by rw [show (99999 : Int32).toInt = 99999 by decide]; omega) (by rw [show (99999 : Int32).toInt = 99999 by decide]; omega)
      rw [show (99999 : Int32).toInt = 99999 by decide] at sb
      exact Or.inl ⟨by omega, e466_z, fun o k _ => by rw [e467_z]⟩
theorem se_84_23 {n : Nat} {r : Option Value} {h h' : am_H} {m s1_z lf : Int32} (D : h 0 2 = .ref 23) (E1 : rg_v h 48 1 = s1_z) (s10_z : 0 ≤ s1_z.toInt) (s19_z : s1_z.toInt ≤ 99999) (n0_z : 0 ≤ (rg_v h 60 1).toInt) (n1_z : (rg_v h 60 1).toInt < 20) (s0_z : 0 ≤ (rg_v h 60 2).toInt) (sz20_z : (rg_v h 60 2).toInt ≤ 20) (E3 : rg_v h 48 3 = lf) (l0_z : 0 ≤ lf.toInt) (l9_z : lf.toInt ≤ 99) (hc_z : rn n am_m84 0 (lv_args 0 [.ref 0, .int m]) [] h r h') : (¬ (¬ (rg_v h 23 8).toInt = 0 ∧ 1 ≤ m.toInt) ∧ r = some (.int (-1)) ∧ (∀ o k, ¬ (148 ≤ o ∧ o ≤ 152) → h' o k = h o k)) ∨ ((¬ (rg_v h 23 8).toInt = 0 ∧ 1 ≤ m.toInt) ∧ ¬ (m.toInt ≤ lf.toInt) ∧ r = some (.int (-2)) ∧ (∀ o k, ¬ (148 ≤ o ∧ o ≤ 152) → h' o k = h o k)) ∨ (((¬ (rg_v h 23 8).toInt = 0 ∧ 1 ≤ m.toInt) ∧ (m.toInt ≤ lf.toInt)) ∧ ¬ (s1_z.toInt + m.toInt ≤ 99999) ∧ r = some (.int (-1)) ∧ (∀ o k, ¬ (148 ≤ o ∧ o ≤ 152) → h' o k = h o k)) ∨ ((¬ (rg_v h 23 8).toInt = 0 ∧ 1 ≤ m.toInt) ∧ (m.toInt ≤ lf.toInt) ∧ (s1_z.toInt + m.toInt ≤ 99999) ∧ (∃ v : Int32, r = some (.int v)) ∧ hp_z h h h' ∧ (∀ j, 1 ≤ j → j < 17 → cS_z h' 48 j = pW (cS_z h 48) m j) ∧ (∀ o k, 62 ≤ o → o ≤ 141 → ¬ (62 + 4 * (rg_v h 60 1).toNatClampNeg ≤ o ∧ o ≤ 62 + 4 * (rg_v h 60 1).toNatClampNeg + 3) → h' o k = h o k)) := by
  have z0_z : (0 : Int32).toInt = 0 := by decide
  have z1_z : (1 : Int32).toInt = 1 := by decide
  have g0_z : am_get (lv_args 0 [.ref 0, .int m]) 0 = some (.ref 0) := rfl
  have g1_z : am_get (lv_args 0 [.ref 0, .int m]) 1 = some (.int m) := rfl
  replace hc_z := rn_aload_n (am_cur_of (i := (0, 1, .aload_n 0, (0, 0, 0), 0)) (by decide +kernel)) g0_z hc_z
  replace hc_z := rn_getM (x := 23) (am_cur_of (i := (1, 3, .getfield 18, (0, 2, 663), 0)) (by decide +kernel)) D hc_z
  replace hc_z := rn_getI (v := rg_v h 23 8) (am_cur_of (i := (4, 3, .getfield 229, (1, 8, 281), 0)) (by decide +kernel)) (by decide +kernel) rfl hc_z
  replace hc_z := rn_if (am_cur_of (i := (7, 3, .ifCond .eq 8, (7, 0, 0), 0)) (by decide +kernel)) hc_z
  rcases hc_z with ⟨b468_z, hc_z⟩ | ⟨b468_z, hc_z⟩
  · replace b468_z : (rg_v h 23 8) = (0 : Int32) ∧ (rg_v h 23 8).toInt = (0 : Int32).toInt := b468_z
    replace hc_z := rn_iconst (w := (-1)) (am_cur_of (i := (15, 1, .iconst (-1), (0, 0, 0), 0)) (by decide +kernel)) (by decide) hc_z
    replace hc_z := rn_iret (am_cur_of (i := (16, 1, .ireturn, (0, 0, 0), 0)) (by decide +kernel)) hc_z
    obtain ⟨e469_z, e470_z⟩ := hc_z
    have sb := ab_isub (x := 99999) (y := s1_z) (by rw [show (99999 : Int32).toInt = 99999 by decide]; omega) (by rw [show (99999 : Int32).toInt = 99999 by decide]; omega)
    rw [show (99999 : Int32).toInt = 99999 by decide] at sb
    refine pm_l ?_ e469_z (fun o k _ => by rw [e470_z])
    omega
  · replace b468_z : ¬ (rg_v h 23 8) = (0 : Int32) ∧ ¬ (rg_v h 23 8).toInt = (0 : Int32).toInt := b468_z
    replace hc_z := rn_iload_n (am_cur_of (i := (10, 1, .iload_n 1, (0, 0, 0), 0)) (by decide +kernel)) g1_z hc_z
    replace hc_z := rn_iconst (w := 1) (am_cur_of (i := (11, 1, .iconst 1, (0, 0, 0), 0)) (by decide +kernel)) (by decide) hc_z
    replace hc_z := rn_cmp (am_cur_of (i := (12, 3, .if_icmp .ge 5, (9, 0, 0), 0)) (by decide +kernel)) hc_z
    rcases hc_z with ⟨b471_z, hc_z⟩ | ⟨b471_z, hc_z⟩
    · replace b471_z : (1 : Int32).toInt ≤ m.toInt := b471_z
      replace hc_z := rn_iload_n (am_cur_of (i := (17, 1, .iload_n 1, (0, 0, 0), 0)) (by decide +kernel)) g1_z hc_z
      replace hc_z := rn_aload_n (am_cur_of (i := (18, 1, .aload_n 0, (0, 0, 0), 0)) (by decide +kernel)) g0_z hc_z
      replace hc_z := rn_getR (x := 48) (am_cur_of (i := (19, 3, .getfield 37, (0, 5, 666), 0)) (by decide +kernel)) (by decide +kernel) hc_z
      replace hc_z := rn_getI (v := lf) (am_cur_of (i := (22, 3, .getfield 232, (5, 3, 477), 0)) (by decide +kernel)) (by decide +kernel) E3 hc_z
      replace hc_z := rn_cmp (am_cur_of (i := (25, 3, .if_icmp .le 6, (16, 0, 0), 0)) (by decide +kernel)) hc_z
      rcases hc_z with ⟨b472_z, hc_z⟩ | ⟨b472_z, hc_z⟩
      · replace b472_z : m.toInt ≤ lf.toInt := b472_z
        replace hc_z := rn_iload_n (am_cur_of (i := (31, 1, .iload_n 1, (0, 0, 0), 0)) (by decide +kernel)) g1_z hc_z
        replace hc_z := rn_ldc (w := 99999) (am_cur_of (i := (32, 2, .ldc 198, (0, 0, 960), 99999)) (by decide +kernel)) (by decide) hc_z
        replace hc_z := rn_aload_n (am_cur_of (i := (34, 1, .aload_n 0, (0, 0, 0), 0)) (by decide +kernel)) g0_z hc_z
        replace hc_z := rn_getR (x := 48) (am_cur_of (i := (35, 3, .getfield 37, (0, 5, 666), 0)) (by decide +kernel)) (by decide +kernel) hc_z
        replace hc_z := rn_getI (v := s1_z) (am_cur_of (i := (38, 3, .getfield 199, (5, 1, 471), 0)) (by decide +kernel)) (by decide +kernel) E1 hc_z
        replace hc_z := rn_isub (w := (99999 : Int32) - s1_z) (am_cur_of (i := (41, 1, .isub, (0, 0, 0), 0)) (by decide +kernel)) rfl hc_z
        replace hc_z := rn_cmp (am_cur_of (i := (42, 3, .if_icmp .le 5, (25, 0, 0), 0)) (by decide +kernel)) hc_z
        rcases hc_z with ⟨b473_z, hc_z⟩ | ⟨b473_z, hc_z⟩
        · replace b473_z : m.toInt ≤ ((99999 : Int32) - s1_z).toInt := b473_z
          replace hc_z := rn_aload_n (am_cur_of (i := (47, 1, .aload_n 0, (0, 0, 0), 0)) (by decide +kernel)) g0_z hc_z
          replace hc_z := rn_getR (x := 148) (am_cur_of (i := (48, 3, .getfield 64, (0, 11, 672), 0)) (by decide +kernel)) (by decide +kernel) hc_z
          replace hc_z := rn_aload_n (am_cur_of (i := (51, 1, .aload_n 0, (0, 0, 0), 0)) (by decide +kernel)) g0_z hc_z
          replace hc_z := rn_getM (x := 23) (am_cur_of (i := (52, 3, .getfield 18, (0, 2, 663), 0)) (by decide +kernel)) D hc_z
          replace hc_z := rn_aload_n (am_cur_of (i := (55, 1, .aload_n 0, (0, 0, 0), 0)) (by decide +kernel)) g0_z hc_z
          replace hc_z := rn_getR (x := 48) (am_cur_of (i := (56, 3, .getfield 37, (0, 5, 666), 0)) (by decide +kernel)) (by decide +kernel) hc_z
          replace hc_z := rn_callV (M' := am_m63) (o := 148) (ar := [.ref 48, .ref 23]) (rest := []) (L := lv_args 0 [.ref 148, .ref 23, .ref 48]) (am_cur_of (i := (59, 3, .invokevirtual 146, (63, 912, 3), 0)) (by decide +kernel)) rfl rfl rfl rfl hc_z
          obtain ⟨r474_z, h475_z, q476_z, hc_z⟩ := hc_z
          have vo := rn_void rfl q476_z
          subst vo
          obtain ⟨T1, el1_z, -, -, -, c149_z, f1_z⟩ := se_63_23 q476_z
          have x1_z : rg_v h475_z 149 1 = s1_z := (c149_z 1 (by decide)).trans E1
          replace hc_z : rn _ _ _ _ [] _ _ _ := hc_z
          replace hc_z := rn_aload_n (am_cur_of (i := (62, 1, .aload_n 0, (0, 0, 0), 0)) (by decide +kernel)) g0_z hc_z
          replace hc_z := rn_getR (x := 148) (am_cur_of (i := (63, 3, .getfield 64, (0, 11, 672), 0)) (by decide +kernel)) (by decide +kernel) hc_z
          replace hc_z := rn_iconst (w := 1) (am_cur_of (i := (66, 1, .iconst 1, (0, 0, 0), 0)) (by decide +kernel)) (by decide) hc_z
          replace hc_z := rn_put (am_cur_of (i := (67, 3, .putfield 235, (8, 4, 578), 0)) (by decide +kernel)) (by decide +kernel) hc_z
          replace hc_z := rn_aload_n (am_cur_of (i := (70, 1, .aload_n 0, (0, 0, 0), 0)) (by decide +kernel)) g0_z hc_z
          replace hc_z := rn_getR (x := 148) (am_cur_of (i := (71, 3, .getfield 64, (0, 11, 672), 0)) (by decide +kernel)) (by decide +kernel) hc_z
          replace hc_z := rn_iload_n (am_cur_of (i := (74, 1, .iload_n 1, (0, 0, 0), 0)) (by decide +kernel)) g1_z hc_z
          replace hc_z := rn_iconst (w := 0) (am_cur_of (i := (75, 1, .iconst 0, (0, 0, 0), 0)) (by decide +kernel)) (by decide) hc_z
          replace hc_z := rn_callV (M' := am_m75) (o := 148) (ar := [.int 0, .int m]) (rest := []) (L := lv_args 0 [.ref 148, .int m, .int 0]) (am_cur_of (i := (76, 3, .invokevirtual 225, (75, 1007, 3), 0)) (by decide +kernel)) rfl rfl rfl rfl hc_z
          obtain ⟨r477_z, h478_z, q479_z, hc_z⟩ := hc_z
          have T1b : (am_up h475_z 148 4 (.int 1)) 148 0 = .ref 23 := (up_ne (by omega)).trans T1
          have el1b : rg_v (am_up h475_z 148 4 (.int 1)) 148 5 = 2147483647 := (rg_v_other (by omega)).trans el1_z
          have x1b : rg_v (am_up h475_z 148 4 (.int 1)) 149 1 = s1_z := (rg_v_other (by omega)).trans x1_z
          obtain ⟨z1_z, z2_z, z3_z⟩ := gs_75_23 T1b el1b x1b s10_z (by omega) (by omega) q479_z
          subst z1_z
          have u1_z : rg_v h478_z 149 1 = s1_z + m := Int32.toInt_inj.mp (by rw [z2_z, ab_iadd (by omega) (by omega)])
          have gf : ∀ o k, gB o k = false → ¬ (o = 148 ∧ k = 4) → h478_z o k = h475_z o k := fun o k e e2_z => (z3_z o k e).trans (up_ne e2_z)
          replace hc_z : rn _ _ _ _ [.int 1] _ _ _ := hc_z
          have u3_z : rg_v h478_z 149 3 = lf := by
            have e : rg_v h478_z 149 3 = rg_v h475_z 149 3 := by
              unfold rg_v
              rw [gf 149 3 rfl (by omega)]
            exact e.trans ((c149_z 3 (by decide)).trans E3)
          replace hc_z := rn_pop (am_cur_of (i := (79, 1, .pop, (0, 0, 0), 0)) (by decide +kernel)) hc_z
          replace hc_z := rn_aload_n (am_cur_of (i := (80, 1, .aload_n 0, (0, 0, 0), 0)) (by decide +kernel)) g0_z hc_z
          replace hc_z := rn_getR (x := 148) (am_cur_of (i := (81, 3, .getfield 64, (0, 11, 672), 0)) (by decide +kernel)) (by decide +kernel) hc_z
          replace hc_z := rn_getR (x := 149) (am_cur_of (i := (84, 3, .getfield 216, (8, 1, 572), 0)) (by decide +kernel)) (by decide +kernel) hc_z
          replace hc_z := rn_dup (am_cur_of (i := (87, 1, .dup, (0, 0, 0), 0)) (by decide +kernel)) hc_z
          replace hc_z := rn_getI (v := lf) (am_cur_of (i := (88, 3, .getfield 232, (5, 3, 477), 0)) (by decide +kernel)) (by decide +kernel) u3_z hc_z
          replace hc_z := rn_iload_n (am_cur_of (i := (91, 1, .iload_n 1, (0, 0, 0), 0)) (by decide +kernel)) g1_z hc_z
          replace hc_z := rn_isub (w := lf - m) (am_cur_of (i := (92, 1, .isub, (0, 0, 0), 0)) (by decide +kernel)) rfl hc_z
          replace hc_z := rn_put (am_cur_of (i := (93, 3, .putfield 232, (5, 3, 477), 0)) (by decide +kernel)) (by decide +kernel) hc_z
          replace hc_z := rn_aload_n (am_cur_of (i := (96, 1, .aload_n 0, (0, 0, 0), 0)) (by decide +kernel)) g0_z hc_z
          replace hc_z := rn_getR (x := 148) (am_cur_of (i := (97, 3, .getfield 64, (0, 11, 672), 0)) (by decide +kernel)) (by decide +kernel) hc_z
          replace hc_z := rn_getR (x := 149) (am_cur_of (i := (100, 3, .getfield 216, (8, 1, 572), 0)) (by decide +kernel)) (by decide +kernel) hc_z
          replace hc_z := rn_bipush (w := (-2)) (am_cur_of (i := (103, 2, .bipush (-2), (0, 0, 0), 0)) (by decide +kernel)) (by decide) hc_z
          replace hc_z := rn_put (am_cur_of (i := (105, 3, .putfield 238, (5, 2, 475), 0)) (by decide +kernel)) (by decide +kernel) hc_z
          replace hc_z := rn_aload_n (am_cur_of (i := (108, 1, .aload_n 0, (0, 0, 0), 0)) (by decide +kernel)) g0_z hc_z
          replace hc_z := rn_callV (M' := am_m81) (o := 0) (ar := []) (rest := []) (L := lv_args 0 [.ref 0]) (am_cur_of (i := (109, 3, .invokevirtual 208, (81, 992, 3), 0)) (by decide +kernel)) rfl rfl rfl rfl hc_z
          obtain ⟨r480_z, h481_z, q482_z, hc_z⟩ := hc_z
          have hf_z : ∀ o k, (48 ≤ o ∧ o ≤ 51) ∨ (60 ≤ o ∧ o ≤ 141) → (am_up (am_up h478_z 149 3 (.int (lf - m))) 149 2 (.int (-2))) o k = h o k := by
            intro o k ho
            exact (up_ne (by omega)).trans ((up_ne (by omega)).trans ((gf o k (se_gh ho) (by omega)).trans (f1_z o k (by omega))))
          have hv_z : ∀ o k, (48 ≤ o ∧ o ≤ 51) ∨ (60 ≤ o ∧ o ≤ 141) → rg_v (am_up (am_up h478_z 149 3 (.int (lf - m))) 149 2 (.int (-2))) o k = rg_v h o k := by
            intro o k ho
            unfold rg_v
            rw [hf_z o k ho]
          have zx := se_81 (by rw [hv_z 60 1 (by omega)]; exact n0_z) (by rw [hv_z 60 1 (by omega)]; exact n1_z) (by rw [hv_z 60 2 (by omega)]; exact s0_z) (by rw [hv_z 60 2 (by omega)]; exact sz20_z) q482_z
          rw [hv_z 60 1 (by omega), hv_z 60 2 (by omega)] at zx
          obtain ⟨⟨v8_z, rfl⟩, p1_z, p2_z, p3_z, p4_z, p5_z⟩ := zx
          have t1_z : rg_v (am_up (am_up h478_z 149 3 (.int (lf - m))) 149 2 (.int (-2))) 149 1 = s1_z + m := ((rg_v_other (by omega)).trans ((rg_v_other (by omega)).trans (u1_z)))
          have t2_z : rg_v (am_up (am_up h478_z 149 3 (.int (lf - m))) 149 2 (.int (-2))) 149 2 = -2 := rg_v_self
          have t3_z : rg_v (am_up (am_up h478_z 149 3 (.int (lf - m))) 149 2 (.int (-2))) 149 3 = lf - m := ((rg_v_other (by omega)).trans (rg_v_self))
          replace hc_z : rn _ _ _ _ [.int v8_z] _ _ _ := hc_z
          replace hc_z := rn_iret (am_cur_of (i := (112, 1, .ireturn, (0, 0, 0), 0)) (by decide +kernel)) hc_z
          obtain ⟨e483_z, e484_z⟩ := hc_z
          have sb := ab_isub (x := 99999) (y := s1_z) (by rw [show (99999 : Int32).toInt = 99999 by decide]; omega) (by rw [show (99999 : Int32).toInt = 99999 by decide]; omega)
          rw [show (99999 : Int32).toInt = 99999 by decide] at sb
          rw [e484_z]
          refine Or.inr (Or.inr (Or.inr ⟨⟨by omega, by omega⟩, by omega, by omega, ⟨_, e483_z⟩, ⟨fun j hj_z => (p1_z j hj_z).trans (cS_e (fun o k a c => hf_z o k (by omega)) j), p2_z, p3_z⟩, fun j j1_z j17_z => ?_, fun o k a c e => (p5_z o k (by omega) e (by omega)).trans (hf_z o k (by omega))⟩))
          refine (p4_z j j17_z).trans ?_
          unfold pW
          by_cases c1_z : j = 1
          · rw [if_pos c1_z, c1_z]
            exact t1_z.trans (congrArg (fun q => q + m) E1.symm)
          · rw [if_neg c1_z]
            by_cases c2_z : j = 2
            · rw [if_pos c2_z, c2_z]
              exact t2_z
            · rw [if_neg c2_z]
              by_cases c3_z : j = 3
              · rw [if_pos c3_z, c3_z]
                exact t3_z.trans (congrArg (fun q => q - m) E3.symm)
              · rw [if_neg c3_z]
                refine Eq.trans (pm_c (a := 149) (fun o k a c e => ?_) (by omega)) (c149_z j j17_z)
                exact (up_ne (by omega)).trans ((up_ne (by omega)).trans (gf o k (se_gc a c (by omega)) (by omega)))
        · replace b473_z : ((99999 : Int32) - s1_z).toInt < m.toInt := b473_z
          replace hc_z := rn_iconst (w := (-1)) (am_cur_of (i := (45, 1, .iconst (-1), (0, 0, 0), 0)) (by decide +kernel)) (by decide) hc_z
          replace hc_z := rn_iret (am_cur_of (i := (46, 1, .ireturn, (0, 0, 0), 0)) (by decide +kernel)) hc_z
          obtain ⟨e485_z, e486_z⟩ := hc_z
          have sb := ab_isub (x := 99999) (y := s1_z) (by rw [show (99999 : Int32).toInt = 99999 by decide]; omega) (by rw [show (99999 : Int32).toInt = 99999 by decide]; omega)
          rw [show (99999 : Int32).toInt = 99999 by decide] at sb
          refine pm_l ?_ e485_z (fun o k _ => by rw [e486_z])
          omega
      · replace b472_z : lf.toInt < m.toInt := b472_z
        replace hc_z := rn_bipush (w := (-2)) (am_cur_of (i := (28, 2, .bipush (-2), (0, 0, 0), 0)) (by decide +kernel)) (by decide) hc_z
        replace hc_z := rn_iret (am_cur_of (i := (30, 1, .ireturn, (0, 0, 0), 0)) (by decide +kernel)) hc_z
        obtain ⟨e487_z, e488_z⟩ := hc_z
        have sb := ab_isub (x := 99999) (y := s1_z) (by rw [show (99999 : Int32).toInt = 99999 by decide]; omega) (by rw [show (99999 : Int32).toInt = 99999 by decide]; omega)
        rw [show (99999 : Int32).toInt = 99999 by decide] at sb
        exact Or.inr (Or.inl ⟨⟨by omega, by omega⟩, by omega, e487_z, fun o k _ => by rw [e488_z]⟩)
    · replace b471_z : m.toInt < (1 : Int32).toInt := b471_z
      replace hc_z := rn_iconst (w := (-1)) (am_cur_of (i := (15, 1, .iconst (-1), (0, 0, 0), 0)) (by decide +kernel)) (by decide) hc_z
      replace hc_z := rn_iret (am_cur_of (i := (16, 1, .ireturn, (0, 0, 0), 0)) (by decide +kernel)) hc_z
      obtain ⟨e489_z, e490_z⟩ := hc_z
      have sb := ab_isub (x := 99999) (y := s1_z) (by rw [show (99999 : Int32).toInt = 99999 by decide]; omega) (by rw [show (99999 : Int32).toInt = 99999 by decide]; omega)
      rw [show (99999 : Int32).toInt = 99999 by decide] at sb
      refine pm_l ?_ e489_z (fun o k _ => by rw [e490_z])
      omega
def tW (f : Nat → Int32) (k : Int32) (j : Nat) : Int32 := if j = 4 then f 4 ||| ((1 : Int32) <<< (k &&& 31)) else f j
theorem cS_4 {h h' : am_H} {a : Nat} (e : ∀ o k, a ≤ o → o ≤ a + 3 → ¬ (o = a ∧ k = 4) → h' o k = h o k) {j : Nat} (j2_z : ¬ j = 4) : cS_z h' a j = cS_z h a j := by
  have ev_z : ∀ o k, a ≤ o → o ≤ a + 3 → ¬ (o = a ∧ k = 4) → rg_v h' o k = rg_v h o k := by
    intro o k h1_z h2_z h3_z
    unfold rg_v
    rw [e o k h1_z h2_z h3_z]
  unfold cS_z
  by_cases c1_z : j < 5
  · rw [if_pos c1_z, if_pos c1_z, ev_z a j (by omega) (by omega) (by omega)]
  · rw [if_neg c1_z, if_neg c1_z, ev_z (a + 1) (j - 5) (by omega) (by omega) (by omega), ev_z (a + 2) (j - 9) (by omega) (by omega) (by omega), ev_z (a + 3) (j - 13) (by omega) (by omega) (by omega)]
theorem se_76 {n : Nat} {h h' : am_H} {r : Option Value} {k : Int32}  (hc_z : rn n am_m76 0 (lv_args 0 [.ref 48, .int k]) [] h r h') : (((((rg_v h 48 4) >>> (k &&& 31)) &&& 1) = (0 : Int32) ∧ (((rg_v h 48 4) >>> (k &&& 31)) &&& 1).toInt = (0 : Int32).toInt) ∧ r = some (.int 0) ∧ h' = h) ∨ ((¬ (((rg_v h 48 4) >>> (k &&& 31)) &&& 1) = (0 : Int32) ∧ ¬ (((rg_v h 48 4) >>> (k &&& 31)) &&& 1).toInt = (0 : Int32).toInt) ∧ r = some (.int 1) ∧ h' = h) := by
  have g0_z : am_get (lv_args 0 [.ref 48, .int k]) 0 = some (.ref 48) := rfl
  have g1_z : am_get (lv_args 0 [.ref 48, .int k]) 1 = some (.int k) := rfl
  replace hc_z := rn_aload_n (am_cur_of (i := (0, 1, .aload_n 0, (0, 0, 0), 0)) (by decide +kernel)) g0_z hc_z
  replace hc_z := rn_getI (v := rg_v h 48 4) (am_cur_of (i := (1, 3, .getfield 42, (5, 4, 478), 0)) (by decide +kernel)) (by decide +kernel) rfl hc_z
  replace hc_z := rn_iload_n (am_cur_of (i := (4, 1, .iload_n 1, (0, 0, 0), 0)) (by decide +kernel)) g1_z hc_z
  replace hc_z := rn_ishr (w := (rg_v h 48 4) >>> (k &&& 31)) (am_cur_of (i := (5, 1, .ishr, (0, 0, 0), 0)) (by decide +kernel)) rfl hc_z
  replace hc_z := rn_iconst (w := 1) (am_cur_of (i := (6, 1, .iconst 1, (0, 0, 0), 0)) (by decide +kernel)) (by decide) hc_z
  replace hc_z := rn_iand (w := ((rg_v h 48 4) >>> (k &&& 31)) &&& 1) (am_cur_of (i := (7, 1, .iand, (0, 0, 0), 0)) (by decide +kernel)) rfl hc_z
  replace hc_z := rn_if (am_cur_of (i := (8, 3, .ifCond .eq 7, (9, 0, 0), 0)) (by decide +kernel)) hc_z
  rcases hc_z with ⟨b491_z, hc_z⟩ | ⟨b491_z, hc_z⟩
  · replace b491_z : (((rg_v h 48 4) >>> (k &&& 31)) &&& 1) = (0 : Int32) ∧ (((rg_v h 48 4) >>> (k &&& 31)) &&& 1).toInt = (0 : Int32).toInt := b491_z
    replace hc_z := rn_iconst (w := 0) (am_cur_of (i := (15, 1, .iconst 0, (0, 0, 0), 0)) (by decide +kernel)) (by decide) hc_z
    replace hc_z := rn_iret (am_cur_of (i := (16, 1, .ireturn, (0, 0, 0), 0)) (by decide +kernel)) hc_z
    obtain ⟨e492_z, e493_z⟩ := hc_z
    exact Or.inl ⟨b491_z, e492_z, e493_z⟩
  · replace b491_z : ¬ (((rg_v h 48 4) >>> (k &&& 31)) &&& 1) = (0 : Int32) ∧ ¬ (((rg_v h 48 4) >>> (k &&& 31)) &&& 1).toInt = (0 : Int32).toInt := b491_z
    replace hc_z := rn_iconst (w := 1) (am_cur_of (i := (11, 1, .iconst 1, (0, 0, 0), 0)) (by decide +kernel)) (by decide) hc_z
    replace hc_z := rn_goto (am_cur_of (i := (12, 3, .goto 4, (10, 0, 0), 0)) (by decide +kernel)) hc_z
    replace hc_z := rn_iret (am_cur_of (i := (16, 1, .ireturn, (0, 0, 0), 0)) (by decide +kernel)) hc_z
    obtain ⟨e494_z, e495_z⟩ := hc_z
    exact Or.inr (⟨b491_z, e494_z, e495_z⟩)
theorem se_ln {x : Int32} {N : Nat} (h0_z : 0 ≤ x.toInt) (h1_z : x.toInt < N) : x.toNatClampNeg < N := by
  have := rt_cl h0_z
  omega
theorem se_85_2 {n : Nat} {r : Option Value} {h h' : am_H} {m : Int32} (D : h 0 2 = .ref 2) (n0_z : 0 ≤ (rg_v h 60 1).toInt) (n1_z : (rg_v h 60 1).toInt < 20) (s0_z : 0 ≤ (rg_v h 60 2).toInt) (sz20_z : (rg_v h 60 2).toInt ≤ 20) (hc_z : rn n am_m85 0 (lv_args 0 [.ref 0, .int m]) [] h r h') : (¬ (0 ≤ m.toInt ∧ m.toInt < (rg_v h 2 9).toInt ∧ (((rg_v h 48 4) >>> (m &&& 31)) &&& 1).toInt = 0) ∧ r = some (.int (-1)) ∧ ∀ o k, h' o k = h o k) ∨ ((0 ≤ m.toInt ∧ m.toInt < (rg_v h 2 9).toInt ∧ (((rg_v h 48 4) >>> (m &&& 31)) &&& 1).toInt = 0) ∧ r = some (.int (if m = rg_v h 2 18 then 1 else 0)) ∧ hp_z h h h' ∧ (∀ j, 0 ≤ j → j < 17 → cS_z h' 48 j = tW (cS_z h 48) m j) ∧ (∀ o k, 62 ≤ o → o ≤ 141 → ¬ (62 + 4 * (rg_v h 60 1).toNatClampNeg ≤ o ∧ o ≤ 62 + 4 * (rg_v h 60 1).toNatClampNeg + 3) → h' o k = h o k)) := by
  have z0_z : (0 : Int32).toInt = 0 := by decide
  have z1_z : (1 : Int32).toInt = 1 := by decide
  have g0_z : am_get (lv_args 0 [.ref 0, .int m]) 0 = some (.ref 0) := rfl
  have g1_z : am_get (lv_args 0 [.ref 0, .int m]) 1 = some (.int m) := rfl
  replace hc_z := rn_iload_n (am_cur_of (i := (0, 1, .iload_n 1, (0, 0, 0), 0)) (by decide +kernel)) g1_z hc_z
  replace hc_z := rn_if (am_cur_of (i := (1, 3, .ifCond .lt 25, (12, 0, 0), 0)) (by decide +kernel)) hc_z
  rcases hc_z with ⟨b496_z, hc_z⟩ | ⟨b496_z, hc_z⟩
  · replace b496_z : m.toInt < (0 : Int32).toInt := b496_z
    replace hc_z := rn_iconst (w := (-1)) (am_cur_of (i := (26, 1, .iconst (-1), (0, 0, 0), 0)) (by decide +kernel)) (by decide) hc_z
    replace hc_z := rn_iret (am_cur_of (i := (27, 1, .ireturn, (0, 0, 0), 0)) (by decide +kernel)) hc_z
    obtain ⟨e497_z, e498_z⟩ := hc_z
    exact Or.inl ⟨fun q => by omega, e497_z, fun o k => by rw [e498_z]⟩
  · replace b496_z : (0 : Int32).toInt ≤ m.toInt := b496_z
    replace hc_z := rn_iload_n (am_cur_of (i := (4, 1, .iload_n 1, (0, 0, 0), 0)) (by decide +kernel)) g1_z hc_z
    replace hc_z := rn_aload_n (am_cur_of (i := (5, 1, .aload_n 0, (0, 0, 0), 0)) (by decide +kernel)) g0_z hc_z
    replace hc_z := rn_getM (x := 2) (am_cur_of (i := (6, 3, .getfield 18, (0, 2, 663), 0)) (by decide +kernel)) D hc_z
    replace hc_z := rn_getI (v := rg_v h 2 9) (am_cur_of (i := (9, 3, .getfield 241, (1, 9, 285), 0)) (by decide +kernel)) (by decide +kernel) rfl hc_z
    replace hc_z := rn_cmp (am_cur_of (i := (12, 3, .if_icmp .ge 14, (12, 0, 0), 0)) (by decide +kernel)) hc_z
    rcases hc_z with ⟨b499_z, hc_z⟩ | ⟨b499_z, hc_z⟩
    · replace b499_z : (rg_v h 2 9).toInt ≤ m.toInt := b499_z
      replace hc_z := rn_iconst (w := (-1)) (am_cur_of (i := (26, 1, .iconst (-1), (0, 0, 0), 0)) (by decide +kernel)) (by decide) hc_z
      replace hc_z := rn_iret (am_cur_of (i := (27, 1, .ireturn, (0, 0, 0), 0)) (by decide +kernel)) hc_z
      obtain ⟨e500_z, e501_z⟩ := hc_z
      exact Or.inl ⟨fun q => by omega, e500_z, fun o k => by rw [e501_z]⟩
    · replace b499_z : m.toInt < (rg_v h 2 9).toInt := b499_z
      replace hc_z := rn_aload_n (am_cur_of (i := (15, 1, .aload_n 0, (0, 0, 0), 0)) (by decide +kernel)) g0_z hc_z
      replace hc_z := rn_getR (x := 48) (am_cur_of (i := (16, 3, .getfield 37, (0, 5, 666), 0)) (by decide +kernel)) (by decide +kernel) hc_z
      replace hc_z := rn_iload_n (am_cur_of (i := (19, 1, .iload_n 1, (0, 0, 0), 0)) (by decide +kernel)) g1_z hc_z
      replace hc_z := rn_callV (M' := am_m76) (o := 48) (ar := [.int m]) (rest := []) (L := lv_args 0 [.ref 48, .int m]) (am_cur_of (i := (20, 3, .invokevirtual 244, (76, 1016, 3), 0)) (by decide +kernel)) rfl rfl rfl rfl hc_z
      obtain ⟨r502_z, h503_z, q504_z, hc_z⟩ := hc_z
      rcases se_76 q504_z with ⟨b505_z, rfl, y506_z⟩ | ⟨b507_z, rfl, y508_z⟩
      · replace y506_z := y506_z.symm
        subst y506_z
        replace b505_z : ((((rg_v h 48 4)) >>> (m &&& 31)) &&& 1) = (0 : Int32) ∧ ((((rg_v h 48 4)) >>> (m &&& 31)) &&& 1).toInt = (0 : Int32).toInt := b505_z
        replace hc_z : rn _ _ _ _ [.int 0] _ _ _ := hc_z
        replace hc_z := rn_ifT (am_cur_of (i := (23, 3, .ifCond .eq 5, (14, 0, 0), 0)) (by decide +kernel)) (by decide) hc_z
        replace hc_z := rn_aload_n (am_cur_of (i := (28, 1, .aload_n 0, (0, 0, 0), 0)) (by decide +kernel)) g0_z hc_z
        replace hc_z := rn_getR (x := 60) (am_cur_of (i := (29, 3, .getfield 50, (0, 9, 670), 0)) (by decide +kernel)) (by decide +kernel) hc_z
        replace hc_z := rn_aload_n (am_cur_of (i := (32, 1, .aload_n 0, (0, 0, 0), 0)) (by decide +kernel)) g0_z hc_z
        replace hc_z := rn_getR (x := 48) (am_cur_of (i := (33, 3, .getfield 37, (0, 5, 666), 0)) (by decide +kernel)) (by decide +kernel) hc_z
        replace hc_z := rn_callV (M' := am_m82) (o := 60) (ar := [.ref 48]) (rest := []) (L := lv_args 0 [.ref 60, .ref 48]) (am_cur_of (i := (36, 3, .invokevirtual 212, (82, 996, 3), 0)) (by decide +kernel)) rfl rfl rfl rfl hc_z
        obtain ⟨r509_z, h510_z, q511_z, hc_z⟩ := hc_z
        have vo := rn_void rfl q511_z
        subst vo
        have cn := rt_cl n0_z
        have pl := se_ln n0_z n1_z
        obtain ⟨p1_z, p2_z, p3_z, p4_z⟩ := hp_82 rfl rfl n0_z n1_z s0_z sz20_z q511_z
        have D1 : h510_z 0 2 = .ref 2 := (p4_z 0 2 (by omega) (by omega)).trans D
        have e4_z : rg_v h510_z 48 4 = rg_v h 48 4 := by
          unfold rg_v
          rw [p4_z 48 4 (by omega) (by omega)]
        have e18_z : rg_v h510_z 2 18 = rg_v h 2 18 := by
          unfold rg_v
          rw [p4_z 2 18 (by omega) (by omega)]
        have e9_z : rg_v h510_z 2 9 = rg_v h 2 9 := by
          unfold rg_v
          rw [p4_z 2 9 (by omega) (by omega)]
        replace hc_z : rn _ _ _ _ [] _ _ _ := hc_z
        replace hc_z := rn_aload_n (am_cur_of (i := (39, 1, .aload_n 0, (0, 0, 0), 0)) (by decide +kernel)) g0_z hc_z
        replace hc_z := rn_getR (x := 48) (am_cur_of (i := (40, 3, .getfield 37, (0, 5, 666), 0)) (by decide +kernel)) (by decide +kernel) hc_z
        replace hc_z := rn_dup (am_cur_of (i := (43, 1, .dup, (0, 0, 0), 0)) (by decide +kernel)) hc_z
        replace hc_z := rn_getI (v := (rg_v h 48 4)) (am_cur_of (i := (44, 3, .getfield 247, (5, 4, 479), 0)) (by decide +kernel)) (by decide +kernel) e4_z hc_z
        replace hc_z := rn_iconst (w := 1) (am_cur_of (i := (47, 1, .iconst 1, (0, 0, 0), 0)) (by decide +kernel)) (by decide) hc_z
        replace hc_z := rn_iload_n (am_cur_of (i := (48, 1, .iload_n 1, (0, 0, 0), 0)) (by decide +kernel)) g1_z hc_z
        replace hc_z := rn_ishl (w := (1 : Int32) <<< (m &&& 31)) (am_cur_of (i := (49, 1, .ishl, (0, 0, 0), 0)) (by decide +kernel)) rfl hc_z
        replace hc_z := rn_ior (w := (rg_v h 48 4) ||| ((1 : Int32) <<< (m &&& 31))) (am_cur_of (i := (50, 1, .ior, (0, 0, 0), 0)) (by decide +kernel)) rfl hc_z
        replace hc_z := rn_put (am_cur_of (i := (51, 3, .putfield 247, (5, 4, 479), 0)) (by decide +kernel)) (by decide +kernel) hc_z
        replace hc_z := rn_iload_n (am_cur_of (i := (54, 1, .iload_n 1, (0, 0, 0), 0)) (by decide +kernel)) g1_z hc_z
        replace hc_z := rn_aload_n (am_cur_of (i := (55, 1, .aload_n 0, (0, 0, 0), 0)) (by decide +kernel)) g0_z hc_z
        replace hc_z := rn_getM (x := 2) (am_cur_of (i := (56, 3, .getfield 18, (0, 2, 663), 0)) (by decide +kernel)) (show (am_up h510_z 48 4 (.int ((rg_v h 48 4) ||| ((1 : Int32) <<< (m &&& 31))))) 0 2 = .ref 2 from D1) hc_z
        replace hc_z := rn_getI (v := (rg_v h 2 18)) (am_cur_of (i := (59, 3, .getfield 250, (1, 18, 313), 0)) (by decide +kernel)) (by decide +kernel) ((rg_v_other (by omega)).trans (e18_z)) hc_z
        replace hc_z := rn_cmp (am_cur_of (i := (62, 3, .if_icmp .ne 7, (35, 0, 0), 0)) (by decide +kernel)) hc_z
        rcases hc_z with ⟨b512_z, hc_z⟩ | ⟨b512_z, hc_z⟩
        · replace b512_z : ¬ m = (rg_v h 2 18) ∧ ¬ m.toInt = (rg_v h 2 18).toInt := b512_z
          replace hc_z := rn_iconst (w := 0) (am_cur_of (i := (69, 1, .iconst 0, (0, 0, 0), 0)) (by decide +kernel)) (by decide) hc_z
          replace hc_z := rn_iret (am_cur_of (i := (70, 1, .ireturn, (0, 0, 0), 0)) (by decide +kernel)) hc_z
          obtain ⟨e513_z, e514_z⟩ := hc_z
          rw [e514_z]
          refine Or.inr ⟨⟨by omega, by omega, by omega⟩, e513_z.trans (congrArg (fun q => some (Value.int q)) (if_neg b512_z.1).symm), ⟨fun j hj_z => Eq.trans (cS_e (fun o k a c => up_ne (by omega)) j) (p1_z j hj_z), ?_, ?_⟩, fun j j1_z j17_z => ?_, fun o k a c e => (up_ne (by omega)).trans (p4_z o k e (by omega))⟩
          · refine Eq.trans (congrArg Int32.toInt (rg_v_other (by omega))) p2_z
          · refine Eq.trans (congrArg Int32.toInt (rg_v_other (by omega))) p3_z
          · unfold tW
            by_cases c1_z : j = 4
            · rw [if_pos c1_z, c1_z]
              refine Eq.trans (show _ = rg_v (am_up h510_z 48 4 (.int ((rg_v h 48 4) ||| ((1 : Int32) <<< (m &&& 31))))) 48 4 from rfl) (rg_v_self.trans rfl)
            · rw [if_neg c1_z]
              exact cS_4 (a := 48) (fun o k a c e => (up_ne e).trans (p4_z o k (by omega) (by omega))) c1_z
        · replace b512_z : m = (rg_v h 2 18) ∧ m.toInt = (rg_v h 2 18).toInt := b512_z
          replace hc_z := rn_iconst (w := 1) (am_cur_of (i := (65, 1, .iconst 1, (0, 0, 0), 0)) (by decide +kernel)) (by decide) hc_z
          replace hc_z := rn_goto (am_cur_of (i := (66, 3, .goto 4, (36, 0, 0), 0)) (by decide +kernel)) hc_z
          replace hc_z := rn_iret (am_cur_of (i := (70, 1, .ireturn, (0, 0, 0), 0)) (by decide +kernel)) hc_z
          obtain ⟨e515_z, e516_z⟩ := hc_z
          rw [e516_z]
          refine Or.inr ⟨⟨by omega, by omega, by omega⟩, e515_z.trans (congrArg (fun q => some (Value.int q)) (if_pos b512_z.1).symm), ⟨fun j hj_z => Eq.trans (cS_e (fun o k a c => up_ne (by omega)) j) (p1_z j hj_z), ?_, ?_⟩, fun j j1_z j17_z => ?_, fun o k a c e => (up_ne (by omega)).trans (p4_z o k e (by omega))⟩
          · refine Eq.trans (congrArg Int32.toInt (rg_v_other (by omega))) p2_z
          · refine Eq.trans (congrArg Int32.toInt (rg_v_other (by omega))) p3_z
          · unfold tW
            by_cases c1_z : j = 4
            · rw [if_pos c1_z, c1_z]
              refine Eq.trans (show _ = rg_v (am_up h510_z 48 4 (.int ((rg_v h 48 4) ||| ((1 : Int32) <<< (m &&& 31))))) 48 4 from rfl) (rg_v_self.trans rfl)
            · rw [if_neg c1_z]
              exact cS_4 (a := 48) (fun o k a c e => (up_ne e).trans (p4_z o k (by omega) (by omega))) c1_z
      · replace y508_z := y508_z.symm
        subst y508_z
        replace b507_z : ¬ ((((rg_v h 48 4)) >>> (m &&& 31)) &&& 1) = (0 : Int32) ∧ ¬ ((((rg_v h 48 4)) >>> (m &&& 31)) &&& 1).toInt = (0 : Int32).toInt := b507_z
        replace hc_z : rn _ _ _ _ [.int 1] _ _ _ := hc_z
        replace hc_z := rn_ifF (am_cur_of (i := (23, 3, .ifCond .eq 5, (14, 0, 0), 0)) (by decide +kernel)) (by decide) hc_z
        replace hc_z := rn_iconst (w := (-1)) (am_cur_of (i := (26, 1, .iconst (-1), (0, 0, 0), 0)) (by decide +kernel)) (by decide) hc_z
        replace hc_z := rn_iret (am_cur_of (i := (27, 1, .ireturn, (0, 0, 0), 0)) (by decide +kernel)) hc_z
        obtain ⟨e517_z, e518_z⟩ := hc_z
        exact Or.inl ⟨fun q => by omega, e517_z, fun o k => by rw [e518_z]⟩
theorem se_85_23 {n : Nat} {r : Option Value} {h h' : am_H} {m : Int32} (D : h 0 2 = .ref 23) (n0_z : 0 ≤ (rg_v h 60 1).toInt) (n1_z : (rg_v h 60 1).toInt < 20) (s0_z : 0 ≤ (rg_v h 60 2).toInt) (sz20_z : (rg_v h 60 2).toInt ≤ 20) (hc_z : rn n am_m85 0 (lv_args 0 [.ref 0, .int m]) [] h r h') : (¬ (0 ≤ m.toInt ∧ m.toInt < (rg_v h 23 9).toInt ∧ (((rg_v h 48 4) >>> (m &&& 31)) &&& 1).toInt = 0) ∧ r = some (.int (-1)) ∧ ∀ o k, h' o k = h o k) ∨ ((0 ≤ m.toInt ∧ m.toInt < (rg_v h 23 9).toInt ∧ (((rg_v h 48 4) >>> (m &&& 31)) &&& 1).toInt = 0) ∧ r = some (.int (if m = rg_v h 23 18 then 1 else 0)) ∧ hp_z h h h' ∧ (∀ j, 0 ≤ j → j < 17 → cS_z h' 48 j = tW (cS_z h 48) m j) ∧ (∀ o k, 62 ≤ o → o ≤ 141 → ¬ (62 + 4 * (rg_v h 60 1).toNatClampNeg ≤ o ∧ o ≤ 62 + 4 * (rg_v h 60 1).toNatClampNeg + 3) → h' o k = h o k)) := by
  have z0_z : (0 : Int32).toInt = 0 := by decide
  have z1_z : (1 : Int32).toInt = 1 := by decide
  have g0_z : am_get (lv_args 0 [.ref 0, .int m]) 0 = some (.ref 0) := rfl
  have g1_z : am_get (lv_args 0 [.ref 0, .int m]) 1 = some (.int m) := rfl
  replace hc_z := rn_iload_n (am_cur_of (i := (0, 1, .iload_n 1, (0, 0, 0), 0)) (by decide +kernel)) g1_z hc_z
  replace hc_z := rn_if (am_cur_of (i := (1, 3, .ifCond .lt 25, (12, 0, 0), 0)) (by decide +kernel)) hc_z
  rcases hc_z with ⟨b519_z, hc_z⟩ | ⟨b519_z, hc_z⟩
  · replace b519_z : m.toInt < (0 : Int32).toInt := b519_z
    replace hc_z := rn_iconst (w := (-1)) (am_cur_of (i := (26, 1, .iconst (-1), (0, 0, 0), 0)) (by decide +kernel)) (by decide) hc_z
    replace hc_z := rn_iret (am_cur_of (i := (27, 1, .ireturn, (0, 0, 0), 0)) (by decide +kernel)) hc_z
    obtain ⟨e520_z, e521_z⟩ := hc_z
    exact Or.inl ⟨fun q => by omega, e520_z, fun o k => by rw [e521_z]⟩
  · replace b519_z : (0 : Int32).toInt ≤ m.toInt := b519_z
    replace hc_z := rn_iload_n (am_cur_of (i := (4, 1, .iload_n 1, (0, 0, 0), 0)) (by decide +kernel)) g1_z hc_z
    replace hc_z := rn_aload_n (am_cur_of (i := (5, 1, .aload_n 0, (0, 0, 0), 0)) (by decide +kernel)) g0_z hc_z
    replace hc_z := rn_getM (x := 23) (am_cur_of (i := (6, 3, .getfield 18, (0, 2, 663), 0)) (by decide +kernel)) D hc_z
    replace hc_z := rn_getI (v := rg_v h 23 9) (am_cur_of (i := (9, 3, .getfield 241, (1, 9, 285), 0)) (by decide +kernel)) (by decide +kernel) rfl hc_z
    replace hc_z := rn_cmp (am_cur_of (i := (12, 3, .if_icmp .ge 14, (12, 0, 0), 0)) (by decide +kernel)) hc_z
    rcases hc_z with ⟨b522_z, hc_z⟩ | ⟨b522_z, hc_z⟩
    · replace b522_z : (rg_v h 23 9).toInt ≤ m.toInt := b522_z
      replace hc_z := rn_iconst (w := (-1)) (am_cur_of (i := (26, 1, .iconst (-1), (0, 0, 0), 0)) (by decide +kernel)) (by decide) hc_z
      replace hc_z := rn_iret (am_cur_of (i := (27, 1, .ireturn, (0, 0, 0), 0)) (by decide +kernel)) hc_z
      obtain ⟨e523_z, e524_z⟩ := hc_z
      exact Or.inl ⟨fun q => by omega, e523_z, fun o k => by rw [e524_z]⟩
    · replace b522_z : m.toInt < (rg_v h 23 9).toInt := b522_z
      replace hc_z := rn_aload_n (am_cur_of (i := (15, 1, .aload_n 0, (0, 0, 0), 0)) (by decide +kernel)) g0_z hc_z
      replace hc_z := rn_getR (x := 48) (am_cur_of (i := (16, 3, .getfield 37, (0, 5, 666), 0)) (by decide +kernel)) (by decide +kernel) hc_z
      replace hc_z := rn_iload_n (am_cur_of (i := (19, 1, .iload_n 1, (0, 0, 0), 0)) (by decide +kernel)) g1_z hc_z
      replace hc_z := rn_callV (M' := am_m76) (o := 48) (ar := [.int m]) (rest := []) (L := lv_args 0 [.ref 48, .int m]) (am_cur_of (i := (20, 3, .invokevirtual 244, (76, 1016, 3), 0)) (by decide +kernel)) rfl rfl rfl rfl hc_z
      obtain ⟨r525_z, h526_z, q527_z, hc_z⟩ := hc_z
      rcases se_76 q527_z with ⟨b528_z, rfl, y529_z⟩ | ⟨b530_z, rfl, y531_z⟩
      · replace y529_z := y529_z.symm
        subst y529_z
        replace b528_z : ((((rg_v h 48 4)) >>> (m &&& 31)) &&& 1) = (0 : Int32) ∧ ((((rg_v h 48 4)) >>> (m &&& 31)) &&& 1).toInt = (0 : Int32).toInt := b528_z
        replace hc_z : rn _ _ _ _ [.int 0] _ _ _ := hc_z
        replace hc_z := rn_ifT (am_cur_of (i := (23, 3, .ifCond .eq 5, (14, 0, 0), 0)) (by decide +kernel)) (by decide) hc_z
        replace hc_z := rn_aload_n (am_cur_of (i := (28, 1, .aload_n 0, (0, 0, 0), 0)) (by decide +kernel)) g0_z hc_z
        replace hc_z := rn_getR (x := 60) (am_cur_of (i := (29, 3, .getfield 50, (0, 9, 670), 0)) (by decide +kernel)) (by decide +kernel) hc_z
        replace hc_z := rn_aload_n (am_cur_of (i := (32, 1, .aload_n 0, (0, 0, 0), 0)) (by decide +kernel)) g0_z hc_z
        replace hc_z := rn_getR (x := 48) (am_cur_of (i := (33, 3, .getfield 37, (0, 5, 666), 0)) (by decide +kernel)) (by decide +kernel) hc_z
        replace hc_z := rn_callV (M' := am_m82) (o := 60) (ar := [.ref 48]) (rest := []) (L := lv_args 0 [.ref 60, .ref 48]) (am_cur_of (i := (36, 3, .invokevirtual 212, (82, 996, 3), 0)) (by decide +kernel)) rfl rfl rfl rfl hc_z
        obtain ⟨r532_z, h533_z, q534_z, hc_z⟩ := hc_z
        have vo := rn_void rfl q534_z
        subst vo
        have cn := rt_cl n0_z
        have pl := se_ln n0_z n1_z
        obtain ⟨p1_z, p2_z, p3_z, p4_z⟩ := hp_82 rfl rfl n0_z n1_z s0_z sz20_z q534_z
        have D1 : h533_z 0 2 = .ref 23 := (p4_z 0 2 (by omega) (by omega)).trans D
        have e4_z : rg_v h533_z 48 4 = rg_v h 48 4 := by
          unfold rg_v
          rw [p4_z 48 4 (by omega) (by omega)]
        have e18_z : rg_v h533_z 23 18 = rg_v h 23 18 := by
          unfold rg_v
          rw [p4_z 23 18 (by omega) (by omega)]
        have e9_z : rg_v h533_z 23 9 = rg_v h 23 9 := by
          unfold rg_v
          rw [p4_z 23 9 (by omega) (by omega)]
        replace hc_z : rn _ _ _ _ [] _ _ _ := hc_z
        replace hc_z := rn_aload_n (am_cur_of (i := (39, 1, .aload_n 0, (0, 0, 0), 0)) (by decide +kernel)) g0_z hc_z
        replace hc_z := rn_getR (x := 48) (am_cur_of (i := (40, 3, .getfield 37, (0, 5, 666), 0)) (by decide +kernel)) (by decide +kernel) hc_z
        replace hc_z := rn_dup (am_cur_of (i := (43, 1, .dup, (0, 0, 0), 0)) (by decide +kernel)) hc_z
        replace hc_z := rn_getI (v := (rg_v h 48 4)) (am_cur_of (i := (44, 3, .getfield 247, (5, 4, 479), 0)) (by decide +kernel)) (by decide +kernel) e4_z hc_z
        replace hc_z := rn_iconst (w := 1) (am_cur_of (i := (47, 1, .iconst 1, (0, 0, 0), 0)) (by decide +kernel)) (by decide) hc_z
        replace hc_z := rn_iload_n (am_cur_of (i := (48, 1, .iload_n 1, (0, 0, 0), 0)) (by decide +kernel)) g1_z hc_z
        replace hc_z := rn_ishl (w := (1 : Int32) <<< (m &&& 31)) (am_cur_of (i := (49, 1, .ishl, (0, 0, 0), 0)) (by decide +kernel)) rfl hc_z
        replace hc_z := rn_ior (w := (rg_v h 48 4) ||| ((1 : Int32) <<< (m &&& 31))) (am_cur_of (i := (50, 1, .ior, (0, 0, 0), 0)) (by decide +kernel)) rfl hc_z
        replace hc_z := rn_put (am_cur_of (i := (51, 3, .putfield 247, (5, 4, 479), 0)) (by decide +kernel)) (by decide +kernel) hc_z
        replace hc_z := rn_iload_n (am_cur_of (i := (54, 1, .iload_n 1, (0, 0, 0), 0)) (by decide +kernel)) g1_z hc_z
        replace hc_z := rn_aload_n (am_cur_of (i := (55, 1, .aload_n 0, (0, 0, 0), 0)) (by decide +kernel)) g0_z hc_z
        replace hc_z := rn_getM (x := 23) (am_cur_of (i := (56, 3, .getfield 18, (0, 2, 663), 0)) (by decide +kernel)) (show (am_up h533_z 48 4 (.int ((rg_v h 48 4) ||| ((1 : Int32) <<< (m &&& 31))))) 0 2 = .ref 23 from D1) hc_z
        replace hc_z := rn_getI (v := (rg_v h 23 18)) (am_cur_of (i := (59, 3, .getfield 250, (1, 18, 313), 0)) (by decide +kernel)) (by decide +kernel) ((rg_v_other (by omega)).trans (e18_z)) hc_z
        replace hc_z := rn_cmp (am_cur_of (i := (62, 3, .if_icmp .ne 7, (35, 0, 0), 0)) (by decide +kernel)) hc_z
        rcases hc_z with ⟨b535_z, hc_z⟩ | ⟨b535_z, hc_z⟩
        · replace b535_z : ¬ m = (rg_v h 23 18) ∧ ¬ m.toInt = (rg_v h 23 18).toInt := b535_z
          replace hc_z := rn_iconst (w := 0) (am_cur_of (i := (69, 1, .iconst 0, (0, 0, 0), 0)) (by decide +kernel)) (by decide) hc_z
          replace hc_z := rn_iret (am_cur_of (i := (70, 1, .ireturn, (0, 0, 0), 0)) (by decide +kernel)) hc_z
          obtain ⟨e536_z, e537_z⟩ := hc_z
          rw [e537_z]
          refine Or.inr ⟨⟨by omega, by omega, by omega⟩, e536_z.trans (congrArg (fun q => some (Value.int q)) (if_neg b535_z.1).symm), ⟨fun j hj_z => Eq.trans (cS_e (fun o k a c => up_ne (by omega)) j) (p1_z j hj_z), ?_, ?_⟩, fun j j1_z j17_z => ?_, fun o k a c e => (up_ne (by omega)).trans (p4_z o k e (by omega))⟩
          · refine Eq.trans (congrArg Int32.toInt (rg_v_other (by omega))) p2_z
          · refine Eq.trans (congrArg Int32.toInt (rg_v_other (by omega))) p3_z
          · unfold tW
            by_cases c1_z : j = 4
            · rw [if_pos c1_z, c1_z]
              refine Eq.trans (show _ = rg_v (am_up h533_z 48 4 (.int ((rg_v h 48 4) ||| ((1 : Int32) <<< (m &&& 31))))) 48 4 from rfl) (rg_v_self.trans rfl)
            · rw [if_neg c1_z]
              exact cS_4 (a := 48) (fun o k a c e => (up_ne e).trans (p4_z o k (by omega) (by omega))) c1_z
        · replace b535_z : m = (rg_v h 23 18) ∧ m.toInt = (rg_v h 23 18).toInt := b535_z
          replace hc_z := rn_iconst (w := 1) (am_cur_of (i := (65, 1, .iconst 1, (0, 0, 0), 0)) (by decide +kernel)) (by decide) hc_z
          replace hc_z := rn_goto (am_cur_of (i := (66, 3, .goto 4, (36, 0, 0), 0)) (by decide +kernel)) hc_z
          replace hc_z := rn_iret (am_cur_of (i := (70, 1, .ireturn, (0, 0, 0), 0)) (by decide +kernel)) hc_z
          obtain ⟨e538_z, e539_z⟩ := hc_z
          rw [e539_z]
          refine Or.inr ⟨⟨by omega, by omega, by omega⟩, e538_z.trans (congrArg (fun q => some (Value.int q)) (if_pos b535_z.1).symm), ⟨fun j hj_z => Eq.trans (cS_e (fun o k a c => up_ne (by omega)) j) (p1_z j hj_z), ?_, ?_⟩, fun j j1_z j17_z => ?_, fun o k a c e => (up_ne (by omega)).trans (p4_z o k e (by omega))⟩
          · refine Eq.trans (congrArg Int32.toInt (rg_v_other (by omega))) p2_z
          · refine Eq.trans (congrArg Int32.toInt (rg_v_other (by omega))) p3_z
          · unfold tW
            by_cases c1_z : j = 4
            · rw [if_pos c1_z, c1_z]
              refine Eq.trans (show _ = rg_v (am_up h533_z 48 4 (.int ((rg_v h 48 4) ||| ((1 : Int32) <<< (m &&& 31))))) 48 4 from rfl) (rg_v_self.trans rfl)
            · rw [if_neg c1_z]
              exact cS_4 (a := 48) (fun o k a c e => (up_ne e).trans (p4_z o k (by omega) (by omega))) c1_z
      · replace y531_z := y531_z.symm
        subst y531_z
        replace b530_z : ¬ ((((rg_v h 48 4)) >>> (m &&& 31)) &&& 1) = (0 : Int32) ∧ ¬ ((((rg_v h 48 4)) >>> (m &&& 31)) &&& 1).toInt = (0 : Int32).toInt := b530_z
        replace hc_z : rn _ _ _ _ [.int 1] _ _ _ := hc_z
        replace hc_z := rn_ifF (am_cur_of (i := (23, 3, .ifCond .eq 5, (14, 0, 0), 0)) (by decide +kernel)) (by decide) hc_z
        replace hc_z := rn_iconst (w := (-1)) (am_cur_of (i := (26, 1, .iconst (-1), (0, 0, 0), 0)) (by decide +kernel)) (by decide) hc_z
        replace hc_z := rn_iret (am_cur_of (i := (27, 1, .ireturn, (0, 0, 0), 0)) (by decide +kernel)) hc_z
        obtain ⟨e540_z, e541_z⟩ := hc_z
        exact Or.inl ⟨fun q => by omega, e540_z, fun o k => by rw [e541_z]⟩
theorem se_137 {n : Nat} {r : Option Value} {h h' : am_H} (n0_z : 0 ≤ (rg_v h 60 1).toInt) (n1_z : (rg_v h 60 1).toInt < 20) (s0_z : 0 ≤ (rg_v h 60 2).toInt) (sz20_z : (rg_v h 60 2).toInt ≤ 20) (hc_z : rn n am_m137 0 (lv_args 0 [.ref 0]) [] h r h') : (rg_v h 60 2 = 0 ∧ r = some (.int (-1)) ∧ ∀ o k, h' o k = h o k) ∨ (¬ rg_v h 60 2 = 0 ∧ r = some (.int (rg_v h' 60 2)) ∧ (∀ j, j < 17 → cS_z h' 48 j = cS_z h (62 + 4 * (((rg_v h 60 1).toInt + 19) % 20).toNat) j) ∧ (rg_v h' 60 1).toInt = ((rg_v h 60 1).toInt + 19) % 20 ∧ (rg_v h' 60 2).toInt = (rg_v h 60 2).toInt - 1 ∧ ∀ o k, ¬ (48 ≤ o ∧ o ≤ 51) → ¬ (o = 60 ∧ (k = 1 ∨ k = 2)) → h' o k = h o k) := by
  have g0_z : am_get (lv_args 0 [.ref 0]) 0 = some (.ref 0) := rfl
  replace hc_z := rn_aload_n (am_cur_of (i := (0, 1, .aload_n 0, (0, 0, 0), 0)) (by decide +kernel)) g0_z hc_z
  replace hc_z := rn_getR (x := 60) (am_cur_of (i := (1, 3, .getfield 50, (0, 9, 670), 0)) (by decide +kernel)) (by decide +kernel) hc_z
  replace hc_z := rn_aload_n (am_cur_of (i := (4, 1, .aload_n 0, (0, 0, 0), 0)) (by decide +kernel)) g0_z hc_z
  replace hc_z := rn_getR (x := 48) (am_cur_of (i := (5, 3, .getfield 37, (0, 5, 666), 0)) (by decide +kernel)) (by decide +kernel) hc_z
  replace hc_z := rn_callV (M' := am_m138) (o := 60) (ar := [.ref 48]) (rest := []) (L := lv_args 0 [.ref 60, .ref 48]) (am_cur_of (i := (8, 3, .invokevirtual 386, (138, 1240, 3), 0)) (by decide +kernel)) rfl rfl rfl rfl hc_z
  obtain ⟨r542_z, h543_z, q544_z, hc_z⟩ := hc_z
  rcases hp_138 rfl rfl n0_z n1_z s0_z sz20_z q544_z with ⟨u1_z, rfl, u3_z⟩ | ⟨u1_z, rfl, u3_z, u4_z, u5_z, u6_z⟩
  · replace u3_z := u3_z.symm
    subst u3_z
    replace hc_z : rn _ _ _ _ [.int 0] _ _ _ := hc_z
    replace hc_z := rn_ifT (am_cur_of (i := (11, 3, .ifCond .eq 13, (10, 0, 0), 0)) (by decide +kernel)) (by decide) hc_z
    replace hc_z := rn_iconst (w := (-1)) (am_cur_of (i := (24, 1, .iconst (-1), (0, 0, 0), 0)) (by decide +kernel)) (by decide) hc_z
    replace hc_z := rn_iret (am_cur_of (i := (25, 1, .ireturn, (0, 0, 0), 0)) (by decide +kernel)) hc_z
    obtain ⟨e545_z, e546_z⟩ := hc_z
    exact Or.inl ⟨u1_z, e545_z, fun o k => by rw [e546_z]⟩
  · replace hc_z : rn _ _ _ _ [.int 1] _ _ _ := hc_z
    replace hc_z := rn_ifF (am_cur_of (i := (11, 3, .ifCond .eq 13, (10, 0, 0), 0)) (by decide +kernel)) (by decide) hc_z
    replace hc_z := rn_aload_n (am_cur_of (i := (14, 1, .aload_n 0, (0, 0, 0), 0)) (by decide +kernel)) g0_z hc_z
    replace hc_z := rn_getR (x := 60) (am_cur_of (i := (15, 3, .getfield 50, (0, 9, 670), 0)) (by decide +kernel)) (by decide +kernel) hc_z
    replace hc_z := rn_getI (v := rg_v h543_z 60 2) (am_cur_of (i := (18, 3, .getfield 390, (6, 2, 516), 0)) (by decide +kernel)) (by decide +kernel) rfl hc_z
    replace hc_z := rn_goto (am_cur_of (i := (21, 3, .goto 4, (11, 0, 0), 0)) (by decide +kernel)) hc_z
    replace hc_z := rn_iret (am_cur_of (i := (25, 1, .ireturn, (0, 0, 0), 0)) (by decide +kernel)) hc_z
    obtain ⟨e547_z, e548_z⟩ := hc_z
    rw [e548_z]
    exact Or.inr ⟨u1_z, e547_z, u3_z, u4_z, u5_z, fun o k q1_z q2_z => u6_z o k (by omega) q2_z⟩
theorem se_139 {n : Nat} {r : Option Value} {h h' : am_H} (hc_z : rn n am_m139 0 (lv_args 0 [.ref 0]) [] h r h') : r = some (.int (rg_v h 48 1)) ∧ rg_v h' 0 8 = 1 ∧ (∀ j, j < 17 → cS_z h' 56 j = cS_z h 48 j) ∧ ∀ o k, ¬ (56 ≤ o ∧ o ≤ 59) → ¬ (o = 0 ∧ k = 8) → h' o k = h o k := by
  have g0_z : am_get (lv_args 0 [.ref 0]) 0 = some (.ref 0) := rfl
  replace hc_z := rn_aload_n (am_cur_of (i := (0, 1, .aload_n 0, (0, 0, 0), 0)) (by decide +kernel)) g0_z hc_z
  replace hc_z := rn_getR (x := 56) (am_cur_of (i := (1, 3, .getfield 44, (0, 7, 668), 0)) (by decide +kernel)) (by decide +kernel) hc_z
  replace hc_z := rn_aload_n (am_cur_of (i := (4, 1, .aload_n 0, (0, 0, 0), 0)) (by decide +kernel)) g0_z hc_z
  replace hc_z := rn_getR (x := 48) (am_cur_of (i := (5, 3, .getfield 37, (0, 5, 666), 0)) (by decide +kernel)) (by decide +kernel) hc_z
  replace hc_z := rn_callV (M' := am_m64) (o := 56) (ar := [.ref 48]) (rest := []) (L := lv_args 0 [.ref 56, .ref 48]) (am_cur_of (i := (8, 3, .invokevirtual 219, (64, 1002, 3), 0)) (by decide +kernel)) rfl rfl rfl rfl hc_z
  obtain ⟨r549_z, h550_z, q551_z, hc_z⟩ := hc_z
  have vo := rn_void rfl q551_z
  subst vo
  obtain ⟨c1_z, c2_z⟩ := cp_64 st_56 st_48 (by omega) q551_z
  have e1_z : rg_v h550_z 48 1 = rg_v h 48 1 := by
    unfold rg_v
    rw [c2_z 48 1 (by omega)]
  replace hc_z : rn _ _ _ _ [] _ _ _ := hc_z
  replace hc_z := rn_aload_n (am_cur_of (i := (11, 1, .aload_n 0, (0, 0, 0), 0)) (by decide +kernel)) g0_z hc_z
  replace hc_z := rn_iconst (w := 1) (am_cur_of (i := (12, 1, .iconst 1, (0, 0, 0), 0)) (by decide +kernel)) (by decide) hc_z
  replace hc_z := rn_put (am_cur_of (i := (13, 3, .putfield 115, (0, 8, 669), 0)) (by decide +kernel)) (by decide +kernel) hc_z
  replace hc_z := rn_aload_n (am_cur_of (i := (16, 1, .aload_n 0, (0, 0, 0), 0)) (by decide +kernel)) g0_z hc_z
  replace hc_z := rn_getR (x := 48) (am_cur_of (i := (17, 3, .getfield 37, (0, 5, 666), 0)) (by decide +kernel)) (by decide +kernel) hc_z
  replace hc_z := rn_getI (v := (rg_v h 48 1)) (am_cur_of (i := (20, 3, .getfield 199, (5, 1, 471), 0)) (by decide +kernel)) (by decide +kernel) ((rg_v_other (by omega)).trans (e1_z)) hc_z
  replace hc_z := rn_iret (am_cur_of (i := (23, 1, .ireturn, (0, 0, 0), 0)) (by decide +kernel)) hc_z
  obtain ⟨e552_z, e553_z⟩ := hc_z
  rw [e553_z]
  exact ⟨e552_z, rg_v_self, fun j hj_z => Eq.trans (cS_e (fun o k a c => up_ne (by omega)) j) (c1_z j hj_z), fun o k q1_z q2_z => (up_ne q2_z).trans (c2_z o k (by omega))⟩
theorem se_140 {n : Nat} {r : Option Value} {h h' : am_H} (hc_z : rn n am_m140 0 (lv_args 0 [.ref 0]) [] h r h') : (rg_v h 0 8 = 0 ∧ r = some (.int (-1)) ∧ ∀ o k, h' o k = h o k) ∨ (¬ rg_v h 0 8 = 0 ∧ r = some (.int (rg_v h' 48 1)) ∧ (∀ j, j < 17 → cS_z h' 48 j = cS_z h 56 j) ∧ rg_v h' 60 2 = 0 ∧ ∀ o k, ¬ (48 ≤ o ∧ o ≤ 51) → ¬ (o = 60 ∧ k = 2) → h' o k = h o k) := by
  have z0_z : (0 : Int32).toInt = 0 := by decide
  have g0_z : am_get (lv_args 0 [.ref 0]) 0 = some (.ref 0) := rfl
  replace hc_z := rn_aload_n (am_cur_of (i := (0, 1, .aload_n 0, (0, 0, 0), 0)) (by decide +kernel)) g0_z hc_z
  replace hc_z := rn_getI (v := rg_v h 0 8) (am_cur_of (i := (1, 3, .getfield 115, (0, 8, 669), 0)) (by decide +kernel)) (by decide +kernel) rfl hc_z
  replace hc_z := rn_if (am_cur_of (i := (4, 3, .ifCond .ne 5, (5, 0, 0), 0)) (by decide +kernel)) hc_z
  rcases hc_z with ⟨b556_z, hc_z⟩ | ⟨b556_z, hc_z⟩
  · replace b556_z : ¬ (rg_v h 0 8) = (0 : Int32) ∧ ¬ (rg_v h 0 8).toInt = (0 : Int32).toInt := b556_z
    replace hc_z := rn_aload_n (am_cur_of (i := (9, 1, .aload_n 0, (0, 0, 0), 0)) (by decide +kernel)) g0_z hc_z
    replace hc_z := rn_getR (x := 48) (am_cur_of (i := (10, 3, .getfield 37, (0, 5, 666), 0)) (by decide +kernel)) (by decide +kernel) hc_z
    replace hc_z := rn_aload_n (am_cur_of (i := (13, 1, .aload_n 0, (0, 0, 0), 0)) (by decide +kernel)) g0_z hc_z
    replace hc_z := rn_getR (x := 56) (am_cur_of (i := (14, 3, .getfield 44, (0, 7, 668), 0)) (by decide +kernel)) (by decide +kernel) hc_z
    replace hc_z := rn_callV (M' := am_m64) (o := 48) (ar := [.ref 56]) (rest := []) (L := lv_args 0 [.ref 48, .ref 56]) (am_cur_of (i := (17, 3, .invokevirtual 219, (64, 1002, 3), 0)) (by decide +kernel)) rfl rfl rfl rfl hc_z
    obtain ⟨r557_z, h558_z, q559_z, hc_z⟩ := hc_z
    have vo := rn_void rfl q559_z
    subst vo
    obtain ⟨c1_z, c2_z⟩ := cp_64 st_48 st_56 (by omega) q559_z
    replace hc_z : rn _ _ _ _ [] _ _ _ := hc_z
    replace hc_z := rn_aload_n (am_cur_of (i := (20, 1, .aload_n 0, (0, 0, 0), 0)) (by decide +kernel)) g0_z hc_z
    replace hc_z := rn_getR (x := 60) (am_cur_of (i := (21, 3, .getfield 50, (0, 9, 670), 0)) (by decide +kernel)) (by decide +kernel) hc_z
    replace hc_z := rn_callV (M' := am_m57) (o := 60) (ar := []) (rest := []) (L := lv_args 0 [.ref 60]) (am_cur_of (i := (24, 3, .invokevirtual 111, (57, 886, 3), 0)) (by decide +kernel)) rfl rfl rfl rfl hc_z
    obtain ⟨r560_z, h561_z, q562_z, hc_z⟩ := hc_z
    rcases kg_57 q562_z with ⟨rfl, y563_z⟩
    replace y563_z := y563_z.symm
    subst y563_z
    replace hc_z : rn _ _ _ _ [] _ _ _ := hc_z
    replace hc_z := rn_aload_n (am_cur_of (i := (27, 1, .aload_n 0, (0, 0, 0), 0)) (by decide +kernel)) g0_z hc_z
    replace hc_z := rn_getR (x := 48) (am_cur_of (i := (28, 3, .getfield 37, (0, 5, 666), 0)) (by decide +kernel)) (by decide +kernel) hc_z
    replace hc_z := rn_getI (v := rg_v h558_z 48 1) (am_cur_of (i := (31, 3, .getfield 199, (5, 1, 471), 0)) (by decide +kernel)) (by decide +kernel) ((rg_v_other (by omega)).trans (rfl)) hc_z
    replace hc_z := rn_iret (am_cur_of (i := (34, 1, .ireturn, (0, 0, 0), 0)) (by decide +kernel)) hc_z
    obtain ⟨e564_z, e565_z⟩ := hc_z
    rw [e565_z]
    exact Or.inr ⟨b556_z.1, e564_z.trans (congrArg (fun q => some (Value.int q)) (rg_v_other (by omega)).symm), fun j hj_z => Eq.trans (cS_e (fun o k a c => up_ne (by omega)) j) (c1_z j hj_z), rg_v_self, fun o k q1_z q2_z => (up_ne q2_z).trans (c2_z o k (by omega))⟩
  · replace b556_z : (rg_v h 0 8) = (0 : Int32) ∧ (rg_v h 0 8).toInt = (0 : Int32).toInt := b556_z
    replace hc_z := rn_iconst (w := (-1)) (am_cur_of (i := (7, 1, .iconst (-1), (0, 0, 0), 0)) (by decide +kernel)) (by decide) hc_z
    replace hc_z := rn_iret (am_cur_of (i := (8, 1, .ireturn, (0, 0, 0), 0)) (by decide +kernel)) hc_z
    obtain ⟨e566_z, e567_z⟩ := hc_z
    exact Or.inl ⟨b556_z.1, e566_z, fun o k => by rw [e567_z]⟩
