/-! ===== THE STATE'S CELLS IN BOTH (wip/r/gen99sb.py) ===== -/
/-- number j of the state at a: full, seconds, last, left, patched; since, all, end of each blower -/
def cS_z (h : am_H) (a j : Nat) : Int32 := if j < 5 then rg_v h a j else if j < 9 then rg_v h (a + 1) (j - 5) else if j < 13 then rg_v h (a + 2) (j - 9) else rg_v h (a + 3) (j - 13)
/-- the same of the model's bed b -/
def mS (g : am_H) (b j : Nat) : Int32 := match j with
  | 0 => rg_v g 188 b
  | 1 => rg_v g 189 b
  | 2 => rg_v g 190 b
  | 3 => rg_v g 194 b
  | 4 => rg_v g 164 57
  | j + 5 => if j < 4 then rg_v g 191 (4 * b + j) else if j < 8 then rg_v g 192 (4 * b + (j - 4)) else rg_v g 193 (4 * b + (j - 8))
def stB (a : Nat) : Bool := match am_ks0[a]? with
  | some (.inl 5) => decide (am_ks0[a + 1]? = some (.inr (.int, 4))) && decide (am_ks0[a + 2]? = some (.inr (.int, 4))) && decide (am_ks0[a + 3]? = some (.inr (.int, 4))) && Nat.beq (rg_c a 5) (a + 1 + 4) && Nat.beq (rg_c a 6) (a + 2 + 4) && Nat.beq (rg_c a 7) (a + 3 + 4) && (List.range 5).all (fun f => rg_fi 5 a f)
  | _ => true
theorem stB_all : (List.range 203).all stB = true := by decide +kernel
/-- a cell that holds a state -/
def stA (a : Nat) : Prop := am_ks0[a]? = some (.inl 5)
theorem st_ok {a : Nat} (ha_z : stA a) : (am_ks0[a + 1]? = some (.inr (.int, 4)) ∧ am_ks0[a + 2]? = some (.inr (.int, 4)) ∧ am_ks0[a + 3]? = some (.inr (.int, 4))) ∧ (rg_c a 5 = a + 1 + 4 ∧ rg_c a 6 = a + 2 + 4 ∧ rg_c a 7 = a + 3 + 4) ∧ ∀ f, f < 5 → rg_fi 5 a f = true := by
  have hl_z : a < am_ks0.length := (List.getElem?_eq_some_iff.mp ha_z).1
  rw [rg_len] at hl_z
  have q := List.all_eq_true.mp stB_all a (List.mem_range.mpr hl_z)
  unfold stB at q
  rw [show am_ks0[a]? = some (.inl 5) from ha_z] at q
  simp only [Bool.and_eq_true, decide_eq_true_eq] at q
  obtain ⟨⟨⟨⟨⟨⟨q1_z, q2_z⟩, q3_z⟩, q4_z⟩, q5_z⟩, q6_z⟩, q7_z⟩ := q
  exact ⟨⟨q1_z, q2_z, q3_z⟩, ⟨Nat.eq_of_beq_eq_true q4_z, Nat.eq_of_beq_eq_true q5_z, Nat.eq_of_beq_eq_true q6_z⟩, fun f hf_z => List.all_eq_true.mp q7_z f (List.mem_range.mpr hf_z)⟩
theorem st_rf {f a x : Nat} (hc_z : rg_c a f = x + 4) (hf_z : Nat.blt f (am_tys 5).length = true) : (Nat.blt f (am_tys 5).length && Nat.beq (rg_c a f) (x + 4)) = true := by
  rw [hf_z, hc_z]
  exact Nat.beq_refl _
theorem st_48 : stA 48 := by unfold stA; decide +kernel
theorem st_52 : stA 52 := by unfold stA; decide +kernel
theorem st_56 : stA 56 := by unfold stA; decide +kernel
theorem st_149 : stA 149 := by unfold stA; decide +kernel
theorem st_154 : stA 154 := by unfold stA; decide +kernel
theorem st_hi : ∀ i, i < 20 → stA (62 + 4 * i) := by unfold stA; decide +kernel
theorem st_ha : ∀ i, i < 20 → rg_c 61 i = 62 + 4 * i + 4 := by decide +kernel
theorem st_hk : am_ks0[61]? = some (.inr (.object "AirBed$State", 20)) := by decide +kernel
theorem hs_ref {h : am_H} (hG : rg_Gd h) {q : Nat} (hq_z : q < 20) : rg_r h 61 q = 62 + 4 * q := rg_r_e (rg_ref hG st_hk hq_z (st_ha q hq_z))
theorem rg_l_self {h : am_H} {o k : Nat} {v : Int64} : rg_l (am_up h o k (.long v)) o k = v := by
  unfold rg_l
  rw [am_up_self]
theorem rg_l_other {h : am_H} {o k o' k' : Nat} {v : Value} (hne : ¬ (o' = o ∧ k' = k)) : rg_l (am_up h o k v) o' k' = rg_l h o' k' := by
  unfold rg_l
  rw [up_ne hne]
theorem cp_64 {a b n : Nat} {r : Option Value} {h h' : am_H} (ha_z : stA a) (hb_z : stA b) (hab : a + 3 < b ∨ b + 3 < a) (hc_z : rn n am_m64 0 (lv_args 0 [.ref a, .ref b]) [] h r h') : (∀ j, j < 17 → cS_z h' a j = cS_z h b j) ∧ ∀ o k, ¬ (a ≤ o ∧ o ≤ a + 3) → h' o k = h o k := by
  have g0_z : am_get (lv_args 0 [.ref a, .ref b]) 0 = some (.ref a) := rfl
  have g1_z : am_get (lv_args 0 [.ref a, .ref b]) 1 = some (.ref b) := rfl
  obtain ⟨⟨a1_z, a2_z, a3_z⟩, ⟨ac5_z, ac6_z, ac7_z⟩, af⟩ := st_ok ha_z
  obtain ⟨⟨b1_z, b2_z, b3_z⟩, ⟨bc5_z, bc6_z, bc7_z⟩, bf⟩ := st_ok hb_z
  replace hc_z := rn_aload_n (am_cur_of (i := (0, 1, .aload_n 0, (0, 0, 0), 0)) (by decide +kernel)) g0_z hc_z
  replace hc_z := rn_aload_n (am_cur_of (i := (1, 1, .aload_n 1, (0, 0, 0), 0)) (by decide +kernel)) g1_z hc_z
  replace hc_z := rn_getI (v := rg_v h b 0) (am_cur_of (i := (2, 3, .getfield 27, (5, 0, 462), 0)) (by decide +kernel)) (bf 0 (by decide)) rfl hc_z
  replace hc_z := rn_put (am_cur_of (i := (5, 3, .putfield 27, (5, 0, 462), 0)) (by decide +kernel)) (by decide +kernel) hc_z
  replace hc_z := rn_aload_n (am_cur_of (i := (8, 1, .aload_n 0, (0, 0, 0), 0)) (by decide +kernel)) g0_z hc_z
  replace hc_z := rn_aload_n (am_cur_of (i := (9, 1, .aload_n 1, (0, 0, 0), 0)) (by decide +kernel)) g1_z hc_z
  replace hc_z := rn_getI (v := rg_v h b 1) (am_cur_of (i := (10, 3, .getfield 30, (5, 1, 467), 0)) (by decide +kernel)) (bf 1 (by decide)) ((rg_v_other (by omega)).trans (rfl)) hc_z
  replace hc_z := rn_put (am_cur_of (i := (13, 3, .putfield 30, (5, 1, 467), 0)) (by decide +kernel)) (by decide +kernel) hc_z
  replace hc_z := rn_aload_n (am_cur_of (i := (16, 1, .aload_n 0, (0, 0, 0), 0)) (by decide +kernel)) g0_z hc_z
  replace hc_z := rn_aload_n (am_cur_of (i := (17, 1, .aload_n 1, (0, 0, 0), 0)) (by decide +kernel)) g1_z hc_z
  replace hc_z := rn_getI (v := rg_v h b 2) (am_cur_of (i := (18, 3, .getfield 33, (5, 2, 472), 0)) (by decide +kernel)) (bf 2 (by decide)) ((rg_v_other (by omega)).trans ((rg_v_other (by omega)).trans (rfl))) hc_z
  replace hc_z := rn_put (am_cur_of (i := (21, 3, .putfield 33, (5, 2, 472), 0)) (by decide +kernel)) (by decide +kernel) hc_z
  replace hc_z := rn_aload_n (am_cur_of (i := (24, 1, .aload_n 0, (0, 0, 0), 0)) (by decide +kernel)) g0_z hc_z
  replace hc_z := rn_aload_n (am_cur_of (i := (25, 1, .aload_n 1, (0, 0, 0), 0)) (by decide +kernel)) g1_z hc_z
  replace hc_z := rn_getI (v := rg_v h b 3) (am_cur_of (i := (26, 3, .getfield 39, (5, 3, 476), 0)) (by decide +kernel)) (bf 3 (by decide)) ((rg_v_other (by omega)).trans ((rg_v_other (by omega)).trans ((rg_v_other (by omega)).trans (rfl)))) hc_z
  replace hc_z := rn_put (am_cur_of (i := (29, 3, .putfield 39, (5, 3, 476), 0)) (by decide +kernel)) (by decide +kernel) hc_z
  replace hc_z := rn_aload_n (am_cur_of (i := (32, 1, .aload_n 0, (0, 0, 0), 0)) (by decide +kernel)) g0_z hc_z
  replace hc_z := rn_aload_n (am_cur_of (i := (33, 1, .aload_n 1, (0, 0, 0), 0)) (by decide +kernel)) g1_z hc_z
  replace hc_z := rn_getI (v := rg_v h b 4) (am_cur_of (i := (34, 3, .getfield 42, (5, 4, 478), 0)) (by decide +kernel)) (bf 4 (by decide)) ((rg_v_other (by omega)).trans ((rg_v_other (by omega)).trans ((rg_v_other (by omega)).trans ((rg_v_other (by omega)).trans (rfl))))) hc_z
  replace hc_z := rn_put (am_cur_of (i := (37, 3, .putfield 42, (5, 4, 478), 0)) (by decide +kernel)) (by decide +kernel) hc_z
  replace hc_z := rn_iconst (w := 0) (am_cur_of (i := (40, 1, .iconst 0, (0, 0, 0), 0)) (by decide +kernel)) (by decide) hc_z
  replace hc_z := rn_istore_n (am_cur_of (i := (41, 1, .istore_n 2, (0, 0, 0), 0)) (by decide +kernel)) hc_z
  obtain ⟨_, s1_z, s2_z, g2_z, hc_z⟩ := hc_z
  replace g0_z := s1_z 0 _ (by decide) rfl g0_z
  replace g1_z := s1_z 1 _ (by decide) rfl g1_z
  clear s1_z s2_z
  replace hc_z := rn_iload_n (am_cur_of (i := (42, 1, .iload_n 2, (0, 0, 0), 0)) (by decide +kernel)) g2_z hc_z
  replace hc_z := rn_iconst (w := 4) (am_cur_of (i := (43, 1, .iconst 4, (0, 0, 0), 0)) (by decide +kernel)) (by decide) hc_z
  replace hc_z := rn_cmpF (am_cur_of (i := (44, 3, .if_icmp .ge 45, (51, 0, 0), 0)) (by decide +kernel)) (by decide) hc_z
  replace hc_z := rn_aload_n (am_cur_of (i := (47, 1, .aload_n 0, (0, 0, 0), 0)) (by decide +kernel)) g0_z hc_z
  replace hc_z := rn_getR (x := a + 1) (am_cur_of (i := (48, 3, .getfield 9, (5, 5, 480), 0)) (by decide +kernel)) (st_rf ac5_z rfl) hc_z
  replace hc_z := rn_iload_n (am_cur_of (i := (51, 1, .iload_n 2, (0, 0, 0), 0)) (by decide +kernel)) g2_z hc_z
  replace hc_z := rn_aload_n (am_cur_of (i := (52, 1, .aload_n 1, (0, 0, 0), 0)) (by decide +kernel)) g1_z hc_z
  replace hc_z := rn_getR (x := b + 1) (am_cur_of (i := (53, 3, .getfield 9, (5, 5, 480), 0)) (by decide +kernel)) (st_rf bc5_z rfl) hc_z
  replace hc_z := rn_iload_n (am_cur_of (i := (56, 1, .iload_n 2, (0, 0, 0), 0)) (by decide +kernel)) g2_z hc_z
  replace hc_z := rn_iaload (q := 0) (v := rg_v h (b + 1) 0) (am_cur_of (i := (57, 1, .iaload, (0, 0, 0), 0)) (by decide +kernel)) b1_z rfl ((rg_v_other (by omega)).trans ((rg_v_other (by omega)).trans ((rg_v_other (by omega)).trans ((rg_v_other (by omega)).trans ((rg_v_other (by omega)).trans (rfl)))))) hc_z
  obtain ⟨p3_z, hc_z⟩ := hc_z
  replace hc_z := rn_iastore (q := 0) (am_cur_of (i := (58, 1, .iastore, (0, 0, 0), 0)) (by decide +kernel)) a1_z rfl hc_z
  obtain ⟨p4_z, hc_z⟩ := hc_z
  replace hc_z := rn_aload_n (am_cur_of (i := (59, 1, .aload_n 0, (0, 0, 0), 0)) (by decide +kernel)) g0_z hc_z
  replace hc_z := rn_getR (x := a + 2) (am_cur_of (i := (60, 3, .getfield 15, (5, 6, 482), 0)) (by decide +kernel)) (st_rf ac6_z rfl) hc_z
  replace hc_z := rn_iload_n (am_cur_of (i := (63, 1, .iload_n 2, (0, 0, 0), 0)) (by decide +kernel)) g2_z hc_z
  replace hc_z := rn_aload_n (am_cur_of (i := (64, 1, .aload_n 1, (0, 0, 0), 0)) (by decide +kernel)) g1_z hc_z
  replace hc_z := rn_getR (x := b + 2) (am_cur_of (i := (65, 3, .getfield 15, (5, 6, 482), 0)) (by decide +kernel)) (st_rf bc6_z rfl) hc_z
  replace hc_z := rn_iload_n (am_cur_of (i := (68, 1, .iload_n 2, (0, 0, 0), 0)) (by decide +kernel)) g2_z hc_z
  replace hc_z := rn_iaload (q := 0) (v := rg_v h (b + 2) 0) (am_cur_of (i := (69, 1, .iaload, (0, 0, 0), 0)) (by decide +kernel)) b2_z rfl ((rg_v_other (by omega)).trans ((rg_v_other (by omega)).trans ((rg_v_other (by omega)).trans ((rg_v_other (by omega)).trans ((rg_v_other (by omega)).trans ((rg_v_other (by omega)).trans (rfl))))))) hc_z
  obtain ⟨p5_z, hc_z⟩ := hc_z
  replace hc_z := rn_iastore (q := 0) (am_cur_of (i := (70, 1, .iastore, (0, 0, 0), 0)) (by decide +kernel)) a2_z rfl hc_z
  obtain ⟨p6_z, hc_z⟩ := hc_z
  replace hc_z := rn_aload_n (am_cur_of (i := (71, 1, .aload_n 0, (0, 0, 0), 0)) (by decide +kernel)) g0_z hc_z
  replace hc_z := rn_getR (x := a + 3) (am_cur_of (i := (72, 3, .getfield 18, (5, 7, 485), 0)) (by decide +kernel)) (st_rf ac7_z rfl) hc_z
  replace hc_z := rn_iload_n (am_cur_of (i := (75, 1, .iload_n 2, (0, 0, 0), 0)) (by decide +kernel)) g2_z hc_z
  replace hc_z := rn_aload_n (am_cur_of (i := (76, 1, .aload_n 1, (0, 0, 0), 0)) (by decide +kernel)) g1_z hc_z
  replace hc_z := rn_getR (x := b + 3) (am_cur_of (i := (77, 3, .getfield 18, (5, 7, 485), 0)) (by decide +kernel)) (st_rf bc7_z rfl) hc_z
  replace hc_z := rn_iload_n (am_cur_of (i := (80, 1, .iload_n 2, (0, 0, 0), 0)) (by decide +kernel)) g2_z hc_z
  replace hc_z := rn_iaload (q := 0) (v := rg_v h (b + 3) 0) (am_cur_of (i := (81, 1, .iaload, (0, 0, 0), 0)) (by decide +kernel)) b3_z rfl ((rg_v_other (by omega)).trans ((rg_v_other (by omega)).trans ((rg_v_other (by omega)).trans ((rg_v_other (by omega)).trans ((rg_v_other (by omega)).trans ((rg_v_other (by omega)).trans ((rg_v_other (by omega)).trans (rfl)))))))) hc_z
  obtain ⟨p7_z, hc_z⟩ := hc_z
  replace hc_z := rn_iastore (q := 0) (am_cur_of (i := (82, 1, .iastore, (0, 0, 0), 0)) (by decide +kernel)) a3_z rfl hc_z
  obtain ⟨p8_z, hc_z⟩ := hc_z
  replace hc_z := rn_iinc (w := 1) (am_cur_of (i := (83, 3, .iinc 2 1, (0, 0, 0), 0)) (by decide +kernel)) g2_z (by decide) hc_z
  obtain ⟨_, s9_z, s10_z, g2_z, hc_z⟩ := hc_z
  replace g0_z := s9_z 0 _ (by decide) rfl g0_z
  replace g1_z := s9_z 1 _ (by decide) rfl g1_z
  clear s9_z s10_z
  replace hc_z := rn_goto (am_cur_of (i := (86, 3, .goto (-44), (22, 0, 0), 0)) (by decide +kernel)) hc_z
  replace hc_z := rn_iload_n (am_cur_of (i := (42, 1, .iload_n 2, (0, 0, 0), 0)) (by decide +kernel)) g2_z hc_z
  replace hc_z := rn_iconst (w := 4) (am_cur_of (i := (43, 1, .iconst 4, (0, 0, 0), 0)) (by decide +kernel)) (by decide) hc_z
  replace hc_z := rn_cmpF (am_cur_of (i := (44, 3, .if_icmp .ge 45, (51, 0, 0), 0)) (by decide +kernel)) (by decide) hc_z
  replace hc_z := rn_aload_n (am_cur_of (i := (47, 1, .aload_n 0, (0, 0, 0), 0)) (by decide +kernel)) g0_z hc_z
  replace hc_z := rn_getR (x := a + 1) (am_cur_of (i := (48, 3, .getfield 9, (5, 5, 480), 0)) (by decide +kernel)) (st_rf ac5_z rfl) hc_z
  replace hc_z := rn_iload_n (am_cur_of (i := (51, 1, .iload_n 2, (0, 0, 0), 0)) (by decide +kernel)) g2_z hc_z
  replace hc_z := rn_aload_n (am_cur_of (i := (52, 1, .aload_n 1, (0, 0, 0), 0)) (by decide +kernel)) g1_z hc_z
  replace hc_z := rn_getR (x := b + 1) (am_cur_of (i := (53, 3, .getfield 9, (5, 5, 480), 0)) (by decide +kernel)) (st_rf bc5_z rfl) hc_z
  replace hc_z := rn_iload_n (am_cur_of (i := (56, 1, .iload_n 2, (0, 0, 0), 0)) (by decide +kernel)) g2_z hc_z
  replace hc_z := rn_iaload (q := 1) (v := rg_v h (b + 1) 1) (am_cur_of (i := (57, 1, .iaload, (0, 0, 0), 0)) (by decide +kernel)) b1_z rfl ((rg_v_other (by omega)).trans ((rg_v_other (by omega)).trans ((rg_v_other (by omega)).trans ((rg_v_other (by omega)).trans ((rg_v_other (by omega)).trans ((rg_v_other (by omega)).trans ((rg_v_other (by omega)).trans ((rg_v_other (by omega)).trans (rfl))))))))) hc_z
  obtain ⟨p11_z, hc_z⟩ := hc_z
  replace hc_z := rn_iastore (q := 1) (am_cur_of (i := (58, 1, .iastore, (0, 0, 0), 0)) (by decide +kernel)) a1_z rfl hc_z
  obtain ⟨p12_z, hc_z⟩ := hc_z
  replace hc_z := rn_aload_n (am_cur_of (i := (59, 1, .aload_n 0, (0, 0, 0), 0)) (by decide +kernel)) g0_z hc_z
  replace hc_z := rn_getR (x := a + 2) (am_cur_of (i := (60, 3, .getfield 15, (5, 6, 482), 0)) (by decide +kernel)) (st_rf ac6_z rfl) hc_z
  replace hc_z := rn_iload_n (am_cur_of (i := (63, 1, .iload_n 2, (0, 0, 0), 0)) (by decide +kernel)) g2_z hc_z
  replace hc_z := rn_aload_n (am_cur_of (i := (64, 1, .aload_n 1, (0, 0, 0), 0)) (by decide +kernel)) g1_z hc_z
  replace hc_z := rn_getR (x := b + 2) (am_cur_of (i := (65, 3, .getfield 15, (5, 6, 482), 0)) (by decide +kernel)) (st_rf bc6_z rfl) hc_z
  replace hc_z := rn_iload_n (am_cur_of (i := (68, 1, .iload_n 2, (0, 0, 0), 0)) (by decide +kernel)) g2_z hc_z
  replace hc_z := rn_iaload (q := 1) (v := rg_v h (b + 2) 1) (am_cur_of (i := (69, 1, .iaload, (0, 0, 0), 0)) (by decide +kernel)) b2_z rfl ((rg_v_other (by omega)).trans ((rg_v_other (by omega)).trans ((rg_v_other (by omega)).trans ((rg_v_other (by omega)).trans ((rg_v_other (by omega)).trans ((rg_v_other (by omega)).trans ((rg_v_other (by omega)).trans ((rg_v_other (by omega)).trans ((rg_v_other (by omega)).trans (rfl)))))))))) hc_z
  obtain ⟨p13_z, hc_z⟩ := hc_z
  replace hc_z := rn_iastore (q := 1) (am_cur_of (i := (70, 1, .iastore, (0, 0, 0), 0)) (by decide +kernel)) a2_z rfl hc_z
  obtain ⟨p14_z, hc_z⟩ := hc_z
  replace hc_z := rn_aload_n (am_cur_of (i := (71, 1, .aload_n 0, (0, 0, 0), 0)) (by decide +kernel)) g0_z hc_z
  replace hc_z := rn_getR (x := a + 3) (am_cur_of (i := (72, 3, .getfield 18, (5, 7, 485), 0)) (by decide +kernel)) (st_rf ac7_z rfl) hc_z
  replace hc_z := rn_iload_n (am_cur_of (i := (75, 1, .iload_n 2, (0, 0, 0), 0)) (by decide +kernel)) g2_z hc_z
  replace hc_z := rn_aload_n (am_cur_of (i := (76, 1, .aload_n 1, (0, 0, 0), 0)) (by decide +kernel)) g1_z hc_z
  replace hc_z := rn_getR (x := b + 3) (am_cur_of (i := (77, 3, .getfield 18, (5, 7, 485), 0)) (by decide +kernel)) (st_rf bc7_z rfl) hc_z
  replace hc_z := rn_iload_n (am_cur_of (i := (80, 1, .iload_n 2, (0, 0, 0), 0)) (by decide +kernel)) g2_z hc_z
  replace hc_z := rn_iaload (q := 1) (v := rg_v h (b + 3) 1) (am_cur_of (i := (81, 1, .iaload, (0, 0, 0), 0)) (by decide +kernel)) b3_z rfl ((rg_v_other (by omega)).trans ((rg_v_other (by omega)).trans ((rg_v_other (by omega)).trans ((rg_v_other (by omega)).trans ((rg_v_other (by omega)).trans ((rg_v_other (by omega)).trans ((rg_v_other (by omega)).trans ((rg_v_other (by omega)).trans ((rg_v_other (by omega)).trans ((rg_v_other (by omega)).trans (rfl))))))))))) hc_z
  obtain ⟨p15_z, hc_z⟩ := hc_z
  replace hc_z := rn_iastore (q := 1) (am_cur_of (i := (82, 1, .iastore, (0, 0, 0), 0)) (by decide +kernel)) a3_z rfl hc_z
  obtain ⟨p16_z, hc_z⟩ := hc_z
  replace hc_z := rn_iinc (w := 2) (am_cur_of (i := (83, 3, .iinc 2 1, (0, 0, 0), 0)) (by decide +kernel)) g2_z (by decide) hc_z
  obtain ⟨_, s17_z, s18_z, g2_z, hc_z⟩ := hc_z
  replace g0_z := s17_z 0 _ (by decide) rfl g0_z
  replace g1_z := s17_z 1 _ (by decide) rfl g1_z
  clear s17_z s18_z
  replace hc_z := rn_goto (am_cur_of (i := (86, 3, .goto (-44), (22, 0, 0), 0)) (by decide +kernel)) hc_z
  replace hc_z := rn_iload_n (am_cur_of (i := (42, 1, .iload_n 2, (0, 0, 0), 0)) (by decide +kernel)) g2_z hc_z
  replace hc_z := rn_iconst (w := 4) (am_cur_of (i := (43, 1, .iconst 4, (0, 0, 0), 0)) (by decide +kernel)) (by decide) hc_z
  replace hc_z := rn_cmpF (am_cur_of (i := (44, 3, .if_icmp .ge 45, (51, 0, 0), 0)) (by decide +kernel)) (by decide) hc_z
  replace hc_z := rn_aload_n (am_cur_of (i := (47, 1, .aload_n 0, (0, 0, 0), 0)) (by decide +kernel)) g0_z hc_z
  replace hc_z := rn_getR (x := a + 1) (am_cur_of (i := (48, 3, .getfield 9, (5, 5, 480), 0)) (by decide +kernel)) (st_rf ac5_z rfl) hc_z
  replace hc_z := rn_iload_n (am_cur_of (i := (51, 1, .iload_n 2, (0, 0, 0), 0)) (by decide +kernel)) g2_z hc_z
  replace hc_z := rn_aload_n (am_cur_of (i := (52, 1, .aload_n 1, (0, 0, 0), 0)) (by decide +kernel)) g1_z hc_z
  replace hc_z := rn_getR (x := b + 1) (am_cur_of (i := (53, 3, .getfield 9, (5, 5, 480), 0)) (by decide +kernel)) (st_rf bc5_z rfl) hc_z
  replace hc_z := rn_iload_n (am_cur_of (i := (56, 1, .iload_n 2, (0, 0, 0), 0)) (by decide +kernel)) g2_z hc_z
  replace hc_z := rn_iaload (q := 2) (v := rg_v h (b + 1) 2) (am_cur_of (i := (57, 1, .iaload, (0, 0, 0), 0)) (by decide +kernel)) b1_z rfl ((rg_v_other (by omega)).trans ((rg_v_other (by omega)).trans ((rg_v_other (by omega)).trans ((rg_v_other (by omega)).trans ((rg_v_other (by omega)).trans ((rg_v_other (by omega)).trans ((rg_v_other (by omega)).trans ((rg_v_other (by omega)).trans ((rg_v_other (by omega)).trans ((rg_v_other (by omega)).trans ((rg_v_other (by omega)).trans (rfl)))))))))))) hc_z
  obtain ⟨p19_z, hc_z⟩ := hc_z
  replace hc_z := rn_iastore (q := 2) (am_cur_of (i := (58, 1, .iastore, (0, 0, 0), 0)) (by decide +kernel)) a1_z rfl hc_z
  obtain ⟨p20_z, hc_z⟩ := hc_z
  replace hc_z := rn_aload_n (am_cur_of (i := (59, 1, .aload_n 0, (0, 0, 0), 0)) (by decide +kernel)) g0_z hc_z
  replace hc_z := rn_getR (x := a + 2) (am_cur_of (i := (60, 3, .getfield 15, (5, 6, 482), 0)) (by decide +kernel)) (st_rf ac6_z rfl) hc_z
  replace hc_z := rn_iload_n (am_cur_of (i := (63, 1, .iload_n 2, (0, 0, 0), 0)) (by decide +kernel)) g2_z hc_z
  replace hc_z := rn_aload_n (am_cur_of (i := (64, 1, .aload_n 1, (0, 0, 0), 0)) (by decide +kernel)) g1_z hc_z
  replace hc_z := rn_getR (x := b + 2) (am_cur_of (i := (65, 3, .getfield 15, (5, 6, 482), 0)) (by decide +kernel)) (st_rf bc6_z rfl) hc_z
  replace hc_z := rn_iload_n (am_cur_of (i := (68, 1, .iload_n 2, (0, 0, 0), 0)) (by decide +kernel)) g2_z hc_z
  replace hc_z := rn_iaload (q := 2) (v := rg_v h (b + 2) 2) (am_cur_of (i := (69, 1, .iaload, (0, 0, 0), 0)) (by decide +kernel)) b2_z rfl ((rg_v_other (by omega)).trans ((rg_v_other (by omega)).trans ((rg_v_other (by omega)).trans ((rg_v_other (by omega)).trans ((rg_v_other (by omega)).trans ((rg_v_other (by omega)).trans ((rg_v_other (by omega)).trans ((rg_v_other (by omega)).trans ((rg_v_other (by omega)).trans ((rg_v_other (by omega)).trans ((rg_v_other (by omega)).trans ((rg_v_other (by omega)).trans (rfl))))))))))))) hc_z
  obtain ⟨p21_z, hc_z⟩ := hc_z
  replace hc_z := rn_iastore (q := 2) (am_cur_of (i := (70, 1, .iastore, (0, 0, 0), 0)) (by decide +kernel)) a2_z rfl hc_z
  obtain ⟨p22_z, hc_z⟩ := hc_z
  replace hc_z := rn_aload_n (am_cur_of (i := (71, 1, .aload_n 0, (0, 0, 0), 0)) (by decide +kernel)) g0_z hc_z
  replace hc_z := rn_getR (x := a + 3) (am_cur_of (i := (72, 3, .getfield 18, (5, 7, 485), 0)) (by decide +kernel)) (st_rf ac7_z rfl) hc_z
  replace hc_z := rn_iload_n (am_cur_of (i := (75, 1, .iload_n 2, (0, 0, 0), 0)) (by decide +kernel)) g2_z hc_z
  replace hc_z := rn_aload_n (am_cur_of (i := (76, 1, .aload_n 1, (0, 0, 0), 0)) (by decide +kernel)) g1_z hc_z
  replace hc_z := rn_getR (x := b + 3) (am_cur_of (i := (77, 3, .getfield 18, (5, 7, 485), 0)) (by decide +kernel)) (st_rf bc7_z rfl) hc_z
  replace hc_z := rn_iload_n (am_cur_of (i := (80, 1, .iload_n 2, (0, 0, 0), 0)) (by decide +kernel)) g2_z hc_z
  replace hc_z := rn_iaload (q := 2) (v := rg_v h (b + 3) 2) (am_cur_of (i := (81, 1, .iaload, (0, 0, 0), 0)) (by decide +kernel)) b3_z rfl ((rg_v_other (by omega)).trans ((rg_v_other (by omega)).trans ((rg_v_other (by omega)).trans ((rg_v_other (by omega)).trans ((rg_v_other (by omega)).trans ((rg_v_other (by omega)).trans ((rg_v_other (by omega)).trans ((rg_v_other (by omega)).trans ((rg_v_other (by omega)).trans ((rg_v_other (by omega)).trans ((rg_v_other (by omega)).trans ((rg_v_other (by omega)).trans ((rg_v_other (by omega)).trans (rfl)))))))))))))) hc_z
  obtain ⟨p23_z, hc_z⟩ := hc_z
  replace hc_z := rn_iastore (q := 2) (am_cur_of (i := (82, 1, .iastore, (0, 0, 0), 0)) (by decide +kernel)) a3_z rfl hc_z
  obtain ⟨p24_z, hc_z⟩ := hc_z
  replace hc_z := rn_iinc (w := 3) (am_cur_of (i := (83, 3, .iinc 2 1, (0, 0, 0), 0)) (by decide +kernel)) g2_z (by decide) hc_z
  obtain ⟨_, s25_z, s26_z, g2_z, hc_z⟩ := hc_z
  replace g0_z := s25_z 0 _ (by decide) rfl g0_z
  replace g1_z := s25_z 1 _ (by decide) rfl g1_z
  clear s25_z s26_z
  replace hc_z := rn_goto (am_cur_of (i := (86, 3, .goto (-44), (22, 0, 0), 0)) (by decide +kernel)) hc_z
  replace hc_z := rn_iload_n (am_cur_of (i := (42, 1, .iload_n 2, (0, 0, 0), 0)) (by decide +kernel)) g2_z hc_z
  replace hc_z := rn_iconst (w := 4) (am_cur_of (i := (43, 1, .iconst 4, (0, 0, 0), 0)) (by decide +kernel)) (by decide) hc_z
  replace hc_z := rn_cmpF (am_cur_of (i := (44, 3, .if_icmp .ge 45, (51, 0, 0), 0)) (by decide +kernel)) (by decide) hc_z
  replace hc_z := rn_aload_n (am_cur_of (i := (47, 1, .aload_n 0, (0, 0, 0), 0)) (by decide +kernel)) g0_z hc_z
  replace hc_z := rn_getR (x := a + 1) (am_cur_of (i := (48, 3, .getfield 9, (5, 5, 480), 0)) (by decide +kernel)) (st_rf ac5_z rfl) hc_z
  replace hc_z := rn_iload_n (am_cur_of (i := (51, 1, .iload_n 2, (0, 0, 0), 0)) (by decide +kernel)) g2_z hc_z
  replace hc_z := rn_aload_n (am_cur_of (i := (52, 1, .aload_n 1, (0, 0, 0), 0)) (by decide +kernel)) g1_z hc_z
  replace hc_z := rn_getR (x := b + 1) (am_cur_of (i := (53, 3, .getfield 9, (5, 5, 480), 0)) (by decide +kernel)) (st_rf bc5_z rfl) hc_z
  replace hc_z := rn_iload_n (am_cur_of (i := (56, 1, .iload_n 2, (0, 0, 0), 0)) (by decide +kernel)) g2_z hc_z
  replace hc_z := rn_iaload (q := 3) (v := rg_v h (b + 1) 3) (am_cur_of (i := (57, 1, .iaload, (0, 0, 0), 0)) (by decide +kernel)) b1_z rfl ((rg_v_other (by omega)).trans ((rg_v_other (by omega)).trans ((rg_v_other (by omega)).trans ((rg_v_other (by omega)).trans ((rg_v_other (by omega)).trans ((rg_v_other (by omega)).trans ((rg_v_other (by omega)).trans ((rg_v_other (by omega)).trans ((rg_v_other (by omega)).trans ((rg_v_other (by omega)).trans ((rg_v_other (by omega)).trans ((rg_v_other (by omega)).trans ((rg_v_other (by omega)).trans ((rg_v_other (by omega)).trans (rfl))))))))))))))) hc_z
  obtain ⟨p27_z, hc_z⟩ := hc_z
  replace hc_z := rn_iastore (q := 3) (am_cur_of (i := (58, 1, .iastore, (0, 0, 0), 0)) (by decide +kernel)) a1_z rfl hc_z
  obtain ⟨p28_z, hc_z⟩ := hc_z
  replace hc_z := rn_aload_n (am_cur_of (i := (59, 1, .aload_n 0, (0, 0, 0), 0)) (by decide +kernel)) g0_z hc_z
  replace hc_z := rn_getR (x := a + 2) (am_cur_of (i := (60, 3, .getfield 15, (5, 6, 482), 0)) (by decide +kernel)) (st_rf ac6_z rfl) hc_z
  replace hc_z := rn_iload_n (am_cur_of (i := (63, 1, .iload_n 2, (0, 0, 0), 0)) (by decide +kernel)) g2_z hc_z
  replace hc_z := rn_aload_n (am_cur_of (i := (64, 1, .aload_n 1, (0, 0, 0), 0)) (by decide +kernel)) g1_z hc_z
  replace hc_z := rn_getR (x := b + 2) (am_cur_of (i := (65, 3, .getfield 15, (5, 6, 482), 0)) (by decide +kernel)) (st_rf bc6_z rfl) hc_z
  replace hc_z := rn_iload_n (am_cur_of (i := (68, 1, .iload_n 2, (0, 0, 0), 0)) (by decide +kernel)) g2_z hc_z
  replace hc_z := rn_iaload (q := 3) (v := rg_v h (b + 2) 3) (am_cur_of (i := (69, 1, .iaload, (0, 0, 0), 0)) (by decide +kernel)) b2_z rfl ((rg_v_other (by omega)).trans ((rg_v_other (by omega)).trans ((rg_v_other (by omega)).trans ((rg_v_other (by omega)).trans ((rg_v_other (by omega)).trans ((rg_v_other (by omega)).trans ((rg_v_other (by omega)).trans ((rg_v_other (by omega)).trans ((rg_v_other (by omega)).trans ((rg_v_other (by omega)).trans ((rg_v_other (by omega)).trans ((rg_v_other (by omega)).trans ((rg_v_other (by omega)).trans ((rg_v_other (by omega)).trans ((rg_v_other (by omega)).trans (rfl)))))))))))))))) hc_z
  obtain ⟨p29_z, hc_z⟩ := hc_z
  replace hc_z := rn_iastore (q := 3) (am_cur_of (i := (70, 1, .iastore, (0, 0, 0), 0)) (by decide +kernel)) a2_z rfl hc_z
  obtain ⟨p30_z, hc_z⟩ := hc_z
  replace hc_z := rn_aload_n (am_cur_of (i := (71, 1, .aload_n 0, (0, 0, 0), 0)) (by decide +kernel)) g0_z hc_z
  replace hc_z := rn_getR (x := a + 3) (am_cur_of (i := (72, 3, .getfield 18, (5, 7, 485), 0)) (by decide +kernel)) (st_rf ac7_z rfl) hc_z
  replace hc_z := rn_iload_n (am_cur_of (i := (75, 1, .iload_n 2, (0, 0, 0), 0)) (by decide +kernel)) g2_z hc_z
  replace hc_z := rn_aload_n (am_cur_of (i := (76, 1, .aload_n 1, (0, 0, 0), 0)) (by decide +kernel)) g1_z hc_z
  replace hc_z := rn_getR (x := b + 3) (am_cur_of (i := (77, 3, .getfield 18, (5, 7, 485), 0)) (by decide +kernel)) (st_rf bc7_z rfl) hc_z
  replace hc_z := rn_iload_n (am_cur_of (i := (80, 1, .iload_n 2, (0, 0, 0), 0)) (by decide +kernel)) g2_z hc_z
  replace hc_z := rn_iaload (q := 3) (v := rg_v h (b + 3) 3) (am_cur_of (i := (81, 1, .iaload, (0, 0, 0), 0)) (by decide +kernel)) b3_z rfl ((rg_v_other (by omega)).trans ((rg_v_other (by omega)).trans ((rg_v_other (by omega)).trans ((rg_v_other (by omega)).trans ((rg_v_other (by omega)).trans ((rg_v_other (by omega)).trans ((rg_v_other (by omega)).trans ((rg_v_other (by omega)).trans ((rg_v_other (by omega)).trans ((rg_v_other (by omega)).trans ((rg_v_other (by omega)).trans ((rg_v_other (by omega)).trans ((rg_v_other (by omega)).trans ((rg_v_other (by omega)).trans ((rg_v_other (by omega)).trans ((rg_v_other (by omega)).trans (rfl))))))))))))))))) hc_z
  obtain ⟨p31_z, hc_z⟩ := hc_z
  replace hc_z := rn_iastore (q := 3) (am_cur_of (i := (82, 1, .iastore, (0, 0, 0), 0)) (by decide +kernel)) a3_z rfl hc_z
  obtain ⟨p32_z, hc_z⟩ := hc_z
  replace hc_z := rn_iinc (w := 4) (am_cur_of (i := (83, 3, .iinc 2 1, (0, 0, 0), 0)) (by decide +kernel)) g2_z (by decide) hc_z
  obtain ⟨_, s33_z, s34_z, g2_z, hc_z⟩ := hc_z
  replace g0_z := s33_z 0 _ (by decide) rfl g0_z
  replace g1_z := s33_z 1 _ (by decide) rfl g1_z
  clear s33_z s34_z
  replace hc_z := rn_goto (am_cur_of (i := (86, 3, .goto (-44), (22, 0, 0), 0)) (by decide +kernel)) hc_z
  replace hc_z := rn_iload_n (am_cur_of (i := (42, 1, .iload_n 2, (0, 0, 0), 0)) (by decide +kernel)) g2_z hc_z
  replace hc_z := rn_iconst (w := 4) (am_cur_of (i := (43, 1, .iconst 4, (0, 0, 0), 0)) (by decide +kernel)) (by decide) hc_z
  replace hc_z := rn_cmpT (am_cur_of (i := (44, 3, .if_icmp .ge 45, (51, 0, 0), 0)) (by decide +kernel)) (by decide) hc_z
  replace hc_z := rn_vret (am_cur_of (i := (89, 1, .return_, (0, 0, 0), 0)) (by decide +kernel)) hc_z
  obtain ⟨e35_z, e36_z⟩ := hc_z
  refine ⟨fun j hj_z => ?_, fun o k ho => ?_⟩
  · rw [e36_z]
    match j, hj_z with
    | 0, _ => exact ((rg_v_other (by omega)).trans ((rg_v_other (by omega)).trans ((rg_v_other (by omega)).trans ((rg_v_other (by omega)).trans ((rg_v_other (by omega)).trans ((rg_v_other (by omega)).trans ((rg_v_other (by omega)).trans ((rg_v_other (by omega)).trans ((rg_v_other (by omega)).trans ((rg_v_other (by omega)).trans ((rg_v_other (by omega)).trans ((rg_v_other (by omega)).trans ((rg_v_other (by omega)).trans ((rg_v_other (by omega)).trans ((rg_v_other (by omega)).trans ((rg_v_other (by omega)).trans (rg_v_self)))))))))))))))))
    | 1, _ => exact ((rg_v_other (by omega)).trans ((rg_v_other (by omega)).trans ((rg_v_other (by omega)).trans ((rg_v_other (by omega)).trans ((rg_v_other (by omega)).trans ((rg_v_other (by omega)).trans ((rg_v_other (by omega)).trans ((rg_v_other (by omega)).trans ((rg_v_other (by omega)).trans ((rg_v_other (by omega)).trans ((rg_v_other (by omega)).trans ((rg_v_other (by omega)).trans ((rg_v_other (by omega)).trans ((rg_v_other (by omega)).trans ((rg_v_other (by omega)).trans (rg_v_self))))))))))))))))
    | 2, _ => exact ((rg_v_other (by omega)).trans ((rg_v_other (by omega)).trans ((rg_v_other (by omega)).trans ((rg_v_other (by omega)).trans ((rg_v_other (by omega)).trans ((rg_v_other (by omega)).trans ((rg_v_other (by omega)).trans ((rg_v_other (by omega)).trans ((rg_v_other (by omega)).trans ((rg_v_other (by omega)).trans ((rg_v_other (by omega)).trans ((rg_v_other (by omega)).trans ((rg_v_other (by omega)).trans ((rg_v_other (by omega)).trans (rg_v_self)))))))))))))))
    | 3, _ => exact ((rg_v_other (by omega)).trans ((rg_v_other (by omega)).trans ((rg_v_other (by omega)).trans ((rg_v_other (by omega)).trans ((rg_v_other (by omega)).trans ((rg_v_other (by omega)).trans ((rg_v_other (by omega)).trans ((rg_v_other (by omega)).trans ((rg_v_other (by omega)).trans ((rg_v_other (by omega)).trans ((rg_v_other (by omega)).trans ((rg_v_other (by omega)).trans ((rg_v_other (by omega)).trans (rg_v_self))))))))))))))
    | 4, _ => exact ((rg_v_other (by omega)).trans ((rg_v_other (by omega)).trans ((rg_v_other (by omega)).trans ((rg_v_other (by omega)).trans ((rg_v_other (by omega)).trans ((rg_v_other (by omega)).trans ((rg_v_other (by omega)).trans ((rg_v_other (by omega)).trans ((rg_v_other (by omega)).trans ((rg_v_other (by omega)).trans ((rg_v_other (by omega)).trans ((rg_v_other (by omega)).trans (rg_v_self)))))))))))))
    | 5, _ => exact ((rg_v_other (by omega)).trans ((rg_v_other (by omega)).trans ((rg_v_other (by omega)).trans ((rg_v_other (by omega)).trans ((rg_v_other (by omega)).trans ((rg_v_other (by omega)).trans ((rg_v_other (by omega)).trans ((rg_v_other (by omega)).trans ((rg_v_other (by omega)).trans ((rg_v_other (by omega)).trans ((rg_v_other (by omega)).trans (rg_v_self))))))))))))
    | 6, _ => exact ((rg_v_other (by omega)).trans ((rg_v_other (by omega)).trans ((rg_v_other (by omega)).trans ((rg_v_other (by omega)).trans ((rg_v_other (by omega)).trans ((rg_v_other (by omega)).trans ((rg_v_other (by omega)).trans ((rg_v_other (by omega)).trans (rg_v_self)))))))))
    | 7, _ => exact ((rg_v_other (by omega)).trans ((rg_v_other (by omega)).trans ((rg_v_other (by omega)).trans ((rg_v_other (by omega)).trans ((rg_v_other (by omega)).trans (rg_v_self))))))
    | 8, _ => exact ((rg_v_other (by omega)).trans ((rg_v_other (by omega)).trans (rg_v_self)))
    | 9, _ => exact ((rg_v_other (by omega)).trans ((rg_v_other (by omega)).trans ((rg_v_other (by omega)).trans ((rg_v_other (by omega)).trans ((rg_v_other (by omega)).trans ((rg_v_other (by omega)).trans ((rg_v_other (by omega)).trans ((rg_v_other (by omega)).trans ((rg_v_other (by omega)).trans ((rg_v_other (by omega)).trans (rg_v_self)))))))))))
    | 10, _ => exact ((rg_v_other (by omega)).trans ((rg_v_other (by omega)).trans ((rg_v_other (by omega)).trans ((rg_v_other (by omega)).trans ((rg_v_other (by omega)).trans ((rg_v_other (by omega)).trans ((rg_v_other (by omega)).trans (rg_v_self))))))))
    | 11, _ => exact ((rg_v_other (by omega)).trans ((rg_v_other (by omega)).trans ((rg_v_other (by omega)).trans ((rg_v_other (by omega)).trans (rg_v_self)))))
    | 12, _ => exact ((rg_v_other (by omega)).trans (rg_v_self))
    | 13, _ => exact ((rg_v_other (by omega)).trans ((rg_v_other (by omega)).trans ((rg_v_other (by omega)).trans ((rg_v_other (by omega)).trans ((rg_v_other (by omega)).trans ((rg_v_other (by omega)).trans ((rg_v_other (by omega)).trans ((rg_v_other (by omega)).trans ((rg_v_other (by omega)).trans (rg_v_self))))))))))
    | 14, _ => exact ((rg_v_other (by omega)).trans ((rg_v_other (by omega)).trans ((rg_v_other (by omega)).trans ((rg_v_other (by omega)).trans ((rg_v_other (by omega)).trans ((rg_v_other (by omega)).trans (rg_v_self)))))))
    | 15, _ => exact ((rg_v_other (by omega)).trans ((rg_v_other (by omega)).trans ((rg_v_other (by omega)).trans (rg_v_self))))
    | 16, _ => exact rg_v_self
    | j + 17, hj_z => omega
  · rw [e36_z]
    exact (up_ne (by omega)).trans ((up_ne (by omega)).trans ((up_ne (by omega)).trans ((up_ne (by omega)).trans ((up_ne (by omega)).trans ((up_ne (by omega)).trans ((up_ne (by omega)).trans ((up_ne (by omega)).trans ((up_ne (by omega)).trans ((up_ne (by omega)).trans ((up_ne (by omega)).trans ((up_ne (by omega)).trans ((up_ne (by omega)).trans ((up_ne (by omega)).trans ((up_ne (by omega)).trans ((up_ne (by omega)).trans ((up_ne (by omega)).trans (rfl)))))))))))))))))
theorem cS_e {h h' : am_H} {a : Nat} (e : ∀ o k, a ≤ o → o ≤ a + 3 → h' o k = h o k) (j : Nat) : cS_z h' a j = cS_z h a j := by
  unfold cS_z rg_v
  rw [e a j (by omega) (by omega), e (a + 1) _ (by omega) (by omega), e (a + 2) _ (by omega) (by omega), e (a + 3) _ (by omega) (by omega)]
theorem hp_82 {n : Nat} {r : Option Value} {h h' : am_H} {nx sz : Int32} (en : rg_v h 60 1 = nx) (es_z : rg_v h 60 2 = sz) (n0_z : 0 ≤ nx.toInt) (n1_z : nx.toInt < 20) (s0_z : 0 ≤ sz.toInt) (s1_z : sz.toInt ≤ 20) (hc_z : rn n am_m82 0 (lv_args 0 [.ref 60, .ref 48]) [] h r h') : (∀ j, j < 17 → cS_z h' (62 + 4 * nx.toNatClampNeg) j = cS_z h 48 j) ∧ (rg_v h' 60 1).toInt = (nx.toInt + 1) % 20 ∧ (rg_v h' 60 2).toInt = min (sz.toInt + 1) 20 ∧ ∀ o k, ¬ (62 + 4 * nx.toNatClampNeg ≤ o ∧ o ≤ 62 + 4 * nx.toNatClampNeg + 3) → ¬ (o = 60 ∧ (k = 1 ∨ k = 2)) → h' o k = h o k := by
  have z1_z : (1 : Int32).toInt = 1 := by decide
  have z20_z : (20 : Int32).toInt = 20 := by decide
  have g0_z : am_get (lv_args 0 [.ref 60, .ref 48]) 0 = some (.ref 60) := rfl
  have g1_z : am_get (lv_args 0 [.ref 60, .ref 48]) 1 = some (.ref 48) := rfl
  replace hc_z := rn_aload_n (am_cur_of (i := (0, 1, .aload_n 0, (0, 0, 0), 0)) (by decide +kernel)) g0_z hc_z
  replace hc_z := rn_getR (x := 61) (am_cur_of (i := (1, 3, .getfield 11, (6, 0, 513), 0)) (by decide +kernel)) (by decide +kernel) hc_z
  replace hc_z := rn_aload_n (am_cur_of (i := (4, 1, .aload_n 0, (0, 0, 0), 0)) (by decide +kernel)) g0_z hc_z
  replace hc_z := rn_getI (v := nx) (am_cur_of (i := (5, 3, .getfield 22, (6, 1, 514), 0)) (by decide +kernel)) (by decide +kernel) en hc_z
  replace hc_z := rn_aaload (s := "AirBed$State") (N := 20) (q := nx.toNatClampNeg) (am_cur_of (i := (8, 1, .aaload, (0, 0, 0), 0)) (by decide +kernel)) (by decide +kernel) rfl hc_z
  obtain ⟨p37_z, hc_z⟩ := hc_z
  rw [hs_ref (rn_G hc_z) p37_z.2] at hc_z
  replace hc_z := rn_aload_n (am_cur_of (i := (9, 1, .aload_n 1, (0, 0, 0), 0)) (by decide +kernel)) g1_z hc_z
  replace hc_z := rn_callV (M' := am_m64) (o := (62 + 4 * nx.toNatClampNeg)) (ar := [.ref 48]) (rest := []) (L := lv_args 0 [.ref (62 + 4 * nx.toNatClampNeg), .ref 48]) (am_cur_of (i := (10, 3, .invokevirtual 25, (64, 1000, 3), 0)) (by decide +kernel)) rfl rfl rfl rfl hc_z
  obtain ⟨r38_z, h39_z, q40_z, hc_z⟩ := hc_z
  have vo := rn_void rfl q40_z
  subst vo
  have cn := rt_cl n0_z
  obtain ⟨c1_z, c2_z⟩ := cp_64 (st_hi nx.toNatClampNeg p37_z.2) st_48 (by omega) q40_z
  have en2_z : rg_v h39_z 60 1 = nx := by
    unfold rg_v at en ⊢
    rw [c2_z 60 1 (by omega)]
    exact en
  have es2_z : rg_v h39_z 60 2 = sz := by
    unfold rg_v at es_z ⊢
    rw [c2_z 60 2 (by omega)]
    exact es_z
  replace hc_z : rn _ _ _ _ [] _ _ _ := hc_z
  replace hc_z := rn_aload_n (am_cur_of (i := (13, 1, .aload_n 0, (0, 0, 0), 0)) (by decide +kernel)) g0_z hc_z
  replace hc_z := rn_aload_n (am_cur_of (i := (14, 1, .aload_n 0, (0, 0, 0), 0)) (by decide +kernel)) g0_z hc_z
  replace hc_z := rn_getI (v := nx) (am_cur_of (i := (15, 3, .getfield 22, (6, 1, 514), 0)) (by decide +kernel)) (by decide +kernel) en2_z hc_z
  replace hc_z := rn_iconst (w := 1) (am_cur_of (i := (18, 1, .iconst 1, (0, 0, 0), 0)) (by decide +kernel)) (by decide) hc_z
  replace hc_z := rn_iadd (w := nx + 1) (am_cur_of (i := (19, 1, .iadd, (0, 0, 0), 0)) (by decide +kernel)) rfl hc_z
  replace hc_z := rn_bipush (w := 20) (am_cur_of (i := (20, 2, .bipush 20, (0, 0, 0), 0)) (by decide +kernel)) (by decide) hc_z
  replace hc_z := rn_irem (w := (nx + 1) - (nx + 1) / 20 * 20) (am_cur_of (i := (22, 1, .irem, (0, 0, 0), 0)) (by decide +kernel)) rfl hc_z
  obtain ⟨d41_z, hc_z⟩ := hc_z
  replace hc_z := rn_put (am_cur_of (i := (23, 3, .putfield 22, (6, 1, 514), 0)) (by decide +kernel)) (by decide +kernel) hc_z
  replace hc_z := rn_aload_n (am_cur_of (i := (26, 1, .aload_n 0, (0, 0, 0), 0)) (by decide +kernel)) g0_z hc_z
  replace hc_z := rn_aload_n (am_cur_of (i := (27, 1, .aload_n 0, (0, 0, 0), 0)) (by decide +kernel)) g0_z hc_z
  replace hc_z := rn_getI (v := sz) (am_cur_of (i := (28, 3, .getfield 18, (6, 2, 515), 0)) (by decide +kernel)) (by decide +kernel) ((rg_v_other (by omega)).trans (es2_z)) hc_z
  replace hc_z := rn_iconst (w := 1) (am_cur_of (i := (31, 1, .iconst 1, (0, 0, 0), 0)) (by decide +kernel)) (by decide) hc_z
  replace hc_z := rn_iadd (w := sz + 1) (am_cur_of (i := (32, 1, .iadd, (0, 0, 0), 0)) (by decide +kernel)) rfl hc_z
  replace hc_z := rn_bipush (w := 20) (am_cur_of (i := (33, 2, .bipush 20, (0, 0, 0), 0)) (by decide +kernel)) (by decide) hc_z
  obtain ⟨m42_z, e43_z⟩ : ∃ mq : Int32, (if (20 : Int32) < sz + 1 then 20 else sz + 1) = mq := ⟨_, rfl⟩
  replace hc_z := rn_min (w := m42_z) (am_cur_of (i := (35, 3, .invokestatic 29, (0, 1001, 2), 0)) (by decide +kernel)) e43_z hc_z
  replace hc_z := rn_put (am_cur_of (i := (38, 3, .putfield 18, (6, 2, 515), 0)) (by decide +kernel)) (by decide +kernel) hc_z
  replace hc_z := rn_vret (am_cur_of (i := (41, 1, .return_, (0, 0, 0), 0)) (by decide +kernel)) hc_z
  obtain ⟨e44_z, e45_z⟩ := hc_z
  have a1_z := ab_iadd (x := nx) (y := 1) (by omega) (by omega)
  have r1_z := lk_rem (x := nx + 1) (y := 20) (by omega) (by omega)
  rw [z20_z] at r1_z
  have a2_z := ab_iadd (x := sz) (y := 1) (by omega) (by omega)
  refine ⟨fun j hj_z => ?_, ?_, ?_, fun o k ho hk_z => ?_⟩
  · rw [e45_z]
    refine Eq.trans (cS_e (fun o k p1_z p2_z => (up_ne (by omega)).trans (up_ne (by omega))) j) (c1_z j hj_z)
  · rw [e45_z, rg_v_other (by omega), rg_v_self, r1_z]
    omega
  · rw [e45_z, rg_v_self]
    have zz := e43_z
    split at zz
    · rename_i q
      have q2_z := ab_lt_iff.mp q
      rw [← zz]
      omega
    · rename_i q
      have q2_z : ¬ _ := fun y => q (ab_lt_iff.mpr y)
      rw [← zz]
      omega
  · rw [e45_z]
    exact (up_ne (by omega)).trans ((up_ne (by omega)).trans (c2_z o k ho))
theorem hp_138 {n : Nat} {r : Option Value} {h h' : am_H} {nx sz : Int32} (en : rg_v h 60 1 = nx) (es_z : rg_v h 60 2 = sz) (n0_z : 0 ≤ nx.toInt) (n1_z : nx.toInt < 20) (s0_z : 0 ≤ sz.toInt) (s1_z : sz.toInt ≤ 20) (hc_z : rn n am_m138 0 (lv_args 0 [.ref 60, .ref 48]) [] h r h') : (sz = 0 ∧ r = some (.int 0) ∧ h' = h) ∨ (¬ sz = 0 ∧ r = some (.int 1) ∧ (∀ j, j < 17 → cS_z h' 48 j = cS_z h (62 + 4 * ((nx.toInt + 19) % 20).toNat) j) ∧ (rg_v h' 60 1).toInt = (nx.toInt + 19) % 20 ∧ (rg_v h' 60 2).toInt = sz.toInt - 1 ∧ ∀ o k, ¬ (48 ≤ o ∧ o ≤ 48 + 3) → ¬ (o = 60 ∧ (k = 1 ∨ k = 2)) → h' o k = h o k) := by
  have z0_z : (0 : Int32).toInt = 0 := by decide
  have z1_z : (1 : Int32).toInt = 1 := by decide
  have z20_z : (20 : Int32).toInt = 20 := by decide
  have g0_z : am_get (lv_args 0 [.ref 60, .ref 48]) 0 = some (.ref 60) := rfl
  have g1_z : am_get (lv_args 0 [.ref 60, .ref 48]) 1 = some (.ref 48) := rfl
  replace hc_z := rn_aload_n (am_cur_of (i := (0, 1, .aload_n 0, (0, 0, 0), 0)) (by decide +kernel)) g0_z hc_z
  replace hc_z := rn_getI (v := sz) (am_cur_of (i := (1, 3, .getfield 18, (6, 2, 515), 0)) (by decide +kernel)) (by decide +kernel) es_z hc_z
  replace hc_z := rn_if (am_cur_of (i := (4, 3, .ifCond .ne 5, (5, 0, 0), 0)) (by decide +kernel)) hc_z
  rcases hc_z with ⟨b46_z, hc_z⟩ | ⟨b46_z, hc_z⟩
  · replace b46_z : ¬ sz = (0 : Int32) ∧ ¬ sz.toInt = (0 : Int32).toInt := b46_z
    replace hc_z := rn_aload_n (am_cur_of (i := (9, 1, .aload_n 0, (0, 0, 0), 0)) (by decide +kernel)) g0_z hc_z
    replace hc_z := rn_aload_n (am_cur_of (i := (10, 1, .aload_n 0, (0, 0, 0), 0)) (by decide +kernel)) g0_z hc_z
    replace hc_z := rn_getI (v := nx) (am_cur_of (i := (11, 3, .getfield 22, (6, 1, 514), 0)) (by decide +kernel)) (by decide +kernel) en hc_z
    replace hc_z := rn_bipush (w := 20) (am_cur_of (i := (14, 2, .bipush 20, (0, 0, 0), 0)) (by decide +kernel)) (by decide) hc_z
    replace hc_z := rn_iadd (w := nx + 20) (am_cur_of (i := (16, 1, .iadd, (0, 0, 0), 0)) (by decide +kernel)) rfl hc_z
    replace hc_z := rn_iconst (w := 1) (am_cur_of (i := (17, 1, .iconst 1, (0, 0, 0), 0)) (by decide +kernel)) (by decide) hc_z
    replace hc_z := rn_isub (w := (nx + 20) - 1) (am_cur_of (i := (18, 1, .isub, (0, 0, 0), 0)) (by decide +kernel)) rfl hc_z
    replace hc_z := rn_bipush (w := 20) (am_cur_of (i := (19, 2, .bipush 20, (0, 0, 0), 0)) (by decide +kernel)) (by decide) hc_z
    replace hc_z := rn_irem (w := ((nx + 20) - 1) - ((nx + 20) - 1) / 20 * 20) (am_cur_of (i := (21, 1, .irem, (0, 0, 0), 0)) (by decide +kernel)) rfl hc_z
    obtain ⟨d47_z, hc_z⟩ := hc_z
    replace hc_z := rn_put (am_cur_of (i := (22, 3, .putfield 22, (6, 1, 514), 0)) (by decide +kernel)) (by decide +kernel) hc_z
    replace hc_z := rn_aload_n (am_cur_of (i := (25, 1, .aload_n 1, (0, 0, 0), 0)) (by decide +kernel)) g1_z hc_z
    replace hc_z := rn_aload_n (am_cur_of (i := (26, 1, .aload_n 0, (0, 0, 0), 0)) (by decide +kernel)) g0_z hc_z
    replace hc_z := rn_getR (x := 61) (am_cur_of (i := (27, 3, .getfield 11, (6, 0, 513), 0)) (by decide +kernel)) (by decide +kernel) hc_z
    replace hc_z := rn_aload_n (am_cur_of (i := (30, 1, .aload_n 0, (0, 0, 0), 0)) (by decide +kernel)) g0_z hc_z
    replace hc_z := rn_getI (v := ((nx + 20) - 1) - ((nx + 20) - 1) / 20 * 20) (am_cur_of (i := (31, 3, .getfield 22, (6, 1, 514), 0)) (by decide +kernel)) (by decide +kernel) rg_v_self hc_z
    replace hc_z := rn_aaload (s := "AirBed$State") (N := 20) (q := (((nx + 20) - 1) - ((nx + 20) - 1) / 20 * 20).toNatClampNeg) (am_cur_of (i := (34, 1, .aaload, (0, 0, 0), 0)) (by decide +kernel)) (by decide +kernel) rfl hc_z
    obtain ⟨p48_z, hc_z⟩ := hc_z
    rw [hs_ref (rn_G hc_z) p48_z.2] at hc_z
    replace hc_z := rn_callV (M' := am_m64) (o := 48) (ar := [.ref (62 + 4 * (((nx + 20) - 1) - ((nx + 20) - 1) / 20 * 20).toNatClampNeg)]) (rest := []) (L := lv_args 0 [.ref 48, .ref (62 + 4 * (((nx + 20) - 1) - ((nx + 20) - 1) / 20 * 20).toNatClampNeg)]) (am_cur_of (i := (35, 3, .invokevirtual 25, (64, 1000, 3), 0)) (by decide +kernel)) rfl rfl rfl rfl hc_z
    obtain ⟨r49_z, h50_z, q51_z, hc_z⟩ := hc_z
    have vo := rn_void rfl q51_z
    subst vo
    have a1_z := ab_iadd (x := nx) (y := 20) (by omega) (by omega)
    have a2_z := ab_isub (x := nx + 20) (y := 1) (by omega) (by omega)
    have r1_z := lk_rem (x := nx + 20 - 1) (y := 20) (by omega) (by omega)
    rw [z20_z] at r1_z
    have cn := rt_cl (x := ((nx + 20) - 1) - ((nx + 20) - 1) / 20 * 20) (by rw [r1_z]; omega)
    obtain ⟨c1_z, c2_z⟩ := cp_64 st_48 (st_hi (((nx + 20) - 1) - ((nx + 20) - 1) / 20 * 20).toNatClampNeg p48_z.2) (by omega) q51_z
    have es2_z : rg_v h50_z 60 2 = sz := by
      unfold rg_v at es_z ⊢
      rw [c2_z 60 2 (by omega), up_ne (by omega)]
      exact es_z
    replace hc_z : rn _ _ _ _ [] _ _ _ := hc_z
    replace hc_z := rn_aload_n (am_cur_of (i := (38, 1, .aload_n 0, (0, 0, 0), 0)) (by decide +kernel)) g0_z hc_z
    replace hc_z := rn_dup (am_cur_of (i := (39, 1, .dup, (0, 0, 0), 0)) (by decide +kernel)) hc_z
    replace hc_z := rn_getI (v := sz) (am_cur_of (i := (40, 3, .getfield 18, (6, 2, 515), 0)) (by decide +kernel)) (by decide +kernel) es2_z hc_z
    replace hc_z := rn_iconst (w := 1) (am_cur_of (i := (43, 1, .iconst 1, (0, 0, 0), 0)) (by decide +kernel)) (by decide) hc_z
    replace hc_z := rn_isub (w := sz - 1) (am_cur_of (i := (44, 1, .isub, (0, 0, 0), 0)) (by decide +kernel)) rfl hc_z
    replace hc_z := rn_put (am_cur_of (i := (45, 3, .putfield 18, (6, 2, 515), 0)) (by decide +kernel)) (by decide +kernel) hc_z
    replace hc_z := rn_iconst (w := 1) (am_cur_of (i := (48, 1, .iconst 1, (0, 0, 0), 0)) (by decide +kernel)) (by decide) hc_z
    replace hc_z := rn_iret (am_cur_of (i := (49, 1, .ireturn, (0, 0, 0), 0)) (by decide +kernel)) hc_z
    obtain ⟨e52_z, e53_z⟩ := hc_z
    have a3_z := ab_isub (x := sz) (y := 1) (by omega) (by omega)
    have eq2_z : (((nx + 20) - 1) - ((nx + 20) - 1) / 20 * 20).toNatClampNeg = ((nx.toInt + 19) % 20).toNat := by omega
    rw [eq2_z] at c1_z
    refine Or.inr ⟨b46_z.1, e52_z, fun j hj_z => ?_, ?_, ?_, fun o k ho hk_z => ?_⟩
    · rw [e53_z]
      refine Eq.trans (cS_e (fun o k p1_z p2_z => up_ne (by omega)) j) ((c1_z j hj_z).trans ?_)
      exact cS_e (fun o k p1_z p2_z => up_ne (by omega)) j
    · rw [e53_z, rg_v_other (by omega)]
      unfold rg_v
      rw [c2_z 60 1 (by omega), am_up_self]
      show (((nx + 20) - 1) - ((nx + 20) - 1) / 20 * 20).toInt = _
      rw [r1_z]
      omega
    · rw [e53_z, rg_v_self]
      omega
    · rw [e53_z]
      exact (up_ne (by omega)).trans ((c2_z o k ho).trans (up_ne (by omega)))
  · replace b46_z : sz = (0 : Int32) ∧ sz.toInt = (0 : Int32).toInt := b46_z
    replace hc_z := rn_iconst (w := 0) (am_cur_of (i := (7, 1, .iconst 0, (0, 0, 0), 0)) (by decide +kernel)) (by decide) hc_z
    replace hc_z := rn_iret (am_cur_of (i := (8, 1, .ireturn, (0, 0, 0), 0)) (by decide +kernel)) hc_z
    obtain ⟨e54_z, e55_z⟩ := hc_z
    exact Or.inl ⟨b46_z.1, e54_z, e55_z⟩
/-- bed b's places -/
def bB (b o k : Nat) : Bool := match o with
  | 188 => Nat.beq k b
  | 189 => Nat.beq k b
  | 190 => Nat.beq k b
  | 194 => Nat.beq k b
  | 191 => Nat.ble (4 * b) k && Nat.ble k (4 * b + 3)
  | 192 => Nat.ble (4 * b) k && Nat.ble k (4 * b + 3)
  | 193 => Nat.ble (4 * b) k && Nat.ble k (4 * b + 3)
  | _ => false
theorem bB_ne {b o k o' k' : Nat} (h : bB b o k = false) (h' : bB b o' k' = true) : ¬ (o = o' ∧ k = k') := by
  rintro ⟨e1_z, e2_z⟩
  rw [e1_z, e2_z, h'] at h
  cases h
theorem cb_197_10 {n : Nat} {r : Option Value} {g g' : am_H} (hm_z : rn n am_m197 0 (lv_args 0 [.ref 164, .int 1, .int 0]) [] g r g') : (∀ j, j < 17 → mS g' 1 j = mS g 0 j) ∧ ∀ o k, bB 1 o k = false → g' o k = g o k := by
  have g0_z : am_get (lv_args 0 [.ref 164, .int 1, .int 0]) 0 = some (.ref 164) := rfl
  have g1_z : am_get (lv_args 0 [.ref 164, .int 1, .int 0]) 1 = some (.int 1) := rfl
  have g2_z : am_get (lv_args 0 [.ref 164, .int 1, .int 0]) 2 = some (.int 0) := rfl
  replace hm_z := rn_aload_n (am_cur_of (i := (0, 1, .aload_n 0, (0, 0, 0), 0)) (by decide +kernel)) g0_z hm_z
  replace hm_z := rn_getR (x := 188) (am_cur_of (i := (1, 3, .getfield 85, (12, 50, 1434), 0)) (by decide +kernel)) (by decide +kernel) hm_z
  replace hm_z := rn_iload_n (am_cur_of (i := (4, 1, .iload_n 1, (0, 0, 0), 0)) (by decide +kernel)) g1_z hm_z
  replace hm_z := rn_aload_n (am_cur_of (i := (5, 1, .aload_n 0, (0, 0, 0), 0)) (by decide +kernel)) g0_z hm_z
  replace hm_z := rn_getR (x := 188) (am_cur_of (i := (6, 3, .getfield 85, (12, 50, 1434), 0)) (by decide +kernel)) (by decide +kernel) hm_z
  replace hm_z := rn_iload_n (am_cur_of (i := (9, 1, .iload_n 2, (0, 0, 0), 0)) (by decide +kernel)) g2_z hm_z
  replace hm_z := rn_iaload (N := 4) (q := 0) (v := rg_v g 188 0) (am_cur_of (i := (10, 1, .iaload, (0, 0, 0), 0)) (by decide +kernel)) (by decide +kernel) rfl rfl hm_z
  obtain ⟨p56_z, hm_z⟩ := hm_z
  replace hm_z := rn_iastore (N := 4) (q := 1) (am_cur_of (i := (11, 1, .iastore, (0, 0, 0), 0)) (by decide +kernel)) (by decide +kernel) rfl hm_z
  obtain ⟨p57_z, hm_z⟩ := hm_z
  replace hm_z := rn_aload_n (am_cur_of (i := (12, 1, .aload_n 0, (0, 0, 0), 0)) (by decide +kernel)) g0_z hm_z
  replace hm_z := rn_getR (x := 189) (am_cur_of (i := (13, 3, .getfield 88, (12, 51, 1435), 0)) (by decide +kernel)) (by decide +kernel) hm_z
  replace hm_z := rn_iload_n (am_cur_of (i := (16, 1, .iload_n 1, (0, 0, 0), 0)) (by decide +kernel)) g1_z hm_z
  replace hm_z := rn_aload_n (am_cur_of (i := (17, 1, .aload_n 0, (0, 0, 0), 0)) (by decide +kernel)) g0_z hm_z
  replace hm_z := rn_getR (x := 189) (am_cur_of (i := (18, 3, .getfield 88, (12, 51, 1435), 0)) (by decide +kernel)) (by decide +kernel) hm_z
  replace hm_z := rn_iload_n (am_cur_of (i := (21, 1, .iload_n 2, (0, 0, 0), 0)) (by decide +kernel)) g2_z hm_z
  replace hm_z := rn_iaload (N := 4) (q := 0) (v := rg_v g 189 0) (am_cur_of (i := (22, 1, .iaload, (0, 0, 0), 0)) (by decide +kernel)) (by decide +kernel) rfl ((rg_v_other (by omega)).trans (rfl)) hm_z
  obtain ⟨p58_z, hm_z⟩ := hm_z
  replace hm_z := rn_iastore (N := 4) (q := 1) (am_cur_of (i := (23, 1, .iastore, (0, 0, 0), 0)) (by decide +kernel)) (by decide +kernel) rfl hm_z
  obtain ⟨p59_z, hm_z⟩ := hm_z
  replace hm_z := rn_aload_n (am_cur_of (i := (24, 1, .aload_n 0, (0, 0, 0), 0)) (by decide +kernel)) g0_z hm_z
  replace hm_z := rn_getR (x := 190) (am_cur_of (i := (25, 3, .getfield 91, (12, 52, 1436), 0)) (by decide +kernel)) (by decide +kernel) hm_z
  replace hm_z := rn_iload_n (am_cur_of (i := (28, 1, .iload_n 1, (0, 0, 0), 0)) (by decide +kernel)) g1_z hm_z
  replace hm_z := rn_aload_n (am_cur_of (i := (29, 1, .aload_n 0, (0, 0, 0), 0)) (by decide +kernel)) g0_z hm_z
  replace hm_z := rn_getR (x := 190) (am_cur_of (i := (30, 3, .getfield 91, (12, 52, 1436), 0)) (by decide +kernel)) (by decide +kernel) hm_z
  replace hm_z := rn_iload_n (am_cur_of (i := (33, 1, .iload_n 2, (0, 0, 0), 0)) (by decide +kernel)) g2_z hm_z
  replace hm_z := rn_iaload (N := 4) (q := 0) (v := rg_v g 190 0) (am_cur_of (i := (34, 1, .iaload, (0, 0, 0), 0)) (by decide +kernel)) (by decide +kernel) rfl ((rg_v_other (by omega)).trans ((rg_v_other (by omega)).trans (rfl))) hm_z
  obtain ⟨p60_z, hm_z⟩ := hm_z
  replace hm_z := rn_iastore (N := 4) (q := 1) (am_cur_of (i := (35, 1, .iastore, (0, 0, 0), 0)) (by decide +kernel)) (by decide +kernel) rfl hm_z
  obtain ⟨p61_z, hm_z⟩ := hm_z
  replace hm_z := rn_aload_n (am_cur_of (i := (36, 1, .aload_n 0, (0, 0, 0), 0)) (by decide +kernel)) g0_z hm_z
  replace hm_z := rn_getR (x := 194) (am_cur_of (i := (37, 3, .getfield 103, (12, 56, 1440), 0)) (by decide +kernel)) (by decide +kernel) hm_z
  replace hm_z := rn_iload_n (am_cur_of (i := (40, 1, .iload_n 1, (0, 0, 0), 0)) (by decide +kernel)) g1_z hm_z
  replace hm_z := rn_aload_n (am_cur_of (i := (41, 1, .aload_n 0, (0, 0, 0), 0)) (by decide +kernel)) g0_z hm_z
  replace hm_z := rn_getR (x := 194) (am_cur_of (i := (42, 3, .getfield 103, (12, 56, 1440), 0)) (by decide +kernel)) (by decide +kernel) hm_z
  replace hm_z := rn_iload_n (am_cur_of (i := (45, 1, .iload_n 2, (0, 0, 0), 0)) (by decide +kernel)) g2_z hm_z
  replace hm_z := rn_iaload (N := 4) (q := 0) (v := rg_v g 194 0) (am_cur_of (i := (46, 1, .iaload, (0, 0, 0), 0)) (by decide +kernel)) (by decide +kernel) rfl ((rg_v_other (by omega)).trans ((rg_v_other (by omega)).trans ((rg_v_other (by omega)).trans (rfl)))) hm_z
  obtain ⟨p62_z, hm_z⟩ := hm_z
  replace hm_z := rn_iastore (N := 4) (q := 1) (am_cur_of (i := (47, 1, .iastore, (0, 0, 0), 0)) (by decide +kernel)) (by decide +kernel) rfl hm_z
  obtain ⟨p63_z, hm_z⟩ := hm_z
  replace hm_z := rn_iconst (w := 0) (am_cur_of (i := (48, 1, .iconst 0, (0, 0, 0), 0)) (by decide +kernel)) (by decide) hm_z
  replace hm_z := rn_istore_n (am_cur_of (i := (49, 1, .istore_n 3, (0, 0, 0), 0)) (by decide +kernel)) hm_z
  obtain ⟨_, s64_z, s65_z, g3_z, hm_z⟩ := hm_z
  replace g0_z := s64_z 0 _ (by decide) rfl g0_z
  replace g1_z := s64_z 1 _ (by decide) rfl g1_z
  replace g2_z := s64_z 2 _ (by decide) rfl g2_z
  clear s64_z s65_z
  replace hm_z := rn_iload_n (am_cur_of (i := (50, 1, .iload_n 3, (0, 0, 0), 0)) (by decide +kernel)) g3_z hm_z
  replace hm_z := rn_iconst (w := 4) (am_cur_of (i := (51, 1, .iconst 4, (0, 0, 0), 0)) (by decide +kernel)) (by decide) hm_z
  replace hm_z := rn_cmpF (am_cur_of (i := (52, 3, .if_icmp .ge 69, (87, 0, 0), 0)) (by decide +kernel)) (by decide) hm_z
  replace hm_z := rn_aload_n (am_cur_of (i := (55, 1, .aload_n 0, (0, 0, 0), 0)) (by decide +kernel)) g0_z hm_z
  replace hm_z := rn_getR (x := 191) (am_cur_of (i := (56, 3, .getfield 94, (12, 53, 1437), 0)) (by decide +kernel)) (by decide +kernel) hm_z
  replace hm_z := rn_iconst (w := 4) (am_cur_of (i := (59, 1, .iconst 4, (0, 0, 0), 0)) (by decide +kernel)) (by decide) hm_z
  replace hm_z := rn_iload_n (am_cur_of (i := (60, 1, .iload_n 1, (0, 0, 0), 0)) (by decide +kernel)) g1_z hm_z
  replace hm_z := rn_imul (w := 4) (am_cur_of (i := (61, 1, .imul, (0, 0, 0), 0)) (by decide +kernel)) (by decide) hm_z
  replace hm_z := rn_iload_n (am_cur_of (i := (62, 1, .iload_n 3, (0, 0, 0), 0)) (by decide +kernel)) g3_z hm_z
  replace hm_z := rn_iadd (w := 4) (am_cur_of (i := (63, 1, .iadd, (0, 0, 0), 0)) (by decide +kernel)) (by decide) hm_z
  replace hm_z := rn_aload_n (am_cur_of (i := (64, 1, .aload_n 0, (0, 0, 0), 0)) (by decide +kernel)) g0_z hm_z
  replace hm_z := rn_getR (x := 191) (am_cur_of (i := (65, 3, .getfield 94, (12, 53, 1437), 0)) (by decide +kernel)) (by decide +kernel) hm_z
  replace hm_z := rn_iconst (w := 4) (am_cur_of (i := (68, 1, .iconst 4, (0, 0, 0), 0)) (by decide +kernel)) (by decide) hm_z
  replace hm_z := rn_iload_n (am_cur_of (i := (69, 1, .iload_n 2, (0, 0, 0), 0)) (by decide +kernel)) g2_z hm_z
  replace hm_z := rn_imul (w := 0) (am_cur_of (i := (70, 1, .imul, (0, 0, 0), 0)) (by decide +kernel)) (by decide) hm_z
  replace hm_z := rn_iload_n (am_cur_of (i := (71, 1, .iload_n 3, (0, 0, 0), 0)) (by decide +kernel)) g3_z hm_z
  replace hm_z := rn_iadd (w := 0) (am_cur_of (i := (72, 1, .iadd, (0, 0, 0), 0)) (by decide +kernel)) (by decide) hm_z
  replace hm_z := rn_iaload (N := 16) (q := 0) (v := rg_v g 191 0) (am_cur_of (i := (73, 1, .iaload, (0, 0, 0), 0)) (by decide +kernel)) (by decide +kernel) rfl ((rg_v_other (by omega)).trans ((rg_v_other (by omega)).trans ((rg_v_other (by omega)).trans ((rg_v_other (by omega)).trans (rfl))))) hm_z
  obtain ⟨p66_z, hm_z⟩ := hm_z
  replace hm_z := rn_iastore (N := 16) (q := 4) (am_cur_of (i := (74, 1, .iastore, (0, 0, 0), 0)) (by decide +kernel)) (by decide +kernel) rfl hm_z
  obtain ⟨p67_z, hm_z⟩ := hm_z
  replace hm_z := rn_aload_n (am_cur_of (i := (75, 1, .aload_n 0, (0, 0, 0), 0)) (by decide +kernel)) g0_z hm_z
  replace hm_z := rn_getR (x := 192) (am_cur_of (i := (76, 3, .getfield 97, (12, 54, 1438), 0)) (by decide +kernel)) (by decide +kernel) hm_z
  replace hm_z := rn_iconst (w := 4) (am_cur_of (i := (79, 1, .iconst 4, (0, 0, 0), 0)) (by decide +kernel)) (by decide) hm_z
  replace hm_z := rn_iload_n (am_cur_of (i := (80, 1, .iload_n 1, (0, 0, 0), 0)) (by decide +kernel)) g1_z hm_z
  replace hm_z := rn_imul (w := 4) (am_cur_of (i := (81, 1, .imul, (0, 0, 0), 0)) (by decide +kernel)) (by decide) hm_z
  replace hm_z := rn_iload_n (am_cur_of (i := (82, 1, .iload_n 3, (0, 0, 0), 0)) (by decide +kernel)) g3_z hm_z
  replace hm_z := rn_iadd (w := 4) (am_cur_of (i := (83, 1, .iadd, (0, 0, 0), 0)) (by decide +kernel)) (by decide) hm_z
  replace hm_z := rn_aload_n (am_cur_of (i := (84, 1, .aload_n 0, (0, 0, 0), 0)) (by decide +kernel)) g0_z hm_z
  replace hm_z := rn_getR (x := 192) (am_cur_of (i := (85, 3, .getfield 97, (12, 54, 1438), 0)) (by decide +kernel)) (by decide +kernel) hm_z
  replace hm_z := rn_iconst (w := 4) (am_cur_of (i := (88, 1, .iconst 4, (0, 0, 0), 0)) (by decide +kernel)) (by decide) hm_z
  replace hm_z := rn_iload_n (am_cur_of (i := (89, 1, .iload_n 2, (0, 0, 0), 0)) (by decide +kernel)) g2_z hm_z
  replace hm_z := rn_imul (w := 0) (am_cur_of (i := (90, 1, .imul, (0, 0, 0), 0)) (by decide +kernel)) (by decide) hm_z
  replace hm_z := rn_iload_n (am_cur_of (i := (91, 1, .iload_n 3, (0, 0, 0), 0)) (by decide +kernel)) g3_z hm_z
  replace hm_z := rn_iadd (w := 0) (am_cur_of (i := (92, 1, .iadd, (0, 0, 0), 0)) (by decide +kernel)) (by decide) hm_z
  replace hm_z := rn_iaload (N := 16) (q := 0) (v := rg_v g 192 0) (am_cur_of (i := (93, 1, .iaload, (0, 0, 0), 0)) (by decide +kernel)) (by decide +kernel) rfl ((rg_v_other (by omega)).trans ((rg_v_other (by omega)).trans ((rg_v_other (by omega)).trans ((rg_v_other (by omega)).trans ((rg_v_other (by omega)).trans (rfl)))))) hm_z
  obtain ⟨p68_z, hm_z⟩ := hm_z
  replace hm_z := rn_iastore (N := 16) (q := 4) (am_cur_of (i := (94, 1, .iastore, (0, 0, 0), 0)) (by decide +kernel)) (by decide +kernel) rfl hm_z
  obtain ⟨p69_z, hm_z⟩ := hm_z
  replace hm_z := rn_aload_n (am_cur_of (i := (95, 1, .aload_n 0, (0, 0, 0), 0)) (by decide +kernel)) g0_z hm_z
  replace hm_z := rn_getR (x := 193) (am_cur_of (i := (96, 3, .getfield 100, (12, 55, 1439), 0)) (by decide +kernel)) (by decide +kernel) hm_z
  replace hm_z := rn_iconst (w := 4) (am_cur_of (i := (99, 1, .iconst 4, (0, 0, 0), 0)) (by decide +kernel)) (by decide) hm_z
  replace hm_z := rn_iload_n (am_cur_of (i := (100, 1, .iload_n 1, (0, 0, 0), 0)) (by decide +kernel)) g1_z hm_z
  replace hm_z := rn_imul (w := 4) (am_cur_of (i := (101, 1, .imul, (0, 0, 0), 0)) (by decide +kernel)) (by decide) hm_z
  replace hm_z := rn_iload_n (am_cur_of (i := (102, 1, .iload_n 3, (0, 0, 0), 0)) (by decide +kernel)) g3_z hm_z
  replace hm_z := rn_iadd (w := 4) (am_cur_of (i := (103, 1, .iadd, (0, 0, 0), 0)) (by decide +kernel)) (by decide) hm_z
  replace hm_z := rn_aload_n (am_cur_of (i := (104, 1, .aload_n 0, (0, 0, 0), 0)) (by decide +kernel)) g0_z hm_z
  replace hm_z := rn_getR (x := 193) (am_cur_of (i := (105, 3, .getfield 100, (12, 55, 1439), 0)) (by decide +kernel)) (by decide +kernel) hm_z
  replace hm_z := rn_iconst (w := 4) (am_cur_of (i := (108, 1, .iconst 4, (0, 0, 0), 0)) (by decide +kernel)) (by decide) hm_z
  replace hm_z := rn_iload_n (am_cur_of (i := (109, 1, .iload_n 2, (0, 0, 0), 0)) (by decide +kernel)) g2_z hm_z
  replace hm_z := rn_imul (w := 0) (am_cur_of (i := (110, 1, .imul, (0, 0, 0), 0)) (by decide +kernel)) (by decide) hm_z
  replace hm_z := rn_iload_n (am_cur_of (i := (111, 1, .iload_n 3, (0, 0, 0), 0)) (by decide +kernel)) g3_z hm_z
  replace hm_z := rn_iadd (w := 0) (am_cur_of (i := (112, 1, .iadd, (0, 0, 0), 0)) (by decide +kernel)) (by decide) hm_z
  replace hm_z := rn_iaload (N := 16) (q := 0) (v := rg_v g 193 0) (am_cur_of (i := (113, 1, .iaload, (0, 0, 0), 0)) (by decide +kernel)) (by decide +kernel) rfl ((rg_v_other (by omega)).trans ((rg_v_other (by omega)).trans ((rg_v_other (by omega)).trans ((rg_v_other (by omega)).trans ((rg_v_other (by omega)).trans ((rg_v_other (by omega)).trans (rfl))))))) hm_z
  obtain ⟨p70_z, hm_z⟩ := hm_z
  replace hm_z := rn_iastore (N := 16) (q := 4) (am_cur_of (i := (114, 1, .iastore, (0, 0, 0), 0)) (by decide +kernel)) (by decide +kernel) rfl hm_z
  obtain ⟨p71_z, hm_z⟩ := hm_z
  replace hm_z := rn_iinc (w := 1) (am_cur_of (i := (115, 3, .iinc 3 1, (0, 0, 0), 0)) (by decide +kernel)) g3_z (by decide) hm_z
  obtain ⟨_, s72_z, s73_z, g3_z, hm_z⟩ := hm_z
  replace g0_z := s72_z 0 _ (by decide) rfl g0_z
  replace g1_z := s72_z 1 _ (by decide) rfl g1_z
  replace g2_z := s72_z 2 _ (by decide) rfl g2_z
  clear s72_z s73_z
  replace hm_z := rn_goto (am_cur_of (i := (118, 3, .goto (-68), (34, 0, 0), 0)) (by decide +kernel)) hm_z
  replace hm_z := rn_iload_n (am_cur_of (i := (50, 1, .iload_n 3, (0, 0, 0), 0)) (by decide +kernel)) g3_z hm_z
  replace hm_z := rn_iconst (w := 4) (am_cur_of (i := (51, 1, .iconst 4, (0, 0, 0), 0)) (by decide +kernel)) (by decide) hm_z
  replace hm_z := rn_cmpF (am_cur_of (i := (52, 3, .if_icmp .ge 69, (87, 0, 0), 0)) (by decide +kernel)) (by decide) hm_z
  replace hm_z := rn_aload_n (am_cur_of (i := (55, 1, .aload_n 0, (0, 0, 0), 0)) (by decide +kernel)) g0_z hm_z
  replace hm_z := rn_getR (x := 191) (am_cur_of (i := (56, 3, .getfield 94, (12, 53, 1437), 0)) (by decide +kernel)) (by decide +kernel) hm_z
  replace hm_z := rn_iconst (w := 4) (am_cur_of (i := (59, 1, .iconst 4, (0, 0, 0), 0)) (by decide +kernel)) (by decide) hm_z
  replace hm_z := rn_iload_n (am_cur_of (i := (60, 1, .iload_n 1, (0, 0, 0), 0)) (by decide +kernel)) g1_z hm_z
  replace hm_z := rn_imul (w := 4) (am_cur_of (i := (61, 1, .imul, (0, 0, 0), 0)) (by decide +kernel)) (by decide) hm_z
  replace hm_z := rn_iload_n (am_cur_of (i := (62, 1, .iload_n 3, (0, 0, 0), 0)) (by decide +kernel)) g3_z hm_z
  replace hm_z := rn_iadd (w := 5) (am_cur_of (i := (63, 1, .iadd, (0, 0, 0), 0)) (by decide +kernel)) (by decide) hm_z
  replace hm_z := rn_aload_n (am_cur_of (i := (64, 1, .aload_n 0, (0, 0, 0), 0)) (by decide +kernel)) g0_z hm_z
  replace hm_z := rn_getR (x := 191) (am_cur_of (i := (65, 3, .getfield 94, (12, 53, 1437), 0)) (by decide +kernel)) (by decide +kernel) hm_z
  replace hm_z := rn_iconst (w := 4) (am_cur_of (i := (68, 1, .iconst 4, (0, 0, 0), 0)) (by decide +kernel)) (by decide) hm_z
  replace hm_z := rn_iload_n (am_cur_of (i := (69, 1, .iload_n 2, (0, 0, 0), 0)) (by decide +kernel)) g2_z hm_z
  replace hm_z := rn_imul (w := 0) (am_cur_of (i := (70, 1, .imul, (0, 0, 0), 0)) (by decide +kernel)) (by decide) hm_z
  replace hm_z := rn_iload_n (am_cur_of (i := (71, 1, .iload_n 3, (0, 0, 0), 0)) (by decide +kernel)) g3_z hm_z
  replace hm_z := rn_iadd (w := 1) (am_cur_of (i := (72, 1, .iadd, (0, 0, 0), 0)) (by decide +kernel)) (by decide) hm_z
  replace hm_z := rn_iaload (N := 16) (q := 1) (v := rg_v g 191 1) (am_cur_of (i := (73, 1, .iaload, (0, 0, 0), 0)) (by decide +kernel)) (by decide +kernel) rfl ((rg_v_other (by omega)).trans ((rg_v_other (by omega)).trans ((rg_v_other (by omega)).trans ((rg_v_other (by omega)).trans ((rg_v_other (by omega)).trans ((rg_v_other (by omega)).trans ((rg_v_other (by omega)).trans (rfl)))))))) hm_z
  obtain ⟨p74_z, hm_z⟩ := hm_z
  replace hm_z := rn_iastore (N := 16) (q := 5) (am_cur_of (i := (74, 1, .iastore, (0, 0, 0), 0)) (by decide +kernel)) (by decide +kernel) rfl hm_z
  obtain ⟨p75_z, hm_z⟩ := hm_z
  replace hm_z := rn_aload_n (am_cur_of (i := (75, 1, .aload_n 0, (0, 0, 0), 0)) (by decide +kernel)) g0_z hm_z
  replace hm_z := rn_getR (x := 192) (am_cur_of (i := (76, 3, .getfield 97, (12, 54, 1438), 0)) (by decide +kernel)) (by decide +kernel) hm_z
  replace hm_z := rn_iconst (w := 4) (am_cur_of (i := (79, 1, .iconst 4, (0, 0, 0), 0)) (by decide +kernel)) (by decide) hm_z
  replace hm_z := rn_iload_n (am_cur_of (i := (80, 1, .iload_n 1, (0, 0, 0), 0)) (by decide +kernel)) g1_z hm_z
  replace hm_z := rn_imul (w := 4) (am_cur_of (i := (81, 1, .imul, (0, 0, 0), 0)) (by decide +kernel)) (by decide) hm_z
  replace hm_z := rn_iload_n (am_cur_of (i := (82, 1, .iload_n 3, (0, 0, 0), 0)) (by decide +kernel)) g3_z hm_z
  replace hm_z := rn_iadd (w := 5) (am_cur_of (i := (83, 1, .iadd, (0, 0, 0), 0)) (by decide +kernel)) (by decide) hm_z
  replace hm_z := rn_aload_n (am_cur_of (i := (84, 1, .aload_n 0, (0, 0, 0), 0)) (by decide +kernel)) g0_z hm_z
  replace hm_z := rn_getR (x := 192) (am_cur_of (i := (85, 3, .getfield 97, (12, 54, 1438), 0)) (by decide +kernel)) (by decide +kernel) hm_z
  replace hm_z := rn_iconst (w := 4) (am_cur_of (i := (88, 1, .iconst 4, (0, 0, 0), 0)) (by decide +kernel)) (by decide) hm_z
  replace hm_z := rn_iload_n (am_cur_of (i := (89, 1, .iload_n 2, (0, 0, 0), 0)) (by decide +kernel)) g2_z hm_z
  replace hm_z := rn_imul (w := 0) (am_cur_of (i := (90, 1, .imul, (0, 0, 0), 0)) (by decide +kernel)) (by decide) hm_z
  replace hm_z := rn_iload_n (am_cur_of (i := (91, 1, .iload_n 3, (0, 0, 0), 0)) (by decide +kernel)) g3_z hm_z
  replace hm_z := rn_iadd (w := 1) (am_cur_of (i := (92, 1, .iadd, (0, 0, 0), 0)) (by decide +kernel)) (by decide) hm_z
  replace hm_z := rn_iaload (N := 16) (q := 1) (v := rg_v g 192 1) (am_cur_of (i := (93, 1, .iaload, (0, 0, 0), 0)) (by decide +kernel)) (by decide +kernel) rfl ((rg_v_other (by omega)).trans ((rg_v_other (by omega)).trans ((rg_v_other (by omega)).trans ((rg_v_other (by omega)).trans ((rg_v_other (by omega)).trans ((rg_v_other (by omega)).trans ((rg_v_other (by omega)).trans ((rg_v_other (by omega)).trans (rfl))))))))) hm_z
  obtain ⟨p76_z, hm_z⟩ := hm_z
  replace hm_z := rn_iastore (N := 16) (q := 5) (am_cur_of (i := (94, 1, .iastore, (0, 0, 0), 0)) (by decide +kernel)) (by decide +kernel) rfl hm_z
  obtain ⟨p77_z, hm_z⟩ := hm_z
  replace hm_z := rn_aload_n (am_cur_of (i := (95, 1, .aload_n 0, (0, 0, 0), 0)) (by decide +kernel)) g0_z hm_z
  replace hm_z := rn_getR (x := 193) (am_cur_of (i := (96, 3, .getfield 100, (12, 55, 1439), 0)) (by decide +kernel)) (by decide +kernel) hm_z
  replace hm_z := rn_iconst (w := 4) (am_cur_of (i := (99, 1, .iconst 4, (0, 0, 0), 0)) (by decide +kernel)) (by decide) hm_z
  replace hm_z := rn_iload_n (am_cur_of (i := (100, 1, .iload_n 1, (0, 0, 0), 0)) (by decide +kernel)) g1_z hm_z
  replace hm_z := rn_imul (w := 4) (am_cur_of (i := (101, 1, .imul, (0, 0, 0), 0)) (by decide +kernel)) (by decide) hm_z
  replace hm_z := rn_iload_n (am_cur_of (i := (102, 1, .iload_n 3, (0, 0, 0), 0)) (by decide +kernel)) g3_z hm_z
  replace hm_z := rn_iadd (w := 5) (am_cur_of (i := (103, 1, .iadd, (0, 0, 0), 0)) (by decide +kernel)) (by decide) hm_z
  replace hm_z := rn_aload_n (am_cur_of (i := (104, 1, .aload_n 0, (0, 0, 0), 0)) (by decide +kernel)) g0_z hm_z
  replace hm_z := rn_getR (x := 193) (am_cur_of (i := (105, 3, .getfield 100, (12, 55, 1439), 0)) (by decide +kernel)) (by decide +kernel) hm_z
  replace hm_z := rn_iconst (w := 4) (am_cur_of (i := (108, 1, .iconst 4, (0, 0, 0), 0)) (by decide +kernel)) (by decide) hm_z
  replace hm_z := rn_iload_n (am_cur_of (i := (109, 1, .iload_n 2, (0, 0, 0), 0)) (by decide +kernel)) g2_z hm_z
  replace hm_z := rn_imul (w := 0) (am_cur_of (i := (110, 1, .imul, (0, 0, 0), 0)) (by decide +kernel)) (by decide) hm_z
  replace hm_z := rn_iload_n (am_cur_of (i := (111, 1, .iload_n 3, (0, 0, 0), 0)) (by decide +kernel)) g3_z hm_z
  replace hm_z := rn_iadd (w := 1) (am_cur_of (i := (112, 1, .iadd, (0, 0, 0), 0)) (by decide +kernel)) (by decide) hm_z
  replace hm_z := rn_iaload (N := 16) (q := 1) (v := rg_v g 193 1) (am_cur_of (i := (113, 1, .iaload, (0, 0, 0), 0)) (by decide +kernel)) (by decide +kernel) rfl ((rg_v_other (by omega)).trans ((rg_v_other (by omega)).trans ((rg_v_other (by omega)).trans ((rg_v_other (by omega)).trans ((rg_v_other (by omega)).trans ((rg_v_other (by omega)).trans ((rg_v_other (by omega)).trans ((rg_v_other (by omega)).trans ((rg_v_other (by omega)).trans (rfl)))))))))) hm_z
  obtain ⟨p78_z, hm_z⟩ := hm_z
  replace hm_z := rn_iastore (N := 16) (q := 5) (am_cur_of (i := (114, 1, .iastore, (0, 0, 0), 0)) (by decide +kernel)) (by decide +kernel) rfl hm_z
  obtain ⟨p79_z, hm_z⟩ := hm_z
  replace hm_z := rn_iinc (w := 2) (am_cur_of (i := (115, 3, .iinc 3 1, (0, 0, 0), 0)) (by decide +kernel)) g3_z (by decide) hm_z
  obtain ⟨_, s80_z, s81_z, g3_z, hm_z⟩ := hm_z
  replace g0_z := s80_z 0 _ (by decide) rfl g0_z
  replace g1_z := s80_z 1 _ (by decide) rfl g1_z
  replace g2_z := s80_z 2 _ (by decide) rfl g2_z
  clear s80_z s81_z
  replace hm_z := rn_goto (am_cur_of (i := (118, 3, .goto (-68), (34, 0, 0), 0)) (by decide +kernel)) hm_z
  replace hm_z := rn_iload_n (am_cur_of (i := (50, 1, .iload_n 3, (0, 0, 0), 0)) (by decide +kernel)) g3_z hm_z
  replace hm_z := rn_iconst (w := 4) (am_cur_of (i := (51, 1, .iconst 4, (0, 0, 0), 0)) (by decide +kernel)) (by decide) hm_z
  replace hm_z := rn_cmpF (am_cur_of (i := (52, 3, .if_icmp .ge 69, (87, 0, 0), 0)) (by decide +kernel)) (by decide) hm_z
  replace hm_z := rn_aload_n (am_cur_of (i := (55, 1, .aload_n 0, (0, 0, 0), 0)) (by decide +kernel)) g0_z hm_z
  replace hm_z := rn_getR (x := 191) (am_cur_of (i := (56, 3, .getfield 94, (12, 53, 1437), 0)) (by decide +kernel)) (by decide +kernel) hm_z
  replace hm_z := rn_iconst (w := 4) (am_cur_of (i := (59, 1, .iconst 4, (0, 0, 0), 0)) (by decide +kernel)) (by decide) hm_z
  replace hm_z := rn_iload_n (am_cur_of (i := (60, 1, .iload_n 1, (0, 0, 0), 0)) (by decide +kernel)) g1_z hm_z
  replace hm_z := rn_imul (w := 4) (am_cur_of (i := (61, 1, .imul, (0, 0, 0), 0)) (by decide +kernel)) (by decide) hm_z
  replace hm_z := rn_iload_n (am_cur_of (i := (62, 1, .iload_n 3, (0, 0, 0), 0)) (by decide +kernel)) g3_z hm_z
  replace hm_z := rn_iadd (w := 6) (am_cur_of (i := (63, 1, .iadd, (0, 0, 0), 0)) (by decide +kernel)) (by decide) hm_z
  replace hm_z := rn_aload_n (am_cur_of (i := (64, 1, .aload_n 0, (0, 0, 0), 0)) (by decide +kernel)) g0_z hm_z
  replace hm_z := rn_getR (x := 191) (am_cur_of (i := (65, 3, .getfield 94, (12, 53, 1437), 0)) (by decide +kernel)) (by decide +kernel) hm_z
  replace hm_z := rn_iconst (w := 4) (am_cur_of (i := (68, 1, .iconst 4, (0, 0, 0), 0)) (by decide +kernel)) (by decide) hm_z
  replace hm_z := rn_iload_n (am_cur_of (i := (69, 1, .iload_n 2, (0, 0, 0), 0)) (by decide +kernel)) g2_z hm_z
  replace hm_z := rn_imul (w := 0) (am_cur_of (i := (70, 1, .imul, (0, 0, 0), 0)) (by decide +kernel)) (by decide) hm_z
  replace hm_z := rn_iload_n (am_cur_of (i := (71, 1, .iload_n 3, (0, 0, 0), 0)) (by decide +kernel)) g3_z hm_z
  replace hm_z := rn_iadd (w := 2) (am_cur_of (i := (72, 1, .iadd, (0, 0, 0), 0)) (by decide +kernel)) (by decide) hm_z
  replace hm_z := rn_iaload (N := 16) (q := 2) (v := rg_v g 191 2) (am_cur_of (i := (73, 1, .iaload, (0, 0, 0), 0)) (by decide +kernel)) (by decide +kernel) rfl ((rg_v_other (by omega)).trans ((rg_v_other (by omega)).trans ((rg_v_other (by omega)).trans ((rg_v_other (by omega)).trans ((rg_v_other (by omega)).trans ((rg_v_other (by omega)).trans ((rg_v_other (by omega)).trans ((rg_v_other (by omega)).trans ((rg_v_other (by omega)).trans ((rg_v_other (by omega)).trans (rfl))))))))))) hm_z
  obtain ⟨p82_z, hm_z⟩ := hm_z
  replace hm_z := rn_iastore (N := 16) (q := 6) (am_cur_of (i := (74, 1, .iastore, (0, 0, 0), 0)) (by decide +kernel)) (by decide +kernel) rfl hm_z
  obtain ⟨p83_z, hm_z⟩ := hm_z
  replace hm_z := rn_aload_n (am_cur_of (i := (75, 1, .aload_n 0, (0, 0, 0), 0)) (by decide +kernel)) g0_z hm_z
  replace hm_z := rn_getR (x := 192) (am_cur_of (i := (76, 3, .getfield 97, (12, 54, 1438), 0)) (by decide +kernel)) (by decide +kernel) hm_z
  replace hm_z := rn_iconst (w := 4) (am_cur_of (i := (79, 1, .iconst 4, (0, 0, 0), 0)) (by decide +kernel)) (by decide) hm_z
  replace hm_z := rn_iload_n (am_cur_of (i := (80, 1, .iload_n 1, (0, 0, 0), 0)) (by decide +kernel)) g1_z hm_z
  replace hm_z := rn_imul (w := 4) (am_cur_of (i := (81, 1, .imul, (0, 0, 0), 0)) (by decide +kernel)) (by decide) hm_z
  replace hm_z := rn_iload_n (am_cur_of (i := (82, 1, .iload_n 3, (0, 0, 0), 0)) (by decide +kernel)) g3_z hm_z
  replace hm_z := rn_iadd (w := 6) (am_cur_of (i := (83, 1, .iadd, (0, 0, 0), 0)) (by decide +kernel)) (by decide) hm_z
  replace hm_z := rn_aload_n (am_cur_of (i := (84, 1, .aload_n 0, (0, 0, 0), 0)) (by decide +kernel)) g0_z hm_z
  replace hm_z := rn_getR (x := 192) (am_cur_of (i := (85, 3, .getfield 97, (12, 54, 1438), 0)) (by decide +kernel)) (by decide +kernel) hm_z
  replace hm_z := rn_iconst (w := 4) (am_cur_of (i := (88, 1, .iconst 4, (0, 0, 0), 0)) (by decide +kernel)) (by decide) hm_z
  replace hm_z := rn_iload_n (am_cur_of (i := (89, 1, .iload_n 2, (0, 0, 0), 0)) (by decide +kernel)) g2_z hm_z
  replace hm_z := rn_imul (w := 0) (am_cur_of (i := (90, 1, .imul, (0, 0, 0), 0)) (by decide +kernel)) (by decide) hm_z
  replace hm_z := rn_iload_n (am_cur_of (i := (91, 1, .iload_n 3, (0, 0, 0), 0)) (by decide +kernel)) g3_z hm_z
  replace hm_z := rn_iadd (w := 2) (am_cur_of (i := (92, 1, .iadd, (0, 0, 0), 0)) (by decide +kernel)) (by decide) hm_z
  replace hm_z := rn_iaload (N := 16) (q := 2) (v := rg_v g 192 2) (am_cur_of (i := (93, 1, .iaload, (0, 0, 0), 0)) (by decide +kernel)) (by decide +kernel) rfl ((rg_v_other (by omega)).trans ((rg_v_other (by omega)).trans ((rg_v_other (by omega)).trans ((rg_v_other (by omega)).trans ((rg_v_other (by omega)).trans ((rg_v_other (by omega)).trans ((rg_v_other (by omega)).trans ((rg_v_other (by omega)).trans ((rg_v_other (by omega)).trans ((rg_v_other (by omega)).trans ((rg_v_other (by omega)).trans (rfl)))))))))))) hm_z
  obtain ⟨p84_z, hm_z⟩ := hm_z
  replace hm_z := rn_iastore (N := 16) (q := 6) (am_cur_of (i := (94, 1, .iastore, (0, 0, 0), 0)) (by decide +kernel)) (by decide +kernel) rfl hm_z
  obtain ⟨p85_z, hm_z⟩ := hm_z
  replace hm_z := rn_aload_n (am_cur_of (i := (95, 1, .aload_n 0, (0, 0, 0), 0)) (by decide +kernel)) g0_z hm_z
  replace hm_z := rn_getR (x := 193) (am_cur_of (i := (96, 3, .getfield 100, (12, 55, 1439), 0)) (by decide +kernel)) (by decide +kernel) hm_z
  replace hm_z := rn_iconst (w := 4) (am_cur_of (i := (99, 1, .iconst 4, (0, 0, 0), 0)) (by decide +kernel)) (by decide) hm_z
  replace hm_z := rn_iload_n (am_cur_of (i := (100, 1, .iload_n 1, (0, 0, 0), 0)) (by decide +kernel)) g1_z hm_z
  replace hm_z := rn_imul (w := 4) (am_cur_of (i := (101, 1, .imul, (0, 0, 0), 0)) (by decide +kernel)) (by decide) hm_z
  replace hm_z := rn_iload_n (am_cur_of (i := (102, 1, .iload_n 3, (0, 0, 0), 0)) (by decide +kernel)) g3_z hm_z
  replace hm_z := rn_iadd (w := 6) (am_cur_of (i := (103, 1, .iadd, (0, 0, 0), 0)) (by decide +kernel)) (by decide) hm_z
  replace hm_z := rn_aload_n (am_cur_of (i := (104, 1, .aload_n 0, (0, 0, 0), 0)) (by decide +kernel)) g0_z hm_z
  replace hm_z := rn_getR (x := 193) (am_cur_of (i := (105, 3, .getfield 100, (12, 55, 1439), 0)) (by decide +kernel)) (by decide +kernel) hm_z
  replace hm_z := rn_iconst (w := 4) (am_cur_of (i := (108, 1, .iconst 4, (0, 0, 0), 0)) (by decide +kernel)) (by decide) hm_z
  replace hm_z := rn_iload_n (am_cur_of (i := (109, 1, .iload_n 2, (0, 0, 0), 0)) (by decide +kernel)) g2_z hm_z
  replace hm_z := rn_imul (w := 0) (am_cur_of (i := (110, 1, .imul, (0, 0, 0), 0)) (by decide +kernel)) (by decide) hm_z
  replace hm_z := rn_iload_n (am_cur_of (i := (111, 1, .iload_n 3, (0, 0, 0), 0)) (by decide +kernel)) g3_z hm_z
  replace hm_z := rn_iadd (w := 2) (am_cur_of (i := (112, 1, .iadd, (0, 0, 0), 0)) (by decide +kernel)) (by decide) hm_z
  replace hm_z := rn_iaload (N := 16) (q := 2) (v := rg_v g 193 2) (am_cur_of (i := (113, 1, .iaload, (0, 0, 0), 0)) (by decide +kernel)) (by decide +kernel) rfl ((rg_v_other (by omega)).trans ((rg_v_other (by omega)).trans ((rg_v_other (by omega)).trans ((rg_v_other (by omega)).trans ((rg_v_other (by omega)).trans ((rg_v_other (by omega)).trans ((rg_v_other (by omega)).trans ((rg_v_other (by omega)).trans ((rg_v_other (by omega)).trans ((rg_v_other (by omega)).trans ((rg_v_other (by omega)).trans ((rg_v_other (by omega)).trans (rfl))))))))))))) hm_z
  obtain ⟨p86_z, hm_z⟩ := hm_z
  replace hm_z := rn_iastore (N := 16) (q := 6) (am_cur_of (i := (114, 1, .iastore, (0, 0, 0), 0)) (by decide +kernel)) (by decide +kernel) rfl hm_z
  obtain ⟨p87_z, hm_z⟩ := hm_z
  replace hm_z := rn_iinc (w := 3) (am_cur_of (i := (115, 3, .iinc 3 1, (0, 0, 0), 0)) (by decide +kernel)) g3_z (by decide) hm_z
  obtain ⟨_, s88_z, s89_z, g3_z, hm_z⟩ := hm_z
  replace g0_z := s88_z 0 _ (by decide) rfl g0_z
  replace g1_z := s88_z 1 _ (by decide) rfl g1_z
  replace g2_z := s88_z 2 _ (by decide) rfl g2_z
  clear s88_z s89_z
  replace hm_z := rn_goto (am_cur_of (i := (118, 3, .goto (-68), (34, 0, 0), 0)) (by decide +kernel)) hm_z
  replace hm_z := rn_iload_n (am_cur_of (i := (50, 1, .iload_n 3, (0, 0, 0), 0)) (by decide +kernel)) g3_z hm_z
  replace hm_z := rn_iconst (w := 4) (am_cur_of (i := (51, 1, .iconst 4, (0, 0, 0), 0)) (by decide +kernel)) (by decide) hm_z
  replace hm_z := rn_cmpF (am_cur_of (i := (52, 3, .if_icmp .ge 69, (87, 0, 0), 0)) (by decide +kernel)) (by decide) hm_z
  replace hm_z := rn_aload_n (am_cur_of (i := (55, 1, .aload_n 0, (0, 0, 0), 0)) (by decide +kernel)) g0_z hm_z
  replace hm_z := rn_getR (x := 191) (am_cur_of (i := (56, 3, .getfield 94, (12, 53, 1437), 0)) (by decide +kernel)) (by decide +kernel) hm_z
  replace hm_z := rn_iconst (w := 4) (am_cur_of (i := (59, 1, .iconst 4, (0, 0, 0), 0)) (by decide +kernel)) (by decide) hm_z
  replace hm_z := rn_iload_n (am_cur_of (i := (60, 1, .iload_n 1, (0, 0, 0), 0)) (by decide +kernel)) g1_z hm_z
  replace hm_z := rn_imul (w := 4) (am_cur_of (i := (61, 1, .imul, (0, 0, 0), 0)) (by decide +kernel)) (by decide) hm_z
  replace hm_z := rn_iload_n (am_cur_of (i := (62, 1, .iload_n 3, (0, 0, 0), 0)) (by decide +kernel)) g3_z hm_z
  replace hm_z := rn_iadd (w := 7) (am_cur_of (i := (63, 1, .iadd, (0, 0, 0), 0)) (by decide +kernel)) (by decide) hm_z
  replace hm_z := rn_aload_n (am_cur_of (i := (64, 1, .aload_n 0, (0, 0, 0), 0)) (by decide +kernel)) g0_z hm_z
  replace hm_z := rn_getR (x := 191) (am_cur_of (i := (65, 3, .getfield 94, (12, 53, 1437), 0)) (by decide +kernel)) (by decide +kernel) hm_z
  replace hm_z := rn_iconst (w := 4) (am_cur_of (i := (68, 1, .iconst 4, (0, 0, 0), 0)) (by decide +kernel)) (by decide) hm_z
  replace hm_z := rn_iload_n (am_cur_of (i := (69, 1, .iload_n 2, (0, 0, 0), 0)) (by decide +kernel)) g2_z hm_z
  replace hm_z := rn_imul (w := 0) (am_cur_of (i := (70, 1, .imul, (0, 0, 0), 0)) (by decide +kernel)) (by decide) hm_z
  replace hm_z := rn_iload_n (am_cur_of (i := (71, 1, .iload_n 3, (0, 0, 0), 0)) (by decide +kernel)) g3_z hm_z
  replace hm_z := rn_iadd (w := 3) (am_cur_of (i := (72, 1, .iadd, (0, 0, 0), 0)) (by decide +kernel)) (by decide) hm_z
  replace hm_z := rn_iaload (N := 16) (q := 3) (v := rg_v g 191 3) (am_cur_of (i := (73, 1, .iaload, (0, 0, 0), 0)) (by decide +kernel)) (by decide +kernel) rfl ((rg_v_other (by omega)).trans ((rg_v_other (by omega)).trans ((rg_v_other (by omega)).trans ((rg_v_other (by omega)).trans ((rg_v_other (by omega)).trans ((rg_v_other (by omega)).trans ((rg_v_other (by omega)).trans ((rg_v_other (by omega)).trans ((rg_v_other (by omega)).trans ((rg_v_other (by omega)).trans ((rg_v_other (by omega)).trans ((rg_v_other (by omega)).trans ((rg_v_other (by omega)).trans (rfl)))))))))))))) hm_z
  obtain ⟨p90_z, hm_z⟩ := hm_z
  replace hm_z := rn_iastore (N := 16) (q := 7) (am_cur_of (i := (74, 1, .iastore, (0, 0, 0), 0)) (by decide +kernel)) (by decide +kernel) rfl hm_z
  obtain ⟨p91_z, hm_z⟩ := hm_z
  replace hm_z := rn_aload_n (am_cur_of (i := (75, 1, .aload_n 0, (0, 0, 0), 0)) (by decide +kernel)) g0_z hm_z
  replace hm_z := rn_getR (x := 192) (am_cur_of (i := (76, 3, .getfield 97, (12, 54, 1438), 0)) (by decide +kernel)) (by decide +kernel) hm_z
  replace hm_z := rn_iconst (w := 4) (am_cur_of (i := (79, 1, .iconst 4, (0, 0, 0), 0)) (by decide +kernel)) (by decide) hm_z
  replace hm_z := rn_iload_n (am_cur_of (i := (80, 1, .iload_n 1, (0, 0, 0), 0)) (by decide +kernel)) g1_z hm_z
  replace hm_z := rn_imul (w := 4) (am_cur_of (i := (81, 1, .imul, (0, 0, 0), 0)) (by decide +kernel)) (by decide) hm_z
  replace hm_z := rn_iload_n (am_cur_of (i := (82, 1, .iload_n 3, (0, 0, 0), 0)) (by decide +kernel)) g3_z hm_z
  replace hm_z := rn_iadd (w := 7) (am_cur_of (i := (83, 1, .iadd, (0, 0, 0), 0)) (by decide +kernel)) (by decide) hm_z
  replace hm_z := rn_aload_n (am_cur_of (i := (84, 1, .aload_n 0, (0, 0, 0), 0)) (by decide +kernel)) g0_z hm_z
  replace hm_z := rn_getR (x := 192) (am_cur_of (i := (85, 3, .getfield 97, (12, 54, 1438), 0)) (by decide +kernel)) (by decide +kernel) hm_z
  replace hm_z := rn_iconst (w := 4) (am_cur_of (i := (88, 1, .iconst 4, (0, 0, 0), 0)) (by decide +kernel)) (by decide) hm_z
  replace hm_z := rn_iload_n (am_cur_of (i := (89, 1, .iload_n 2, (0, 0, 0), 0)) (by decide +kernel)) g2_z hm_z
  replace hm_z := rn_imul (w := 0) (am_cur_of (i := (90, 1, .imul, (0, 0, 0), 0)) (by decide +kernel)) (by decide) hm_z
  replace hm_z := rn_iload_n (am_cur_of (i := (91, 1, .iload_n 3, (0, 0, 0), 0)) (by decide +kernel)) g3_z hm_z
  replace hm_z := rn_iadd (w := 3) (am_cur_of (i := (92, 1, .iadd, (0, 0, 0), 0)) (by decide +kernel)) (by decide) hm_z
  replace hm_z := rn_iaload (N := 16) (q := 3) (v := rg_v g 192 3) (am_cur_of (i := (93, 1, .iaload, (0, 0, 0), 0)) (by decide +kernel)) (by decide +kernel) rfl ((rg_v_other (by omega)).trans ((rg_v_other (by omega)).trans ((rg_v_other (by omega)).trans ((rg_v_other (by omega)).trans ((rg_v_other (by omega)).trans ((rg_v_other (by omega)).trans ((rg_v_other (by omega)).trans ((rg_v_other (by omega)).trans ((rg_v_other (by omega)).trans ((rg_v_other (by omega)).trans ((rg_v_other (by omega)).trans ((rg_v_other (by omega)).trans ((rg_v_other (by omega)).trans ((rg_v_other (by omega)).trans (rfl))))))))))))))) hm_z
  obtain ⟨p92_z, hm_z⟩ := hm_z
  replace hm_z := rn_iastore (N := 16) (q := 7) (am_cur_of (i := (94, 1, .iastore, (0, 0, 0), 0)) (by decide +kernel)) (by decide +kernel) rfl hm_z
  obtain ⟨p93_z, hm_z⟩ := hm_z
  replace hm_z := rn_aload_n (am_cur_of (i := (95, 1, .aload_n 0, (0, 0, 0), 0)) (by decide +kernel)) g0_z hm_z
  replace hm_z := rn_getR (x := 193) (am_cur_of (i := (96, 3, .getfield 100, (12, 55, 1439), 0)) (by decide +kernel)) (by decide +kernel) hm_z
  replace hm_z := rn_iconst (w := 4) (am_cur_of (i := (99, 1, .iconst 4, (0, 0, 0), 0)) (by decide +kernel)) (by decide) hm_z
  replace hm_z := rn_iload_n (am_cur_of (i := (100, 1, .iload_n 1, (0, 0, 0), 0)) (by decide +kernel)) g1_z hm_z
  replace hm_z := rn_imul (w := 4) (am_cur_of (i := (101, 1, .imul, (0, 0, 0), 0)) (by decide +kernel)) (by decide) hm_z
  replace hm_z := rn_iload_n (am_cur_of (i := (102, 1, .iload_n 3, (0, 0, 0), 0)) (by decide +kernel)) g3_z hm_z
  replace hm_z := rn_iadd (w := 7) (am_cur_of (i := (103, 1, .iadd, (0, 0, 0), 0)) (by decide +kernel)) (by decide) hm_z
  replace hm_z := rn_aload_n (am_cur_of (i := (104, 1, .aload_n 0, (0, 0, 0), 0)) (by decide +kernel)) g0_z hm_z
  replace hm_z := rn_getR (x := 193) (am_cur_of (i := (105, 3, .getfield 100, (12, 55, 1439), 0)) (by decide +kernel)) (by decide +kernel) hm_z
  replace hm_z := rn_iconst (w := 4) (am_cur_of (i := (108, 1, .iconst 4, (0, 0, 0), 0)) (by decide +kernel)) (by decide) hm_z
  replace hm_z := rn_iload_n (am_cur_of (i := (109, 1, .iload_n 2, (0, 0, 0), 0)) (by decide +kernel)) g2_z hm_z
  replace hm_z := rn_imul (w := 0) (am_cur_of (i := (110, 1, .imul, (0, 0, 0), 0)) (by decide +kernel)) (by decide) hm_z
  replace hm_z := rn_iload_n (am_cur_of (i := (111, 1, .iload_n 3, (0, 0, 0), 0)) (by decide +kernel)) g3_z hm_z
  replace hm_z := rn_iadd (w := 3) (am_cur_of (i := (112, 1, .iadd, (0, 0, 0), 0)) (by decide +kernel)) (by decide) hm_z
  replace hm_z := rn_iaload (N := 16) (q := 3) (v := rg_v g 193 3) (am_cur_of (i := (113, 1, .iaload, (0, 0, 0), 0)) (by decide +kernel)) (by decide +kernel) rfl ((rg_v_other (by omega)).trans ((rg_v_other (by omega)).trans ((rg_v_other (by omega)).trans ((rg_v_other (by omega)).trans ((rg_v_other (by omega)).trans ((rg_v_other (by omega)).trans ((rg_v_other (by omega)).trans ((rg_v_other (by omega)).trans ((rg_v_other (by omega)).trans ((rg_v_other (by omega)).trans ((rg_v_other (by omega)).trans ((rg_v_other (by omega)).trans ((rg_v_other (by omega)).trans ((rg_v_other (by omega)).trans ((rg_v_other (by omega)).trans (rfl)))))))))))))))) hm_z
  obtain ⟨p94_z, hm_z⟩ := hm_z
  replace hm_z := rn_iastore (N := 16) (q := 7) (am_cur_of (i := (114, 1, .iastore, (0, 0, 0), 0)) (by decide +kernel)) (by decide +kernel) rfl hm_z
  obtain ⟨p95_z, hm_z⟩ := hm_z
  replace hm_z := rn_iinc (w := 4) (am_cur_of (i := (115, 3, .iinc 3 1, (0, 0, 0), 0)) (by decide +kernel)) g3_z (by decide) hm_z
  obtain ⟨_, s96_z, s97_z, g3_z, hm_z⟩ := hm_z
  replace g0_z := s96_z 0 _ (by decide) rfl g0_z
  replace g1_z := s96_z 1 _ (by decide) rfl g1_z
  replace g2_z := s96_z 2 _ (by decide) rfl g2_z
  clear s96_z s97_z
  replace hm_z := rn_goto (am_cur_of (i := (118, 3, .goto (-68), (34, 0, 0), 0)) (by decide +kernel)) hm_z
  replace hm_z := rn_iload_n (am_cur_of (i := (50, 1, .iload_n 3, (0, 0, 0), 0)) (by decide +kernel)) g3_z hm_z
  replace hm_z := rn_iconst (w := 4) (am_cur_of (i := (51, 1, .iconst 4, (0, 0, 0), 0)) (by decide +kernel)) (by decide) hm_z
  replace hm_z := rn_cmpT (am_cur_of (i := (52, 3, .if_icmp .ge 69, (87, 0, 0), 0)) (by decide +kernel)) (by decide) hm_z
  replace hm_z := rn_vret (am_cur_of (i := (121, 1, .return_, (0, 0, 0), 0)) (by decide +kernel)) hm_z
  obtain ⟨e98_z, e99_z⟩ := hm_z
  refine ⟨fun j hj_z => ?_, fun o k ho => ?_⟩
  · rw [e99_z]
    match j, hj_z with
    | 0, _ => rfl
    | 1, _ => rfl
    | 2, _ => rfl
    | 3, _ => rfl
    | 4, _ => rfl
    | 5, _ => rfl
    | 6, _ => rfl
    | 7, _ => rfl
    | 8, _ => rfl
    | 9, _ => rfl
    | 10, _ => rfl
    | 11, _ => rfl
    | 12, _ => rfl
    | 13, _ => rfl
    | 14, _ => rfl
    | 15, _ => rfl
    | 16, _ => rfl
    | j + 17, hj_z => omega
  · rw [e99_z]
    exact (up_ne (bB_ne ho rfl)).trans ((up_ne (bB_ne ho rfl)).trans ((up_ne (bB_ne ho rfl)).trans ((up_ne (bB_ne ho rfl)).trans ((up_ne (bB_ne ho rfl)).trans ((up_ne (bB_ne ho rfl)).trans ((up_ne (bB_ne ho rfl)).trans ((up_ne (bB_ne ho rfl)).trans ((up_ne (bB_ne ho rfl)).trans ((up_ne (bB_ne ho rfl)).trans ((up_ne (bB_ne ho rfl)).trans ((up_ne (bB_ne ho rfl)).trans ((up_ne (bB_ne ho rfl)).trans ((up_ne (bB_ne ho rfl)).trans ((up_ne (bB_ne ho rfl)).trans ((up_ne (bB_ne ho rfl)).trans (rfl))))))))))))))))
theorem cb_197_01 {n : Nat} {r : Option Value} {g g' : am_H} (hm_z : rn n am_m197 0 (lv_args 0 [.ref 164, .int 0, .int 1]) [] g r g') : (∀ j, j < 17 → mS g' 0 j = mS g 1 j) ∧ ∀ o k, bB 0 o k = false → g' o k = g o k := by
  have g0_z : am_get (lv_args 0 [.ref 164, .int 0, .int 1]) 0 = some (.ref 164) := rfl
  have g1_z : am_get (lv_args 0 [.ref 164, .int 0, .int 1]) 1 = some (.int 0) := rfl
  have g2_z : am_get (lv_args 0 [.ref 164, .int 0, .int 1]) 2 = some (.int 1) := rfl
  replace hm_z := rn_aload_n (am_cur_of (i := (0, 1, .aload_n 0, (0, 0, 0), 0)) (by decide +kernel)) g0_z hm_z
  replace hm_z := rn_getR (x := 188) (am_cur_of (i := (1, 3, .getfield 85, (12, 50, 1434), 0)) (by decide +kernel)) (by decide +kernel) hm_z
  replace hm_z := rn_iload_n (am_cur_of (i := (4, 1, .iload_n 1, (0, 0, 0), 0)) (by decide +kernel)) g1_z hm_z
  replace hm_z := rn_aload_n (am_cur_of (i := (5, 1, .aload_n 0, (0, 0, 0), 0)) (by decide +kernel)) g0_z hm_z
  replace hm_z := rn_getR (x := 188) (am_cur_of (i := (6, 3, .getfield 85, (12, 50, 1434), 0)) (by decide +kernel)) (by decide +kernel) hm_z
  replace hm_z := rn_iload_n (am_cur_of (i := (9, 1, .iload_n 2, (0, 0, 0), 0)) (by decide +kernel)) g2_z hm_z
  replace hm_z := rn_iaload (N := 4) (q := 1) (v := rg_v g 188 1) (am_cur_of (i := (10, 1, .iaload, (0, 0, 0), 0)) (by decide +kernel)) (by decide +kernel) rfl rfl hm_z
  obtain ⟨p100_z, hm_z⟩ := hm_z
  replace hm_z := rn_iastore (N := 4) (q := 0) (am_cur_of (i := (11, 1, .iastore, (0, 0, 0), 0)) (by decide +kernel)) (by decide +kernel) rfl hm_z
  obtain ⟨p101_z, hm_z⟩ := hm_z
  replace hm_z := rn_aload_n (am_cur_of (i := (12, 1, .aload_n 0, (0, 0, 0), 0)) (by decide +kernel)) g0_z hm_z
  replace hm_z := rn_getR (x := 189) (am_cur_of (i := (13, 3, .getfield 88, (12, 51, 1435), 0)) (by decide +kernel)) (by decide +kernel) hm_z
  replace hm_z := rn_iload_n (am_cur_of (i := (16, 1, .iload_n 1, (0, 0, 0), 0)) (by decide +kernel)) g1_z hm_z
  replace hm_z := rn_aload_n (am_cur_of (i := (17, 1, .aload_n 0, (0, 0, 0), 0)) (by decide +kernel)) g0_z hm_z
  replace hm_z := rn_getR (x := 189) (am_cur_of (i := (18, 3, .getfield 88, (12, 51, 1435), 0)) (by decide +kernel)) (by decide +kernel) hm_z
  replace hm_z := rn_iload_n (am_cur_of (i := (21, 1, .iload_n 2, (0, 0, 0), 0)) (by decide +kernel)) g2_z hm_z
  replace hm_z := rn_iaload (N := 4) (q := 1) (v := rg_v g 189 1) (am_cur_of (i := (22, 1, .iaload, (0, 0, 0), 0)) (by decide +kernel)) (by decide +kernel) rfl ((rg_v_other (by omega)).trans (rfl)) hm_z
  obtain ⟨p102_z, hm_z⟩ := hm_z
  replace hm_z := rn_iastore (N := 4) (q := 0) (am_cur_of (i := (23, 1, .iastore, (0, 0, 0), 0)) (by decide +kernel)) (by decide +kernel) rfl hm_z
  obtain ⟨p103_z, hm_z⟩ := hm_z
  replace hm_z := rn_aload_n (am_cur_of (i := (24, 1, .aload_n 0, (0, 0, 0), 0)) (by decide +kernel)) g0_z hm_z
  replace hm_z := rn_getR (x := 190) (am_cur_of (i := (25, 3, .getfield 91, (12, 52, 1436), 0)) (by decide +kernel)) (by decide +kernel) hm_z
  replace hm_z := rn_iload_n (am_cur_of (i := (28, 1, .iload_n 1, (0, 0, 0), 0)) (by decide +kernel)) g1_z hm_z
  replace hm_z := rn_aload_n (am_cur_of (i := (29, 1, .aload_n 0, (0, 0, 0), 0)) (by decide +kernel)) g0_z hm_z
  replace hm_z := rn_getR (x := 190) (am_cur_of (i := (30, 3, .getfield 91, (12, 52, 1436), 0)) (by decide +kernel)) (by decide +kernel) hm_z
  replace hm_z := rn_iload_n (am_cur_of (i := (33, 1, .iload_n 2, (0, 0, 0), 0)) (by decide +kernel)) g2_z hm_z
  replace hm_z := rn_iaload (N := 4) (q := 1) (v := rg_v g 190 1) (am_cur_of (i := (34, 1, .iaload, (0, 0, 0), 0)) (by decide +kernel)) (by decide +kernel) rfl ((rg_v_other (by omega)).trans ((rg_v_other (by omega)).trans (rfl))) hm_z
  obtain ⟨p104_z, hm_z⟩ := hm_z
  replace hm_z := rn_iastore (N := 4) (q := 0) (am_cur_of (i := (35, 1, .iastore, (0, 0, 0), 0)) (by decide +kernel)) (by decide +kernel) rfl hm_z
  obtain ⟨p105_z, hm_z⟩ := hm_z
  replace hm_z := rn_aload_n (am_cur_of (i := (36, 1, .aload_n 0, (0, 0, 0), 0)) (by decide +kernel)) g0_z hm_z
  replace hm_z := rn_getR (x := 194) (am_cur_of (i := (37, 3, .getfield 103, (12, 56, 1440), 0)) (by decide +kernel)) (by decide +kernel) hm_z
  replace hm_z := rn_iload_n (am_cur_of (i := (40, 1, .iload_n 1, (0, 0, 0), 0)) (by decide +kernel)) g1_z hm_z
  replace hm_z := rn_aload_n (am_cur_of (i := (41, 1, .aload_n 0, (0, 0, 0), 0)) (by decide +kernel)) g0_z hm_z
  replace hm_z := rn_getR (x := 194) (am_cur_of (i := (42, 3, .getfield 103, (12, 56, 1440), 0)) (by decide +kernel)) (by decide +kernel) hm_z
  replace hm_z := rn_iload_n (am_cur_of (i := (45, 1, .iload_n 2, (0, 0, 0), 0)) (by decide +kernel)) g2_z hm_z
  replace hm_z := rn_iaload (N := 4) (q := 1) (v := rg_v g 194 1) (am_cur_of (i := (46, 1, .iaload, (0, 0, 0), 0)) (by decide +kernel)) (by decide +kernel) rfl ((rg_v_other (by omega)).trans ((rg_v_other (by omega)).trans ((rg_v_other (by omega)).trans (rfl)))) hm_z
  obtain ⟨p106_z, hm_z⟩ := hm_z
  replace hm_z := rn_iastore (N := 4) (q := 0) (am_cur_of (i := (47, 1, .iastore, (0, 0, 0), 0)) (by decide +kernel)) (by decide +kernel) rfl hm_z
  obtain ⟨p107_z, hm_z⟩ := hm_z
  replace hm_z := rn_iconst (w := 0) (am_cur_of (i := (48, 1, .iconst 0, (0, 0, 0), 0)) (by decide +kernel)) (by decide) hm_z
  replace hm_z := rn_istore_n (am_cur_of (i := (49, 1, .istore_n 3, (0, 0, 0), 0)) (by decide +kernel)) hm_z
  obtain ⟨_, s108_z, s109_z, g3_z, hm_z⟩ := hm_z
  replace g0_z := s108_z 0 _ (by decide) rfl g0_z
  replace g1_z := s108_z 1 _ (by decide) rfl g1_z
  replace g2_z := s108_z 2 _ (by decide) rfl g2_z
  clear s108_z s109_z
  replace hm_z := rn_iload_n (am_cur_of (i := (50, 1, .iload_n 3, (0, 0, 0), 0)) (by decide +kernel)) g3_z hm_z
  replace hm_z := rn_iconst (w := 4) (am_cur_of (i := (51, 1, .iconst 4, (0, 0, 0), 0)) (by decide +kernel)) (by decide) hm_z
  replace hm_z := rn_cmpF (am_cur_of (i := (52, 3, .if_icmp .ge 69, (87, 0, 0), 0)) (by decide +kernel)) (by decide) hm_z
  replace hm_z := rn_aload_n (am_cur_of (i := (55, 1, .aload_n 0, (0, 0, 0), 0)) (by decide +kernel)) g0_z hm_z
  replace hm_z := rn_getR (x := 191) (am_cur_of (i := (56, 3, .getfield 94, (12, 53, 1437), 0)) (by decide +kernel)) (by decide +kernel) hm_z
  replace hm_z := rn_iconst (w := 4) (am_cur_of (i := (59, 1, .iconst 4, (0, 0, 0), 0)) (by decide +kernel)) (by decide) hm_z
  replace hm_z := rn_iload_n (am_cur_of (i := (60, 1, .iload_n 1, (0, 0, 0), 0)) (by decide +kernel)) g1_z hm_z
  replace hm_z := rn_imul (w := 0) (am_cur_of (i := (61, 1, .imul, (0, 0, 0), 0)) (by decide +kernel)) (by decide) hm_z
  replace hm_z := rn_iload_n (am_cur_of (i := (62, 1, .iload_n 3, (0, 0, 0), 0)) (by decide +kernel)) g3_z hm_z
  replace hm_z := rn_iadd (w := 0) (am_cur_of (i := (63, 1, .iadd, (0, 0, 0), 0)) (by decide +kernel)) (by decide) hm_z
  replace hm_z := rn_aload_n (am_cur_of (i := (64, 1, .aload_n 0, (0, 0, 0), 0)) (by decide +kernel)) g0_z hm_z
  replace hm_z := rn_getR (x := 191) (am_cur_of (i := (65, 3, .getfield 94, (12, 53, 1437), 0)) (by decide +kernel)) (by decide +kernel) hm_z
  replace hm_z := rn_iconst (w := 4) (am_cur_of (i := (68, 1, .iconst 4, (0, 0, 0), 0)) (by decide +kernel)) (by decide) hm_z
  replace hm_z := rn_iload_n (am_cur_of (i := (69, 1, .iload_n 2, (0, 0, 0), 0)) (by decide +kernel)) g2_z hm_z
  replace hm_z := rn_imul (w := 4) (am_cur_of (i := (70, 1, .imul, (0, 0, 0), 0)) (by decide +kernel)) (by decide) hm_z
  replace hm_z := rn_iload_n (am_cur_of (i := (71, 1, .iload_n 3, (0, 0, 0), 0)) (by decide +kernel)) g3_z hm_z
  replace hm_z := rn_iadd (w := 4) (am_cur_of (i := (72, 1, .iadd, (0, 0, 0), 0)) (by decide +kernel)) (by decide) hm_z
  replace hm_z := rn_iaload (N := 16) (q := 4) (v := rg_v g 191 4) (am_cur_of (i := (73, 1, .iaload, (0, 0, 0), 0)) (by decide +kernel)) (by decide +kernel) rfl ((rg_v_other (by omega)).trans ((rg_v_other (by omega)).trans ((rg_v_other (by omega)).trans ((rg_v_other (by omega)).trans (rfl))))) hm_z
  obtain ⟨p110_z, hm_z⟩ := hm_z
  replace hm_z := rn_iastore (N := 16) (q := 0) (am_cur_of (i := (74, 1, .iastore, (0, 0, 0), 0)) (by decide +kernel)) (by decide +kernel) rfl hm_z
  obtain ⟨p111_z, hm_z⟩ := hm_z
  replace hm_z := rn_aload_n (am_cur_of (i := (75, 1, .aload_n 0, (0, 0, 0), 0)) (by decide +kernel)) g0_z hm_z
  replace hm_z := rn_getR (x := 192) (am_cur_of (i := (76, 3, .getfield 97, (12, 54, 1438), 0)) (by decide +kernel)) (by decide +kernel) hm_z
  replace hm_z := rn_iconst (w := 4) (am_cur_of (i := (79, 1, .iconst 4, (0, 0, 0), 0)) (by decide +kernel)) (by decide) hm_z
  replace hm_z := rn_iload_n (am_cur_of (i := (80, 1, .iload_n 1, (0, 0, 0), 0)) (by decide +kernel)) g1_z hm_z
  replace hm_z := rn_imul (w := 0) (am_cur_of (i := (81, 1, .imul, (0, 0, 0), 0)) (by decide +kernel)) (by decide) hm_z
  replace hm_z := rn_iload_n (am_cur_of (i := (82, 1, .iload_n 3, (0, 0, 0), 0)) (by decide +kernel)) g3_z hm_z
  replace hm_z := rn_iadd (w := 0) (am_cur_of (i := (83, 1, .iadd, (0, 0, 0), 0)) (by decide +kernel)) (by decide) hm_z
  replace hm_z := rn_aload_n (am_cur_of (i := (84, 1, .aload_n 0, (0, 0, 0), 0)) (by decide +kernel)) g0_z hm_z
  replace hm_z := rn_getR (x := 192) (am_cur_of (i := (85, 3, .getfield 97, (12, 54, 1438), 0)) (by decide +kernel)) (by decide +kernel) hm_z
  replace hm_z := rn_iconst (w := 4) (am_cur_of (i := (88, 1, .iconst 4, (0, 0, 0), 0)) (by decide +kernel)) (by decide) hm_z
  replace hm_z := rn_iload_n (am_cur_of (i := (89, 1, .iload_n 2, (0, 0, 0), 0)) (by decide +kernel)) g2_z hm_z
  replace hm_z := rn_imul (w := 4) (am_cur_of (i := (90, 1, .imul, (0, 0, 0), 0)) (by decide +kernel)) (by decide) hm_z
  replace hm_z := rn_iload_n (am_cur_of (i := (91, 1, .iload_n 3, (0, 0, 0), 0)) (by decide +kernel)) g3_z hm_z
  replace hm_z := rn_iadd (w := 4) (am_cur_of (i := (92, 1, .iadd, (0, 0, 0), 0)) (by decide +kernel)) (by decide) hm_z
  replace hm_z := rn_iaload (N := 16) (q := 4) (v := rg_v g 192 4) (am_cur_of (i := (93, 1, .iaload, (0, 0, 0), 0)) (by decide +kernel)) (by decide +kernel) rfl ((rg_v_other (by omega)).trans ((rg_v_other (by omega)).trans ((rg_v_other (by omega)).trans ((rg_v_other (by omega)).trans ((rg_v_other (by omega)).trans (rfl)))))) hm_z
  obtain ⟨p112_z, hm_z⟩ := hm_z
  replace hm_z := rn_iastore (N := 16) (q := 0) (am_cur_of (i := (94, 1, .iastore, (0, 0, 0), 0)) (by decide +kernel)) (by decide +kernel) rfl hm_z
  obtain ⟨p113_z, hm_z⟩ := hm_z
  replace hm_z := rn_aload_n (am_cur_of (i := (95, 1, .aload_n 0, (0, 0, 0), 0)) (by decide +kernel)) g0_z hm_z
  replace hm_z := rn_getR (x := 193) (am_cur_of (i := (96, 3, .getfield 100, (12, 55, 1439), 0)) (by decide +kernel)) (by decide +kernel) hm_z
  replace hm_z := rn_iconst (w := 4) (am_cur_of (i := (99, 1, .iconst 4, (0, 0, 0), 0)) (by decide +kernel)) (by decide) hm_z
  replace hm_z := rn_iload_n (am_cur_of (i := (100, 1, .iload_n 1, (0, 0, 0), 0)) (by decide +kernel)) g1_z hm_z
  replace hm_z := rn_imul (w := 0) (am_cur_of (i := (101, 1, .imul, (0, 0, 0), 0)) (by decide +kernel)) (by decide) hm_z
  replace hm_z := rn_iload_n (am_cur_of (i := (102, 1, .iload_n 3, (0, 0, 0), 0)) (by decide +kernel)) g3_z hm_z
  replace hm_z := rn_iadd (w := 0) (am_cur_of (i := (103, 1, .iadd, (0, 0, 0), 0)) (by decide +kernel)) (by decide) hm_z
  replace hm_z := rn_aload_n (am_cur_of (i := (104, 1, .aload_n 0, (0, 0, 0), 0)) (by decide +kernel)) g0_z hm_z
  replace hm_z := rn_getR (x := 193) (am_cur_of (i := (105, 3, .getfield 100, (12, 55, 1439), 0)) (by decide +kernel)) (by decide +kernel) hm_z
  replace hm_z := rn_iconst (w := 4) (am_cur_of (i := (108, 1, .iconst 4, (0, 0, 0), 0)) (by decide +kernel)) (by decide) hm_z
  replace hm_z := rn_iload_n (am_cur_of (i := (109, 1, .iload_n 2, (0, 0, 0), 0)) (by decide +kernel)) g2_z hm_z
  replace hm_z := rn_imul (w := 4) (am_cur_of (i := (110, 1, .imul, (0, 0, 0), 0)) (by decide +kernel)) (by decide) hm_z
  replace hm_z := rn_iload_n (am_cur_of (i := (111, 1, .iload_n 3, (0, 0, 0), 0)) (by decide +kernel)) g3_z hm_z
  replace hm_z := rn_iadd (w := 4) (am_cur_of (i := (112, 1, .iadd, (0, 0, 0), 0)) (by decide +kernel)) (by decide) hm_z
  replace hm_z := rn_iaload (N := 16) (q := 4) (v := rg_v g 193 4) (am_cur_of (i := (113, 1, .iaload, (0, 0, 0), 0)) (by decide +kernel)) (by decide +kernel) rfl ((rg_v_other (by omega)).trans ((rg_v_other (by omega)).trans ((rg_v_other (by omega)).trans ((rg_v_other (by omega)).trans ((rg_v_other (by omega)).trans ((rg_v_other (by omega)).trans (rfl))))))) hm_z
  obtain ⟨p114_z, hm_z⟩ := hm_z
  replace hm_z := rn_iastore (N := 16) (q := 0) (am_cur_of (i := (114, 1, .iastore, (0, 0, 0), 0)) (by decide +kernel)) (by decide +kernel) rfl hm_z
  obtain ⟨p115_z, hm_z⟩ := hm_z
  replace hm_z := rn_iinc (w := 1) (am_cur_of (i := (115, 3, .iinc 3 1, (0, 0, 0), 0)) (by decide +kernel)) g3_z (by decide) hm_z
  obtain ⟨_, s116_z, s117_z, g3_z, hm_z⟩ := hm_z
  replace g0_z := s116_z 0 _ (by decide) rfl g0_z
  replace g1_z := s116_z 1 _ (by decide) rfl g1_z
  replace g2_z := s116_z 2 _ (by decide) rfl g2_z
  clear s116_z s117_z
  replace hm_z := rn_goto (am_cur_of (i := (118, 3, .goto (-68), (34, 0, 0), 0)) (by decide +kernel)) hm_z
  replace hm_z := rn_iload_n (am_cur_of (i := (50, 1, .iload_n 3, (0, 0, 0), 0)) (by decide +kernel)) g3_z hm_z
  replace hm_z := rn_iconst (w := 4) (am_cur_of (i := (51, 1, .iconst 4, (0, 0, 0), 0)) (by decide +kernel)) (by decide) hm_z
  replace hm_z := rn_cmpF (am_cur_of (i := (52, 3, .if_icmp .ge 69, (87, 0, 0), 0)) (by decide +kernel)) (by decide) hm_z
  replace hm_z := rn_aload_n (am_cur_of (i := (55, 1, .aload_n 0, (0, 0, 0), 0)) (by decide +kernel)) g0_z hm_z
  replace hm_z := rn_getR (x := 191) (am_cur_of (i := (56, 3, .getfield 94, (12, 53, 1437), 0)) (by decide +kernel)) (by decide +kernel) hm_z
  replace hm_z := rn_iconst (w := 4) (am_cur_of (i := (59, 1, .iconst 4, (0, 0, 0), 0)) (by decide +kernel)) (by decide) hm_z
  replace hm_z := rn_iload_n (am_cur_of (i := (60, 1, .iload_n 1, (0, 0, 0), 0)) (by decide +kernel)) g1_z hm_z
  replace hm_z := rn_imul (w := 0) (am_cur_of (i := (61, 1, .imul, (0, 0, 0), 0)) (by decide +kernel)) (by decide) hm_z
  replace hm_z := rn_iload_n (am_cur_of (i := (62, 1, .iload_n 3, (0, 0, 0), 0)) (by decide +kernel)) g3_z hm_z
  replace hm_z := rn_iadd (w := 1) (am_cur_of (i := (63, 1, .iadd, (0, 0, 0), 0)) (by decide +kernel)) (by decide) hm_z
  replace hm_z := rn_aload_n (am_cur_of (i := (64, 1, .aload_n 0, (0, 0, 0), 0)) (by decide +kernel)) g0_z hm_z
  replace hm_z := rn_getR (x := 191) (am_cur_of (i := (65, 3, .getfield 94, (12, 53, 1437), 0)) (by decide +kernel)) (by decide +kernel) hm_z
  replace hm_z := rn_iconst (w := 4) (am_cur_of (i := (68, 1, .iconst 4, (0, 0, 0), 0)) (by decide +kernel)) (by decide) hm_z
  replace hm_z := rn_iload_n (am_cur_of (i := (69, 1, .iload_n 2, (0, 0, 0), 0)) (by decide +kernel)) g2_z hm_z
  replace hm_z := rn_imul (w := 4) (am_cur_of (i := (70, 1, .imul, (0, 0, 0), 0)) (by decide +kernel)) (by decide) hm_z
  replace hm_z := rn_iload_n (am_cur_of (i := (71, 1, .iload_n 3, (0, 0, 0), 0)) (by decide +kernel)) g3_z hm_z
  replace hm_z := rn_iadd (w := 5) (am_cur_of (i := (72, 1, .iadd, (0, 0, 0), 0)) (by decide +kernel)) (by decide) hm_z
  replace hm_z := rn_iaload (N := 16) (q := 5) (v := rg_v g 191 5) (am_cur_of (i := (73, 1, .iaload, (0, 0, 0), 0)) (by decide +kernel)) (by decide +kernel) rfl ((rg_v_other (by omega)).trans ((rg_v_other (by omega)).trans ((rg_v_other (by omega)).trans ((rg_v_other (by omega)).trans ((rg_v_other (by omega)).trans ((rg_v_other (by omega)).trans ((rg_v_other (by omega)).trans (rfl)))))))) hm_z
  obtain ⟨p118_z, hm_z⟩ := hm_z
  replace hm_z := rn_iastore (N := 16) (q := 1) (am_cur_of (i := (74, 1, .iastore, (0, 0, 0), 0)) (by decide +kernel)) (by decide +kernel) rfl hm_z
  obtain ⟨p119_z, hm_z⟩ := hm_z
  replace hm_z := rn_aload_n (am_cur_of (i := (75, 1, .aload_n 0, (0, 0, 0), 0)) (by decide +kernel)) g0_z hm_z
  replace hm_z := rn_getR (x := 192) (am_cur_of (i := (76, 3, .getfield 97, (12, 54, 1438), 0)) (by decide +kernel)) (by decide +kernel) hm_z
  replace hm_z := rn_iconst (w := 4) (am_cur_of (i := (79, 1, .iconst 4, (0, 0, 0), 0)) (by decide +kernel)) (by decide) hm_z
  replace hm_z := rn_iload_n (am_cur_of (i := (80, 1, .iload_n 1, (0, 0, 0), 0)) (by decide +kernel)) g1_z hm_z
  replace hm_z := rn_imul (w := 0) (am_cur_of (i := (81, 1, .imul, (0, 0, 0), 0)) (by decide +kernel)) (by decide) hm_z
  replace hm_z := rn_iload_n (am_cur_of (i := (82, 1, .iload_n 3, (0, 0, 0), 0)) (by decide +kernel)) g3_z hm_z
  replace hm_z := rn_iadd (w := 1) (am_cur_of (i := (83, 1, .iadd, (0, 0, 0), 0)) (by decide +kernel)) (by decide) hm_z
  replace hm_z := rn_aload_n (am_cur_of (i := (84, 1, .aload_n 0, (0, 0, 0), 0)) (by decide +kernel)) g0_z hm_z
  replace hm_z := rn_getR (x := 192) (am_cur_of (i := (85, 3, .getfield 97, (12, 54, 1438), 0)) (by decide +kernel)) (by decide +kernel) hm_z
  replace hm_z := rn_iconst (w := 4) (am_cur_of (i := (88, 1, .iconst 4, (0, 0, 0), 0)) (by decide +kernel)) (by decide) hm_z
  replace hm_z := rn_iload_n (am_cur_of (i := (89, 1, .iload_n 2, (0, 0, 0), 0)) (by decide +kernel)) g2_z hm_z
  replace hm_z := rn_imul (w := 4) (am_cur_of (i := (90, 1, .imul, (0, 0, 0), 0)) (by decide +kernel)) (by decide) hm_z
  replace hm_z := rn_iload_n (am_cur_of (i := (91, 1, .iload_n 3, (0, 0, 0), 0)) (by decide +kernel)) g3_z hm_z
  replace hm_z := rn_iadd (w := 5) (am_cur_of (i := (92, 1, .iadd, (0, 0, 0), 0)) (by decide +kernel)) (by decide) hm_z
  replace hm_z := rn_iaload (N := 16) (q := 5) (v := rg_v g 192 5) (am_cur_of (i := (93, 1, .iaload, (0, 0, 0), 0)) (by decide +kernel)) (by decide +kernel) rfl ((rg_v_other (by omega)).trans ((rg_v_other (by omega)).trans ((rg_v_other (by omega)).trans ((rg_v_other (by omega)).trans ((rg_v_other (by omega)).trans ((rg_v_other (by omega)).trans ((rg_v_other (by omega)).trans ((rg_v_other (by omega)).trans (rfl))))))))) hm_z
  obtain ⟨p120_z, hm_z⟩ := hm_z
  replace hm_z := rn_iastore (N := 16) (q := 1) (am_cur_of (i := (94, 1, .iastore, (0, 0, 0), 0)) (by decide +kernel)) (by decide +kernel) rfl hm_z
  obtain ⟨p121_z, hm_z⟩ := hm_z
  replace hm_z := rn_aload_n (am_cur_of (i := (95, 1, .aload_n 0, (0, 0, 0), 0)) (by decide +kernel)) g0_z hm_z
  replace hm_z := rn_getR (x := 193) (am_cur_of (i := (96, 3, .getfield 100, (12, 55, 1439), 0)) (by decide +kernel)) (by decide +kernel) hm_z
  replace hm_z := rn_iconst (w := 4) (am_cur_of (i := (99, 1, .iconst 4, (0, 0, 0), 0)) (by decide +kernel)) (by decide) hm_z
  replace hm_z := rn_iload_n (am_cur_of (i := (100, 1, .iload_n 1, (0, 0, 0), 0)) (by decide +kernel)) g1_z hm_z
  replace hm_z := rn_imul (w := 0) (am_cur_of (i := (101, 1, .imul, (0, 0, 0), 0)) (by decide +kernel)) (by decide) hm_z
  replace hm_z := rn_iload_n (am_cur_of (i := (102, 1, .iload_n 3, (0, 0, 0), 0)) (by decide +kernel)) g3_z hm_z
  replace hm_z := rn_iadd (w := 1) (am_cur_of (i := (103, 1, .iadd, (0, 0, 0), 0)) (by decide +kernel)) (by decide) hm_z
  replace hm_z := rn_aload_n (am_cur_of (i := (104, 1, .aload_n 0, (0, 0, 0), 0)) (by decide +kernel)) g0_z hm_z
  replace hm_z := rn_getR (x := 193) (am_cur_of (i := (105, 3, .getfield 100, (12, 55, 1439), 0)) (by decide +kernel)) (by decide +kernel) hm_z
  replace hm_z := rn_iconst (w := 4) (am_cur_of (i := (108, 1, .iconst 4, (0, 0, 0), 0)) (by decide +kernel)) (by decide) hm_z
  replace hm_z := rn_iload_n (am_cur_of (i := (109, 1, .iload_n 2, (0, 0, 0), 0)) (by decide +kernel)) g2_z hm_z
  replace hm_z := rn_imul (w := 4) (am_cur_of (i := (110, 1, .imul, (0, 0, 0), 0)) (by decide +kernel)) (by decide) hm_z
  replace hm_z := rn_iload_n (am_cur_of (i := (111, 1, .iload_n 3, (0, 0, 0), 0)) (by decide +kernel)) g3_z hm_z
  replace hm_z := rn_iadd (w := 5) (am_cur_of (i := (112, 1, .iadd, (0, 0, 0), 0)) (by decide +kernel)) (by decide) hm_z
  replace hm_z := rn_iaload (N := 16) (q := 5) (v := rg_v g 193 5) (am_cur_of (i := (113, 1, .iaload, (0, 0, 0), 0)) (by decide +kernel)) (by decide +kernel) rfl ((rg_v_other (by omega)).trans ((rg_v_other (by omega)).trans ((rg_v_other (by omega)).trans ((rg_v_other (by omega)).trans ((rg_v_other (by omega)).trans ((rg_v_other (by omega)).trans ((rg_v_other (by omega)).trans ((rg_v_other (by omega)).trans ((rg_v_other (by omega)).trans (rfl)))))))))) hm_z
  obtain ⟨p122_z, hm_z⟩ := hm_z
  replace hm_z := rn_iastore (N := 16) (q := 1) (am_cur_of (i := (114, 1, .iastore, (0, 0, 0), 0)) (by decide +kernel)) (by decide +kernel) rfl hm_z
  obtain ⟨p123_z, hm_z⟩ := hm_z
  replace hm_z := rn_iinc (w := 2) (am_cur_of (i := (115, 3, .iinc 3 1, (0, 0, 0), 0)) (by decide +kernel)) g3_z (by decide) hm_z
  obtain ⟨_, s124_z, s125_z, g3_z, hm_z⟩ := hm_z
  replace g0_z := s124_z 0 _ (by decide) rfl g0_z
  replace g1_z := s124_z 1 _ (by decide) rfl g1_z
  replace g2_z := s124_z 2 _ (by decide) rfl g2_z
  clear s124_z s125_z
  replace hm_z := rn_goto (am_cur_of (i := (118, 3, .goto (-68), (34, 0, 0), 0)) (by decide +kernel)) hm_z
  replace hm_z := rn_iload_n (am_cur_of (i := (50, 1, .iload_n 3, (0, 0, 0), 0)) (by decide +kernel)) g3_z hm_z
  replace hm_z := rn_iconst (w := 4) (am_cur_of (i := (51, 1, .iconst 4, (0, 0, 0), 0)) (by decide +kernel)) (by decide) hm_z
  replace hm_z := rn_cmpF (am_cur_of (i := (52, 3, .if_icmp .ge 69, (87, 0, 0), 0)) (by decide +kernel)) (by decide) hm_z
  replace hm_z := rn_aload_n (am_cur_of (i := (55, 1, .aload_n 0, (0, 0, 0), 0)) (by decide +kernel)) g0_z hm_z
  replace hm_z := rn_getR (x := 191) (am_cur_of (i := (56, 3, .getfield 94, (12, 53, 1437), 0)) (by decide +kernel)) (by decide +kernel) hm_z
  replace hm_z := rn_iconst (w := 4) (am_cur_of (i := (59, 1, .iconst 4, (0, 0, 0), 0)) (by decide +kernel)) (by decide) hm_z
  replace hm_z := rn_iload_n (am_cur_of (i := (60, 1, .iload_n 1, (0, 0, 0), 0)) (by decide +kernel)) g1_z hm_z
  replace hm_z := rn_imul (w := 0) (am_cur_of (i := (61, 1, .imul, (0, 0, 0), 0)) (by decide +kernel)) (by decide) hm_z
  replace hm_z := rn_iload_n (am_cur_of (i := (62, 1, .iload_n 3, (0, 0, 0), 0)) (by decide +kernel)) g3_z hm_z
  replace hm_z := rn_iadd (w := 2) (am_cur_of (i := (63, 1, .iadd, (0, 0, 0), 0)) (by decide +kernel)) (by decide) hm_z
  replace hm_z := rn_aload_n (am_cur_of (i := (64, 1, .aload_n 0, (0, 0, 0), 0)) (by decide +kernel)) g0_z hm_z
  replace hm_z := rn_getR (x := 191) (am_cur_of (i := (65, 3, .getfield 94, (12, 53, 1437), 0)) (by decide +kernel)) (by decide +kernel) hm_z
  replace hm_z := rn_iconst (w := 4) (am_cur_of (i := (68, 1, .iconst 4, (0, 0, 0), 0)) (by decide +kernel)) (by decide) hm_z
  replace hm_z := rn_iload_n (am_cur_of (i := (69, 1, .iload_n 2, (0, 0, 0), 0)) (by decide +kernel)) g2_z hm_z
  replace hm_z := rn_imul (w := 4) (am_cur_of (i := (70, 1, .imul, (0, 0, 0), 0)) (by decide +kernel)) (by decide) hm_z
  replace hm_z := rn_iload_n (am_cur_of (i := (71, 1, .iload_n 3, (0, 0, 0), 0)) (by decide +kernel)) g3_z hm_z
  replace hm_z := rn_iadd (w := 6) (am_cur_of (i := (72, 1, .iadd, (0, 0, 0), 0)) (by decide +kernel)) (by decide) hm_z
  replace hm_z := rn_iaload (N := 16) (q := 6) (v := rg_v g 191 6) (am_cur_of (i := (73, 1, .iaload, (0, 0, 0), 0)) (by decide +kernel)) (by decide +kernel) rfl ((rg_v_other (by omega)).trans ((rg_v_other (by omega)).trans ((rg_v_other (by omega)).trans ((rg_v_other (by omega)).trans ((rg_v_other (by omega)).trans ((rg_v_other (by omega)).trans ((rg_v_other (by omega)).trans ((rg_v_other (by omega)).trans ((rg_v_other (by omega)).trans ((rg_v_other (by omega)).trans (rfl))))))))))) hm_z
  obtain ⟨p126_z, hm_z⟩ := hm_z
  replace hm_z := rn_iastore (N := 16) (q := 2) (am_cur_of (i := (74, 1, .iastore, (0, 0, 0), 0)) (by decide +kernel)) (by decide +kernel) rfl hm_z
  obtain ⟨p127_z, hm_z⟩ := hm_z
  replace hm_z := rn_aload_n (am_cur_of (i := (75, 1, .aload_n 0, (0, 0, 0), 0)) (by decide +kernel)) g0_z hm_z
  replace hm_z := rn_getR (x := 192) (am_cur_of (i := (76, 3, .getfield 97, (12, 54, 1438), 0)) (by decide +kernel)) (by decide +kernel) hm_z
  replace hm_z := rn_iconst (w := 4) (am_cur_of (i := (79, 1, .iconst 4, (0, 0, 0), 0)) (by decide +kernel)) (by decide) hm_z
  replace hm_z := rn_iload_n (am_cur_of (i := (80, 1, .iload_n 1, (0, 0, 0), 0)) (by decide +kernel)) g1_z hm_z
  replace hm_z := rn_imul (w := 0) (am_cur_of (i := (81, 1, .imul, (0, 0, 0), 0)) (by decide +kernel)) (by decide) hm_z
  replace hm_z := rn_iload_n (am_cur_of (i := (82, 1, .iload_n 3, (0, 0, 0), 0)) (by decide +kernel)) g3_z hm_z
  replace hm_z := rn_iadd (w := 2) (am_cur_of (i := (83, 1, .iadd, (0, 0, 0), 0)) (by decide +kernel)) (by decide) hm_z
  replace hm_z := rn_aload_n (am_cur_of (i := (84, 1, .aload_n 0, (0, 0, 0), 0)) (by decide +kernel)) g0_z hm_z
  replace hm_z := rn_getR (x := 192) (am_cur_of (i := (85, 3, .getfield 97, (12, 54, 1438), 0)) (by decide +kernel)) (by decide +kernel) hm_z
  replace hm_z := rn_iconst (w := 4) (am_cur_of (i := (88, 1, .iconst 4, (0, 0, 0), 0)) (by decide +kernel)) (by decide) hm_z
  replace hm_z := rn_iload_n (am_cur_of (i := (89, 1, .iload_n 2, (0, 0, 0), 0)) (by decide +kernel)) g2_z hm_z
  replace hm_z := rn_imul (w := 4) (am_cur_of (i := (90, 1, .imul, (0, 0, 0), 0)) (by decide +kernel)) (by decide) hm_z
  replace hm_z := rn_iload_n (am_cur_of (i := (91, 1, .iload_n 3, (0, 0, 0), 0)) (by decide +kernel)) g3_z hm_z
  replace hm_z := rn_iadd (w := 6) (am_cur_of (i := (92, 1, .iadd, (0, 0, 0), 0)) (by decide +kernel)) (by decide) hm_z
  replace hm_z := rn_iaload (N := 16) (q := 6) (v := rg_v g 192 6) (am_cur_of (i := (93, 1, .iaload, (0, 0, 0), 0)) (by decide +kernel)) (by decide +kernel) rfl ((rg_v_other (by omega)).trans ((rg_v_other (by omega)).trans ((rg_v_other (by omega)).trans ((rg_v_other (by omega)).trans ((rg_v_other (by omega)).trans ((rg_v_other (by omega)).trans ((rg_v_other (by omega)).trans ((rg_v_other (by omega)).trans ((rg_v_other (by omega)).trans ((rg_v_other (by omega)).trans ((rg_v_other (by omega)).trans (rfl)))))))))))) hm_z
  obtain ⟨p128_z, hm_z⟩ := hm_z
  replace hm_z := rn_iastore (N := 16) (q := 2) (am_cur_of (i := (94, 1, .iastore, (0, 0, 0), 0)) (by decide +kernel)) (by decide +kernel) rfl hm_z
  obtain ⟨p129_z, hm_z⟩ := hm_z
  replace hm_z := rn_aload_n (am_cur_of (i := (95, 1, .aload_n 0, (0, 0, 0), 0)) (by decide +kernel)) g0_z hm_z
  replace hm_z := rn_getR (x := 193) (am_cur_of (i := (96, 3, .getfield 100, (12, 55, 1439), 0)) (by decide +kernel)) (by decide +kernel) hm_z
  replace hm_z := rn_iconst (w := 4) (am_cur_of (i := (99, 1, .iconst 4, (0, 0, 0), 0)) (by decide +kernel)) (by decide) hm_z
  replace hm_z := rn_iload_n (am_cur_of (i := (100, 1, .iload_n 1, (0, 0, 0), 0)) (by decide +kernel)) g1_z hm_z
  replace hm_z := rn_imul (w := 0) (am_cur_of (i := (101, 1, .imul, (0, 0, 0), 0)) (by decide +kernel)) (by decide) hm_z
  replace hm_z := rn_iload_n (am_cur_of (i := (102, 1, .iload_n 3, (0, 0, 0), 0)) (by decide +kernel)) g3_z hm_z
  replace hm_z := rn_iadd (w := 2) (am_cur_of (i := (103, 1, .iadd, (0, 0, 0), 0)) (by decide +kernel)) (by decide) hm_z
  replace hm_z := rn_aload_n (am_cur_of (i := (104, 1, .aload_n 0, (0, 0, 0), 0)) (by decide +kernel)) g0_z hm_z
  replace hm_z := rn_getR (x := 193) (am_cur_of (i := (105, 3, .getfield 100, (12, 55, 1439), 0)) (by decide +kernel)) (by decide +kernel) hm_z
  replace hm_z := rn_iconst (w := 4) (am_cur_of (i := (108, 1, .iconst 4, (0, 0, 0), 0)) (by decide +kernel)) (by decide) hm_z
  replace hm_z := rn_iload_n (am_cur_of (i := (109, 1, .iload_n 2, (0, 0, 0), 0)) (by decide +kernel)) g2_z hm_z
  replace hm_z := rn_imul (w := 4) (am_cur_of (i := (110, 1, .imul, (0, 0, 0), 0)) (by decide +kernel)) (by decide) hm_z
  replace hm_z := rn_iload_n (am_cur_of (i := (111, 1, .iload_n 3, (0, 0, 0), 0)) (by decide +kernel)) g3_z hm_z
  replace hm_z := rn_iadd (w := 6) (am_cur_of (i := (112, 1, .iadd, (0, 0, 0), 0)) (by decide +kernel)) (by decide) hm_z
  replace hm_z := rn_iaload (N := 16) (q := 6) (v := rg_v g 193 6) (am_cur_of (i := (113, 1, .iaload, (0, 0, 0), 0)) (by decide +kernel)) (by decide +kernel) rfl ((rg_v_other (by omega)).trans ((rg_v_other (by omega)).trans ((rg_v_other (by omega)).trans ((rg_v_other (by omega)).trans ((rg_v_other (by omega)).trans ((rg_v_other (by omega)).trans ((rg_v_other (by omega)).trans ((rg_v_other (by omega)).trans ((rg_v_other (by omega)).trans ((rg_v_other (by omega)).trans ((rg_v_other (by omega)).trans ((rg_v_other (by omega)).trans (rfl))))))))))))) hm_z
  obtain ⟨p130_z, hm_z⟩ := hm_z
  replace hm_z := rn_iastore (N := 16) (q := 2) (am_cur_of (i := (114, 1, .iastore, (0, 0, 0), 0)) (by decide +kernel)) (by decide +kernel) rfl hm_z
  obtain ⟨p131_z, hm_z⟩ := hm_z
  replace hm_z := rn_iinc (w := 3) (am_cur_of (i := (115, 3, .iinc 3 1, (0, 0, 0), 0)) (by decide +kernel)) g3_z (by decide) hm_z
  obtain ⟨_, s132_z, s133_z, g3_z, hm_z⟩ := hm_z
  replace g0_z := s132_z 0 _ (by decide) rfl g0_z
  replace g1_z := s132_z 1 _ (by decide) rfl g1_z
  replace g2_z := s132_z 2 _ (by decide) rfl g2_z
  clear s132_z s133_z
  replace hm_z := rn_goto (am_cur_of (i := (118, 3, .goto (-68), (34, 0, 0), 0)) (by decide +kernel)) hm_z
  replace hm_z := rn_iload_n (am_cur_of (i := (50, 1, .iload_n 3, (0, 0, 0), 0)) (by decide +kernel)) g3_z hm_z
  replace hm_z := rn_iconst (w := 4) (am_cur_of (i := (51, 1, .iconst 4, (0, 0, 0), 0)) (by decide +kernel)) (by decide) hm_z
  replace hm_z := rn_cmpF (am_cur_of (i := (52, 3, .if_icmp .ge 69, (87, 0, 0), 0)) (by decide +kernel)) (by decide) hm_z
  replace hm_z := rn_aload_n (am_cur_of (i := (55, 1, .aload_n 0, (0, 0, 0), 0)) (by decide +kernel)) g0_z hm_z
  replace hm_z := rn_getR (x := 191) (am_cur_of (i := (56, 3, .getfield 94, (12, 53, 1437), 0)) (by decide +kernel)) (by decide +kernel) hm_z
  replace hm_z := rn_iconst (w := 4) (am_cur_of (i := (59, 1, .iconst 4, (0, 0, 0), 0)) (by decide +kernel)) (by decide) hm_z
  replace hm_z := rn_iload_n (am_cur_of (i := (60, 1, .iload_n 1, (0, 0, 0), 0)) (by decide +kernel)) g1_z hm_z
  replace hm_z := rn_imul (w := 0) (am_cur_of (i := (61, 1, .imul, (0, 0, 0), 0)) (by decide +kernel)) (by decide) hm_z
  replace hm_z := rn_iload_n (am_cur_of (i := (62, 1, .iload_n 3, (0, 0, 0), 0)) (by decide +kernel)) g3_z hm_z
  replace hm_z := rn_iadd (w := 3) (am_cur_of (i := (63, 1, .iadd, (0, 0, 0), 0)) (by decide +kernel)) (by decide) hm_z
  replace hm_z := rn_aload_n (am_cur_of (i := (64, 1, .aload_n 0, (0, 0, 0), 0)) (by decide +kernel)) g0_z hm_z
  replace hm_z := rn_getR (x := 191) (am_cur_of (i := (65, 3, .getfield 94, (12, 53, 1437), 0)) (by decide +kernel)) (by decide +kernel) hm_z
  replace hm_z := rn_iconst (w := 4) (am_cur_of (i := (68, 1, .iconst 4, (0, 0, 0), 0)) (by decide +kernel)) (by decide) hm_z
  replace hm_z := rn_iload_n (am_cur_of (i := (69, 1, .iload_n 2, (0, 0, 0), 0)) (by decide +kernel)) g2_z hm_z
  replace hm_z := rn_imul (w := 4) (am_cur_of (i := (70, 1, .imul, (0, 0, 0), 0)) (by decide +kernel)) (by decide) hm_z
  replace hm_z := rn_iload_n (am_cur_of (i := (71, 1, .iload_n 3, (0, 0, 0), 0)) (by decide +kernel)) g3_z hm_z
  replace hm_z := rn_iadd (w := 7) (am_cur_of (i := (72, 1, .iadd, (0, 0, 0), 0)) (by decide +kernel)) (by decide) hm_z
  replace hm_z := rn_iaload (N := 16) (q := 7) (v := rg_v g 191 7) (am_cur_of (i := (73, 1, .iaload, (0, 0, 0), 0)) (by decide +kernel)) (by decide +kernel) rfl ((rg_v_other (by omega)).trans ((rg_v_other (by omega)).trans ((rg_v_other (by omega)).trans ((rg_v_other (by omega)).trans ((rg_v_other (by omega)).trans ((rg_v_other (by omega)).trans ((rg_v_other (by omega)).trans ((rg_v_other (by omega)).trans ((rg_v_other (by omega)).trans ((rg_v_other (by omega)).trans ((rg_v_other (by omega)).trans ((rg_v_other (by omega)).trans ((rg_v_other (by omega)).trans (rfl)))))))))))))) hm_z
  obtain ⟨p134_z, hm_z⟩ := hm_z
  replace hm_z := rn_iastore (N := 16) (q := 3) (am_cur_of (i := (74, 1, .iastore, (0, 0, 0), 0)) (by decide +kernel)) (by decide +kernel) rfl hm_z
  obtain ⟨p135_z, hm_z⟩ := hm_z
  replace hm_z := rn_aload_n (am_cur_of (i := (75, 1, .aload_n 0, (0, 0, 0), 0)) (by decide +kernel)) g0_z hm_z
  replace hm_z := rn_getR (x := 192) (am_cur_of (i := (76, 3, .getfield 97, (12, 54, 1438), 0)) (by decide +kernel)) (by decide +kernel) hm_z
  replace hm_z := rn_iconst (w := 4) (am_cur_of (i := (79, 1, .iconst 4, (0, 0, 0), 0)) (by decide +kernel)) (by decide) hm_z
  replace hm_z := rn_iload_n (am_cur_of (i := (80, 1, .iload_n 1, (0, 0, 0), 0)) (by decide +kernel)) g1_z hm_z
  replace hm_z := rn_imul (w := 0) (am_cur_of (i := (81, 1, .imul, (0, 0, 0), 0)) (by decide +kernel)) (by decide) hm_z
  replace hm_z := rn_iload_n (am_cur_of (i := (82, 1, .iload_n 3, (0, 0, 0), 0)) (by decide +kernel)) g3_z hm_z
  replace hm_z := rn_iadd (w := 3) (am_cur_of (i := (83, 1, .iadd, (0, 0, 0), 0)) (by decide +kernel)) (by decide) hm_z
  replace hm_z := rn_aload_n (am_cur_of (i := (84, 1, .aload_n 0, (0, 0, 0), 0)) (by decide +kernel)) g0_z hm_z
  replace hm_z := rn_getR (x := 192) (am_cur_of (i := (85, 3, .getfield 97, (12, 54, 1438), 0)) (by decide +kernel)) (by decide +kernel) hm_z
  replace hm_z := rn_iconst (w := 4) (am_cur_of (i := (88, 1, .iconst 4, (0, 0, 0), 0)) (by decide +kernel)) (by decide) hm_z
  replace hm_z := rn_iload_n (am_cur_of (i := (89, 1, .iload_n 2, (0, 0, 0), 0)) (by decide +kernel)) g2_z hm_z
  replace hm_z := rn_imul (w := 4) (am_cur_of (i := (90, 1, .imul, (0, 0, 0), 0)) (by decide +kernel)) (by decide) hm_z
  replace hm_z := rn_iload_n (am_cur_of (i := (91, 1, .iload_n 3, (0, 0, 0), 0)) (by decide +kernel)) g3_z hm_z
  replace hm_z := rn_iadd (w := 7) (am_cur_of (i := (92, 1, .iadd, (0, 0, 0), 0)) (by decide +kernel)) (by decide) hm_z
  replace hm_z := rn_iaload (N := 16) (q := 7) (v := rg_v g 192 7) (am_cur_of (i := (93, 1, .iaload, (0, 0, 0), 0)) (by decide +kernel)) (by decide +kernel) rfl ((rg_v_other (by omega)).trans ((rg_v_other (by omega)).trans ((rg_v_other (by omega)).trans ((rg_v_other (by omega)).trans ((rg_v_other (by omega)).trans ((rg_v_other (by omega)).trans ((rg_v_other (by omega)).trans ((rg_v_other (by omega)).trans ((rg_v_other (by omega)).trans ((rg_v_other (by omega)).trans ((rg_v_other (by omega)).trans ((rg_v_other (by omega)).trans ((rg_v_other (by omega)).trans ((rg_v_other (by omega)).trans (rfl))))))))))))))) hm_z
  obtain ⟨p136_z, hm_z⟩ := hm_z
  replace hm_z := rn_iastore (N := 16) (q := 3) (am_cur_of (i := (94, 1, .iastore, (0, 0, 0), 0)) (by decide +kernel)) (by decide +kernel) rfl hm_z
  obtain ⟨p137_z, hm_z⟩ := hm_z
  replace hm_z := rn_aload_n (am_cur_of (i := (95, 1, .aload_n 0, (0, 0, 0), 0)) (by decide +kernel)) g0_z hm_z
  replace hm_z := rn_getR (x := 193) (am_cur_of (i := (96, 3, .getfield 100, (12, 55, 1439), 0)) (by decide +kernel)) (by decide +kernel) hm_z
  replace hm_z := rn_iconst (w := 4) (am_cur_of (i := (99, 1, .iconst 4, (0, 0, 0), 0)) (by decide +kernel)) (by decide) hm_z
  replace hm_z := rn_iload_n (am_cur_of (i := (100, 1, .iload_n 1, (0, 0, 0), 0)) (by decide +kernel)) g1_z hm_z
  replace hm_z := rn_imul (w := 0) (am_cur_of (i := (101, 1, .imul, (0, 0, 0), 0)) (by decide +kernel)) (by decide) hm_z
  replace hm_z := rn_iload_n (am_cur_of (i := (102, 1, .iload_n 3, (0, 0, 0), 0)) (by decide +kernel)) g3_z hm_z
  replace hm_z := rn_iadd (w := 3) (am_cur_of (i := (103, 1, .iadd, (0, 0, 0), 0)) (by decide +kernel)) (by decide) hm_z
  replace hm_z := rn_aload_n (am_cur_of (i := (104, 1, .aload_n 0, (0, 0, 0), 0)) (by decide +kernel)) g0_z hm_z
  replace hm_z := rn_getR (x := 193) (am_cur_of (i := (105, 3, .getfield 100, (12, 55, 1439), 0)) (by decide +kernel)) (by decide +kernel) hm_z
  replace hm_z := rn_iconst (w := 4) (am_cur_of (i := (108, 1, .iconst 4, (0, 0, 0), 0)) (by decide +kernel)) (by decide) hm_z
  replace hm_z := rn_iload_n (am_cur_of (i := (109, 1, .iload_n 2, (0, 0, 0), 0)) (by decide +kernel)) g2_z hm_z
  replace hm_z := rn_imul (w := 4) (am_cur_of (i := (110, 1, .imul, (0, 0, 0), 0)) (by decide +kernel)) (by decide) hm_z
  replace hm_z := rn_iload_n (am_cur_of (i := (111, 1, .iload_n 3, (0, 0, 0), 0)) (by decide +kernel)) g3_z hm_z
  replace hm_z := rn_iadd (w := 7) (am_cur_of (i := (112, 1, .iadd, (0, 0, 0), 0)) (by decide +kernel)) (by decide) hm_z
  replace hm_z := rn_iaload (N := 16) (q := 7) (v := rg_v g 193 7) (am_cur_of (i := (113, 1, .iaload, (0, 0, 0), 0)) (by decide +kernel)) (by decide +kernel) rfl ((rg_v_other (by omega)).trans ((rg_v_other (by omega)).trans ((rg_v_other (by omega)).trans ((rg_v_other (by omega)).trans ((rg_v_other (by omega)).trans ((rg_v_other (by omega)).trans ((rg_v_other (by omega)).trans ((rg_v_other (by omega)).trans ((rg_v_other (by omega)).trans ((rg_v_other (by omega)).trans ((rg_v_other (by omega)).trans ((rg_v_other (by omega)).trans ((rg_v_other (by omega)).trans ((rg_v_other (by omega)).trans ((rg_v_other (by omega)).trans (rfl)))))))))))))))) hm_z
  obtain ⟨p138_z, hm_z⟩ := hm_z
  replace hm_z := rn_iastore (N := 16) (q := 3) (am_cur_of (i := (114, 1, .iastore, (0, 0, 0), 0)) (by decide +kernel)) (by decide +kernel) rfl hm_z
  obtain ⟨p139_z, hm_z⟩ := hm_z
  replace hm_z := rn_iinc (w := 4) (am_cur_of (i := (115, 3, .iinc 3 1, (0, 0, 0), 0)) (by decide +kernel)) g3_z (by decide) hm_z
  obtain ⟨_, s140_z, s141_z, g3_z, hm_z⟩ := hm_z
  replace g0_z := s140_z 0 _ (by decide) rfl g0_z
  replace g1_z := s140_z 1 _ (by decide) rfl g1_z
  replace g2_z := s140_z 2 _ (by decide) rfl g2_z
  clear s140_z s141_z
  replace hm_z := rn_goto (am_cur_of (i := (118, 3, .goto (-68), (34, 0, 0), 0)) (by decide +kernel)) hm_z
  replace hm_z := rn_iload_n (am_cur_of (i := (50, 1, .iload_n 3, (0, 0, 0), 0)) (by decide +kernel)) g3_z hm_z
  replace hm_z := rn_iconst (w := 4) (am_cur_of (i := (51, 1, .iconst 4, (0, 0, 0), 0)) (by decide +kernel)) (by decide) hm_z
  replace hm_z := rn_cmpT (am_cur_of (i := (52, 3, .if_icmp .ge 69, (87, 0, 0), 0)) (by decide +kernel)) (by decide) hm_z
  replace hm_z := rn_vret (am_cur_of (i := (121, 1, .return_, (0, 0, 0), 0)) (by decide +kernel)) hm_z
  obtain ⟨e142_z, e143_z⟩ := hm_z
  refine ⟨fun j hj_z => ?_, fun o k ho => ?_⟩
  · rw [e143_z]
    match j, hj_z with
    | 0, _ => rfl
    | 1, _ => rfl
    | 2, _ => rfl
    | 3, _ => rfl
    | 4, _ => rfl
    | 5, _ => rfl
    | 6, _ => rfl
    | 7, _ => rfl
    | 8, _ => rfl
    | 9, _ => rfl
    | 10, _ => rfl
    | 11, _ => rfl
    | 12, _ => rfl
    | 13, _ => rfl
    | 14, _ => rfl
    | 15, _ => rfl
    | 16, _ => rfl
    | j + 17, hj_z => omega
  · rw [e143_z]
    exact (up_ne (bB_ne ho rfl)).trans ((up_ne (bB_ne ho rfl)).trans ((up_ne (bB_ne ho rfl)).trans ((up_ne (bB_ne ho rfl)).trans ((up_ne (bB_ne ho rfl)).trans ((up_ne (bB_ne ho rfl)).trans ((up_ne (bB_ne ho rfl)).trans ((up_ne (bB_ne ho rfl)).trans ((up_ne (bB_ne ho rfl)).trans ((up_ne (bB_ne ho rfl)).trans ((up_ne (bB_ne ho rfl)).trans ((up_ne (bB_ne ho rfl)).trans ((up_ne (bB_ne ho rfl)).trans ((up_ne (bB_ne ho rfl)).trans ((up_ne (bB_ne ho rfl)).trans ((up_ne (bB_ne ho rfl)).trans (rfl))))))))))))))))
theorem ix_1 {i c : Int32} {n : Nat} (i0_z : 0 ≤ i.toInt) (i9_z : i.toInt ≤ 9999) (hc_z : c.toInt = (n : Nat)) (n9_z : n ≤ 99) : (i + c).toInt = i.toInt + n ∧ (i + c).toNatClampNeg = i.toNatClampNeg + n := by
  have a := ab_iadd (x := i) (y := c) (by omega) (by omega)
  have ci_z := rt_cl i0_z
  have cc_z := rt_cl (x := i + c) (by omega)
  exact ⟨by omega, by omega⟩
theorem ix_2 {i a b : Int32} {m n : Nat} (i0_z : 0 ≤ i.toInt) (i9_z : i.toInt ≤ 999) (ha_z : a.toInt = (m : Nat)) (m9_z : m ≤ 99) (hb_z : b.toInt = (n : Nat)) (n9_z : n ≤ 99) : ((i + a) + b).toNatClampNeg = i.toNatClampNeg + (m + n) := by
  have p := ix_1 (n := m) i0_z (by omega) ha_z m9_z
  have q := ix_1 (i := i + a) (n := n) (by omega) (by omega) hb_z n9_z
  omega
/-- a row's places written, the last one first -/
def upo (h : am_H) (o b : Nat) : List (Nat × Int32) → am_H
  | [] => h
  | (c, v) :: l => am_up (upo h o b l) o (b + c) (.int v)
def upo_f (x : Int32) (j : Nat) : List (Nat × Int32) → Int32
  | [] => x
  | (c, v) :: l => if j = c then v else upo_f x j l
theorem upo_r {h : am_H} {o b j : Nat} : ∀ l : List (Nat × Int32), rg_v (upo h o b l) o (b + j) = upo_f (rg_v h o (b + j)) j l
  | [] => rfl
  | (c, v) :: l => by
    show rg_v (am_up (upo h o b l) o (b + c) (.int v)) o (b + j) = if j = c then v else upo_f (rg_v h o (b + j)) j l
    by_cases e : j = c
    · rw [if_pos e, e, rg_v_self]
    · rw [if_neg e, rg_v_other (by omega), upo_r l]
theorem upo_o {h : am_H} {o b o' k : Nat} (N : Nat) (hn_z : ¬ (o' = o ∧ b ≤ k ∧ k < b + N)) : ∀ l : List (Nat × Int32), l.all (fun q => Nat.ble (q.1 + 1) N) = true → upo h o b l o' k = h o' k
  | [], _ => rfl
  | (c, v) :: l, e => by
    rw [List.all_cons, Bool.and_eq_true] at e
    have e1_z := Nat.le_of_ble_eq_true e.1
    show am_up (upo h o b l) o (b + c) (.int v) o' k = h o' k
    exact (up_ne (by dsimp only at e1_z; omega)).trans (upo_o N hn_z l e.2)
theorem pt_208_200 {n : Nat} {r : Option Value} {g g' : am_H} {i : Int32} (i0_z : 0 ≤ i.toInt) (i9_z : i.toInt ≤ 999) (hm_z : rn n am_m208 0 (lv_args 0 [.ref 164, .ref 200, .int i]) [] g r g') : (∀ j, j < 17 → rg_v g' 200 (i.toNatClampNeg + j) = mS g 0 j) ∧ ∀ o k, ¬ (o = 200 ∧ i.toNatClampNeg ≤ k ∧ k < i.toNatClampNeg + 17) → g' o k = g o k := by
  have g0_z : am_get (lv_args 0 [.ref 164, .ref 200, .int i]) 0 = some (.ref 164) := rfl
  have g1_z : am_get (lv_args 0 [.ref 164, .ref 200, .int i]) 1 = some (.ref 200) := rfl
  have g2_z : am_get (lv_args 0 [.ref 164, .ref 200, .int i]) 2 = some (.int i) := rfl
  have x1_z : (i + 1).toNatClampNeg = i.toNatClampNeg + 1 := (ix_1 i0_z (by omega) (by decide) (by decide)).2
  have x2_z : (i + 2).toNatClampNeg = i.toNatClampNeg + 2 := (ix_1 i0_z (by omega) (by decide) (by decide)).2
  have x3_z : (i + 3).toNatClampNeg = i.toNatClampNeg + 3 := (ix_1 i0_z (by omega) (by decide) (by decide)).2
  have x4_z : (i + 4).toNatClampNeg = i.toNatClampNeg + 4 := (ix_1 i0_z (by omega) (by decide) (by decide)).2
  have x5_z : ((i + 5) + 0).toNatClampNeg = i.toNatClampNeg + 5 := ix_2 (m := 5) (n := 0) i0_z i9_z (by decide) (by decide) (by decide) (by decide)
  have x6_z : ((i + 5) + 1).toNatClampNeg = i.toNatClampNeg + 6 := ix_2 (m := 5) (n := 1) i0_z i9_z (by decide) (by decide) (by decide) (by decide)
  have x7_z : ((i + 5) + 2).toNatClampNeg = i.toNatClampNeg + 7 := ix_2 (m := 5) (n := 2) i0_z i9_z (by decide) (by decide) (by decide) (by decide)
  have x8_z : ((i + 5) + 3).toNatClampNeg = i.toNatClampNeg + 8 := ix_2 (m := 5) (n := 3) i0_z i9_z (by decide) (by decide) (by decide) (by decide)
  have x9_z : ((i + 9) + 0).toNatClampNeg = i.toNatClampNeg + 9 := ix_2 (m := 9) (n := 0) i0_z i9_z (by decide) (by decide) (by decide) (by decide)
  have x10_z : ((i + 9) + 1).toNatClampNeg = i.toNatClampNeg + 10 := ix_2 (m := 9) (n := 1) i0_z i9_z (by decide) (by decide) (by decide) (by decide)
  have x11_z : ((i + 9) + 2).toNatClampNeg = i.toNatClampNeg + 11 := ix_2 (m := 9) (n := 2) i0_z i9_z (by decide) (by decide) (by decide) (by decide)
  have x12_z : ((i + 9) + 3).toNatClampNeg = i.toNatClampNeg + 12 := ix_2 (m := 9) (n := 3) i0_z i9_z (by decide) (by decide) (by decide) (by decide)
  have x13_z : ((i + 13) + 0).toNatClampNeg = i.toNatClampNeg + 13 := ix_2 (m := 13) (n := 0) i0_z i9_z (by decide) (by decide) (by decide) (by decide)
  have x14_z : ((i + 13) + 1).toNatClampNeg = i.toNatClampNeg + 14 := ix_2 (m := 13) (n := 1) i0_z i9_z (by decide) (by decide) (by decide) (by decide)
  have x15_z : ((i + 13) + 2).toNatClampNeg = i.toNatClampNeg + 15 := ix_2 (m := 13) (n := 2) i0_z i9_z (by decide) (by decide) (by decide) (by decide)
  have x16_z : ((i + 13) + 3).toNatClampNeg = i.toNatClampNeg + 16 := ix_2 (m := 13) (n := 3) i0_z i9_z (by decide) (by decide) (by decide) (by decide)
  replace hm_z := rn_aload_n (am_cur_of (i := (0, 1, .aload_n 1, (0, 0, 0), 0)) (by decide +kernel)) g1_z hm_z
  replace hm_z := rn_iload_n (am_cur_of (i := (1, 1, .iload_n 2, (0, 0, 0), 0)) (by decide +kernel)) g2_z hm_z
  replace hm_z := rn_aload_n (am_cur_of (i := (2, 1, .aload_n 0, (0, 0, 0), 0)) (by decide +kernel)) g0_z hm_z
  replace hm_z := rn_getR (x := 188) (am_cur_of (i := (3, 3, .getfield 85, (12, 50, 1434), 0)) (by decide +kernel)) (by decide +kernel) hm_z
  replace hm_z := rn_iconst (w := 0) (am_cur_of (i := (6, 1, .iconst 0, (0, 0, 0), 0)) (by decide +kernel)) (by decide) hm_z
  replace hm_z := rn_iaload (N := 4) (q := 0) (v := rg_v g 188 0) (am_cur_of (i := (7, 1, .iaload, (0, 0, 0), 0)) (by decide +kernel)) (by decide +kernel) rfl rfl hm_z
  obtain ⟨p144_z, hm_z⟩ := hm_z
  replace hm_z := rn_iastore (N := 340) (q := i.toNatClampNeg) (am_cur_of (i := (8, 1, .iastore, (0, 0, 0), 0)) (by decide +kernel)) (by decide +kernel) rfl hm_z
  obtain ⟨p145_z, hm_z⟩ := hm_z
  replace hm_z := rn_aload_n (am_cur_of (i := (9, 1, .aload_n 1, (0, 0, 0), 0)) (by decide +kernel)) g1_z hm_z
  replace hm_z := rn_iload_n (am_cur_of (i := (10, 1, .iload_n 2, (0, 0, 0), 0)) (by decide +kernel)) g2_z hm_z
  replace hm_z := rn_iconst (w := 1) (am_cur_of (i := (11, 1, .iconst 1, (0, 0, 0), 0)) (by decide +kernel)) (by decide) hm_z
  replace hm_z := rn_iadd (w := i + 1) (am_cur_of (i := (12, 1, .iadd, (0, 0, 0), 0)) (by decide +kernel)) rfl hm_z
  replace hm_z := rn_aload_n (am_cur_of (i := (13, 1, .aload_n 0, (0, 0, 0), 0)) (by decide +kernel)) g0_z hm_z
  replace hm_z := rn_getR (x := 189) (am_cur_of (i := (14, 3, .getfield 88, (12, 51, 1435), 0)) (by decide +kernel)) (by decide +kernel) hm_z
  replace hm_z := rn_iconst (w := 0) (am_cur_of (i := (17, 1, .iconst 0, (0, 0, 0), 0)) (by decide +kernel)) (by decide) hm_z
  replace hm_z := rn_iaload (N := 4) (q := 0) (v := rg_v g 189 0) (am_cur_of (i := (18, 1, .iaload, (0, 0, 0), 0)) (by decide +kernel)) (by decide +kernel) rfl ((rg_v_other (by omega)).trans (rfl)) hm_z
  obtain ⟨p146_z, hm_z⟩ := hm_z
  replace hm_z := rn_iastore (N := 340) (q := (i + 1).toNatClampNeg) (am_cur_of (i := (19, 1, .iastore, (0, 0, 0), 0)) (by decide +kernel)) (by decide +kernel) rfl hm_z
  obtain ⟨p147_z, hm_z⟩ := hm_z
  replace hm_z := rn_aload_n (am_cur_of (i := (20, 1, .aload_n 1, (0, 0, 0), 0)) (by decide +kernel)) g1_z hm_z
  replace hm_z := rn_iload_n (am_cur_of (i := (21, 1, .iload_n 2, (0, 0, 0), 0)) (by decide +kernel)) g2_z hm_z
  replace hm_z := rn_iconst (w := 2) (am_cur_of (i := (22, 1, .iconst 2, (0, 0, 0), 0)) (by decide +kernel)) (by decide) hm_z
  replace hm_z := rn_iadd (w := i + 2) (am_cur_of (i := (23, 1, .iadd, (0, 0, 0), 0)) (by decide +kernel)) rfl hm_z
  replace hm_z := rn_aload_n (am_cur_of (i := (24, 1, .aload_n 0, (0, 0, 0), 0)) (by decide +kernel)) g0_z hm_z
  replace hm_z := rn_getR (x := 190) (am_cur_of (i := (25, 3, .getfield 91, (12, 52, 1436), 0)) (by decide +kernel)) (by decide +kernel) hm_z
  replace hm_z := rn_iconst (w := 0) (am_cur_of (i := (28, 1, .iconst 0, (0, 0, 0), 0)) (by decide +kernel)) (by decide) hm_z
  replace hm_z := rn_iaload (N := 4) (q := 0) (v := rg_v g 190 0) (am_cur_of (i := (29, 1, .iaload, (0, 0, 0), 0)) (by decide +kernel)) (by decide +kernel) rfl ((rg_v_other (by omega)).trans ((rg_v_other (by omega)).trans (rfl))) hm_z
  obtain ⟨p148_z, hm_z⟩ := hm_z
  replace hm_z := rn_iastore (N := 340) (q := (i + 2).toNatClampNeg) (am_cur_of (i := (30, 1, .iastore, (0, 0, 0), 0)) (by decide +kernel)) (by decide +kernel) rfl hm_z
  obtain ⟨p149_z, hm_z⟩ := hm_z
  replace hm_z := rn_aload_n (am_cur_of (i := (31, 1, .aload_n 1, (0, 0, 0), 0)) (by decide +kernel)) g1_z hm_z
  replace hm_z := rn_iload_n (am_cur_of (i := (32, 1, .iload_n 2, (0, 0, 0), 0)) (by decide +kernel)) g2_z hm_z
  replace hm_z := rn_iconst (w := 3) (am_cur_of (i := (33, 1, .iconst 3, (0, 0, 0), 0)) (by decide +kernel)) (by decide) hm_z
  replace hm_z := rn_iadd (w := i + 3) (am_cur_of (i := (34, 1, .iadd, (0, 0, 0), 0)) (by decide +kernel)) rfl hm_z
  replace hm_z := rn_aload_n (am_cur_of (i := (35, 1, .aload_n 0, (0, 0, 0), 0)) (by decide +kernel)) g0_z hm_z
  replace hm_z := rn_getR (x := 194) (am_cur_of (i := (36, 3, .getfield 103, (12, 56, 1440), 0)) (by decide +kernel)) (by decide +kernel) hm_z
  replace hm_z := rn_iconst (w := 0) (am_cur_of (i := (39, 1, .iconst 0, (0, 0, 0), 0)) (by decide +kernel)) (by decide) hm_z
  replace hm_z := rn_iaload (N := 4) (q := 0) (v := rg_v g 194 0) (am_cur_of (i := (40, 1, .iaload, (0, 0, 0), 0)) (by decide +kernel)) (by decide +kernel) rfl ((rg_v_other (by omega)).trans ((rg_v_other (by omega)).trans ((rg_v_other (by omega)).trans (rfl)))) hm_z
  obtain ⟨p150_z, hm_z⟩ := hm_z
  replace hm_z := rn_iastore (N := 340) (q := (i + 3).toNatClampNeg) (am_cur_of (i := (41, 1, .iastore, (0, 0, 0), 0)) (by decide +kernel)) (by decide +kernel) rfl hm_z
  obtain ⟨p151_z, hm_z⟩ := hm_z
  replace hm_z := rn_aload_n (am_cur_of (i := (42, 1, .aload_n 1, (0, 0, 0), 0)) (by decide +kernel)) g1_z hm_z
  replace hm_z := rn_iload_n (am_cur_of (i := (43, 1, .iload_n 2, (0, 0, 0), 0)) (by decide +kernel)) g2_z hm_z
  replace hm_z := rn_iconst (w := 4) (am_cur_of (i := (44, 1, .iconst 4, (0, 0, 0), 0)) (by decide +kernel)) (by decide) hm_z
  replace hm_z := rn_iadd (w := i + 4) (am_cur_of (i := (45, 1, .iadd, (0, 0, 0), 0)) (by decide +kernel)) rfl hm_z
  replace hm_z := rn_aload_n (am_cur_of (i := (46, 1, .aload_n 0, (0, 0, 0), 0)) (by decide +kernel)) g0_z hm_z
  replace hm_z := rn_getI (v := rg_v g 164 57) (am_cur_of (i := (47, 3, .getfield 349, (12, 57, 1441), 0)) (by decide +kernel)) (by decide +kernel) ((rg_v_other (by omega)).trans ((rg_v_other (by omega)).trans ((rg_v_other (by omega)).trans ((rg_v_other (by omega)).trans (rfl))))) hm_z
  replace hm_z := rn_iastore (N := 340) (q := (i + 4).toNatClampNeg) (am_cur_of (i := (50, 1, .iastore, (0, 0, 0), 0)) (by decide +kernel)) (by decide +kernel) rfl hm_z
  obtain ⟨p152_z, hm_z⟩ := hm_z
  replace hm_z := rn_iconst (w := 0) (am_cur_of (i := (51, 1, .iconst 0, (0, 0, 0), 0)) (by decide +kernel)) (by decide) hm_z
  replace hm_z := rn_istore_n (am_cur_of (i := (52, 1, .istore_n 3, (0, 0, 0), 0)) (by decide +kernel)) hm_z
  obtain ⟨_, s153_z, s154_z, g3_z, hm_z⟩ := hm_z
  replace g0_z := s153_z 0 _ (by decide) rfl g0_z
  replace g1_z := s153_z 1 _ (by decide) rfl g1_z
  replace g2_z := s153_z 2 _ (by decide) rfl g2_z
  clear s153_z s154_z
  replace hm_z := rn_iload_n (am_cur_of (i := (53, 1, .iload_n 3, (0, 0, 0), 0)) (by decide +kernel)) g3_z hm_z
  replace hm_z := rn_iconst (w := 4) (am_cur_of (i := (54, 1, .iconst 4, (0, 0, 0), 0)) (by decide +kernel)) (by decide) hm_z
  replace hm_z := rn_cmpF (am_cur_of (i := (55, 3, .if_icmp .ge 50, (81, 0, 0), 0)) (by decide +kernel)) (by decide) hm_z
  replace hm_z := rn_aload_n (am_cur_of (i := (58, 1, .aload_n 1, (0, 0, 0), 0)) (by decide +kernel)) g1_z hm_z
  replace hm_z := rn_iload_n (am_cur_of (i := (59, 1, .iload_n 2, (0, 0, 0), 0)) (by decide +kernel)) g2_z hm_z
  replace hm_z := rn_iconst (w := 5) (am_cur_of (i := (60, 1, .iconst 5, (0, 0, 0), 0)) (by decide +kernel)) (by decide) hm_z
  replace hm_z := rn_iadd (w := i + 5) (am_cur_of (i := (61, 1, .iadd, (0, 0, 0), 0)) (by decide +kernel)) rfl hm_z
  replace hm_z := rn_iload_n (am_cur_of (i := (62, 1, .iload_n 3, (0, 0, 0), 0)) (by decide +kernel)) g3_z hm_z
  replace hm_z := rn_iadd (w := (i + 5) + 0) (am_cur_of (i := (63, 1, .iadd, (0, 0, 0), 0)) (by decide +kernel)) rfl hm_z
  replace hm_z := rn_aload_n (am_cur_of (i := (64, 1, .aload_n 0, (0, 0, 0), 0)) (by decide +kernel)) g0_z hm_z
  replace hm_z := rn_getR (x := 191) (am_cur_of (i := (65, 3, .getfield 94, (12, 53, 1437), 0)) (by decide +kernel)) (by decide +kernel) hm_z
  replace hm_z := rn_iload_n (am_cur_of (i := (68, 1, .iload_n 3, (0, 0, 0), 0)) (by decide +kernel)) g3_z hm_z
  replace hm_z := rn_iaload (N := 16) (q := 0) (v := rg_v g 191 0) (am_cur_of (i := (69, 1, .iaload, (0, 0, 0), 0)) (by decide +kernel)) (by decide +kernel) rfl ((rg_v_other (by omega)).trans ((rg_v_other (by omega)).trans ((rg_v_other (by omega)).trans ((rg_v_other (by omega)).trans ((rg_v_other (by omega)).trans (rfl)))))) hm_z
  obtain ⟨p155_z, hm_z⟩ := hm_z
  replace hm_z := rn_iastore (N := 340) (q := ((i + 5) + 0).toNatClampNeg) (am_cur_of (i := (70, 1, .iastore, (0, 0, 0), 0)) (by decide +kernel)) (by decide +kernel) rfl hm_z
  obtain ⟨p156_z, hm_z⟩ := hm_z
  replace hm_z := rn_aload_n (am_cur_of (i := (71, 1, .aload_n 1, (0, 0, 0), 0)) (by decide +kernel)) g1_z hm_z
  replace hm_z := rn_iload_n (am_cur_of (i := (72, 1, .iload_n 2, (0, 0, 0), 0)) (by decide +kernel)) g2_z hm_z
  replace hm_z := rn_bipush (w := 9) (am_cur_of (i := (73, 2, .bipush 9, (0, 0, 0), 0)) (by decide +kernel)) (by decide) hm_z
  replace hm_z := rn_iadd (w := i + 9) (am_cur_of (i := (75, 1, .iadd, (0, 0, 0), 0)) (by decide +kernel)) rfl hm_z
  replace hm_z := rn_iload_n (am_cur_of (i := (76, 1, .iload_n 3, (0, 0, 0), 0)) (by decide +kernel)) g3_z hm_z
  replace hm_z := rn_iadd (w := (i + 9) + 0) (am_cur_of (i := (77, 1, .iadd, (0, 0, 0), 0)) (by decide +kernel)) rfl hm_z
  replace hm_z := rn_aload_n (am_cur_of (i := (78, 1, .aload_n 0, (0, 0, 0), 0)) (by decide +kernel)) g0_z hm_z
  replace hm_z := rn_getR (x := 192) (am_cur_of (i := (79, 3, .getfield 97, (12, 54, 1438), 0)) (by decide +kernel)) (by decide +kernel) hm_z
  replace hm_z := rn_iload_n (am_cur_of (i := (82, 1, .iload_n 3, (0, 0, 0), 0)) (by decide +kernel)) g3_z hm_z
  replace hm_z := rn_iaload (N := 16) (q := 0) (v := rg_v g 192 0) (am_cur_of (i := (83, 1, .iaload, (0, 0, 0), 0)) (by decide +kernel)) (by decide +kernel) rfl ((rg_v_other (by omega)).trans ((rg_v_other (by omega)).trans ((rg_v_other (by omega)).trans ((rg_v_other (by omega)).trans ((rg_v_other (by omega)).trans ((rg_v_other (by omega)).trans (rfl))))))) hm_z
  obtain ⟨p157_z, hm_z⟩ := hm_z
  replace hm_z := rn_iastore (N := 340) (q := ((i + 9) + 0).toNatClampNeg) (am_cur_of (i := (84, 1, .iastore, (0, 0, 0), 0)) (by decide +kernel)) (by decide +kernel) rfl hm_z
  obtain ⟨p158_z, hm_z⟩ := hm_z
  replace hm_z := rn_aload_n (am_cur_of (i := (85, 1, .aload_n 1, (0, 0, 0), 0)) (by decide +kernel)) g1_z hm_z
  replace hm_z := rn_iload_n (am_cur_of (i := (86, 1, .iload_n 2, (0, 0, 0), 0)) (by decide +kernel)) g2_z hm_z
  replace hm_z := rn_bipush (w := 13) (am_cur_of (i := (87, 2, .bipush 13, (0, 0, 0), 0)) (by decide +kernel)) (by decide) hm_z
  replace hm_z := rn_iadd (w := i + 13) (am_cur_of (i := (89, 1, .iadd, (0, 0, 0), 0)) (by decide +kernel)) rfl hm_z
  replace hm_z := rn_iload_n (am_cur_of (i := (90, 1, .iload_n 3, (0, 0, 0), 0)) (by decide +kernel)) g3_z hm_z
  replace hm_z := rn_iadd (w := (i + 13) + 0) (am_cur_of (i := (91, 1, .iadd, (0, 0, 0), 0)) (by decide +kernel)) rfl hm_z
  replace hm_z := rn_aload_n (am_cur_of (i := (92, 1, .aload_n 0, (0, 0, 0), 0)) (by decide +kernel)) g0_z hm_z
  replace hm_z := rn_getR (x := 193) (am_cur_of (i := (93, 3, .getfield 100, (12, 55, 1439), 0)) (by decide +kernel)) (by decide +kernel) hm_z
  replace hm_z := rn_iload_n (am_cur_of (i := (96, 1, .iload_n 3, (0, 0, 0), 0)) (by decide +kernel)) g3_z hm_z
  replace hm_z := rn_iaload (N := 16) (q := 0) (v := rg_v g 193 0) (am_cur_of (i := (97, 1, .iaload, (0, 0, 0), 0)) (by decide +kernel)) (by decide +kernel) rfl ((rg_v_other (by omega)).trans ((rg_v_other (by omega)).trans ((rg_v_other (by omega)).trans ((rg_v_other (by omega)).trans ((rg_v_other (by omega)).trans ((rg_v_other (by omega)).trans ((rg_v_other (by omega)).trans (rfl)))))))) hm_z
  obtain ⟨p159_z, hm_z⟩ := hm_z
  replace hm_z := rn_iastore (N := 340) (q := ((i + 13) + 0).toNatClampNeg) (am_cur_of (i := (98, 1, .iastore, (0, 0, 0), 0)) (by decide +kernel)) (by decide +kernel) rfl hm_z
  obtain ⟨p160_z, hm_z⟩ := hm_z
  replace hm_z := rn_iinc (w := 1) (am_cur_of (i := (99, 3, .iinc 3 1, (0, 0, 0), 0)) (by decide +kernel)) g3_z (by decide) hm_z
  obtain ⟨_, s161_z, s162_z, g3_z, hm_z⟩ := hm_z
  replace g0_z := s161_z 0 _ (by decide) rfl g0_z
  replace g1_z := s161_z 1 _ (by decide) rfl g1_z
  replace g2_z := s161_z 2 _ (by decide) rfl g2_z
  clear s161_z s162_z
  replace hm_z := rn_goto (am_cur_of (i := (102, 3, .goto (-49), (43, 0, 0), 0)) (by decide +kernel)) hm_z
  replace hm_z := rn_iload_n (am_cur_of (i := (53, 1, .iload_n 3, (0, 0, 0), 0)) (by decide +kernel)) g3_z hm_z
  replace hm_z := rn_iconst (w := 4) (am_cur_of (i := (54, 1, .iconst 4, (0, 0, 0), 0)) (by decide +kernel)) (by decide) hm_z
  replace hm_z := rn_cmpF (am_cur_of (i := (55, 3, .if_icmp .ge 50, (81, 0, 0), 0)) (by decide +kernel)) (by decide) hm_z
  replace hm_z := rn_aload_n (am_cur_of (i := (58, 1, .aload_n 1, (0, 0, 0), 0)) (by decide +kernel)) g1_z hm_z
  replace hm_z := rn_iload_n (am_cur_of (i := (59, 1, .iload_n 2, (0, 0, 0), 0)) (by decide +kernel)) g2_z hm_z
  replace hm_z := rn_iconst (w := 5) (am_cur_of (i := (60, 1, .iconst 5, (0, 0, 0), 0)) (by decide +kernel)) (by decide) hm_z
  replace hm_z := rn_iadd (w := i + 5) (am_cur_of (i := (61, 1, .iadd, (0, 0, 0), 0)) (by decide +kernel)) rfl hm_z
  replace hm_z := rn_iload_n (am_cur_of (i := (62, 1, .iload_n 3, (0, 0, 0), 0)) (by decide +kernel)) g3_z hm_z
  replace hm_z := rn_iadd (w := (i + 5) + 1) (am_cur_of (i := (63, 1, .iadd, (0, 0, 0), 0)) (by decide +kernel)) rfl hm_z
  replace hm_z := rn_aload_n (am_cur_of (i := (64, 1, .aload_n 0, (0, 0, 0), 0)) (by decide +kernel)) g0_z hm_z
  replace hm_z := rn_getR (x := 191) (am_cur_of (i := (65, 3, .getfield 94, (12, 53, 1437), 0)) (by decide +kernel)) (by decide +kernel) hm_z
  replace hm_z := rn_iload_n (am_cur_of (i := (68, 1, .iload_n 3, (0, 0, 0), 0)) (by decide +kernel)) g3_z hm_z
  replace hm_z := rn_iaload (N := 16) (q := 1) (v := rg_v g 191 1) (am_cur_of (i := (69, 1, .iaload, (0, 0, 0), 0)) (by decide +kernel)) (by decide +kernel) rfl ((rg_v_other (by omega)).trans ((rg_v_other (by omega)).trans ((rg_v_other (by omega)).trans ((rg_v_other (by omega)).trans ((rg_v_other (by omega)).trans ((rg_v_other (by omega)).trans ((rg_v_other (by omega)).trans ((rg_v_other (by omega)).trans (rfl))))))))) hm_z
  obtain ⟨p163_z, hm_z⟩ := hm_z
  replace hm_z := rn_iastore (N := 340) (q := ((i + 5) + 1).toNatClampNeg) (am_cur_of (i := (70, 1, .iastore, (0, 0, 0), 0)) (by decide +kernel)) (by decide +kernel) rfl hm_z
  obtain ⟨p164_z, hm_z⟩ := hm_z
  replace hm_z := rn_aload_n (am_cur_of (i := (71, 1, .aload_n 1, (0, 0, 0), 0)) (by decide +kernel)) g1_z hm_z
  replace hm_z := rn_iload_n (am_cur_of (i := (72, 1, .iload_n 2, (0, 0, 0), 0)) (by decide +kernel)) g2_z hm_z
  replace hm_z := rn_bipush (w := 9) (am_cur_of (i := (73, 2, .bipush 9, (0, 0, 0), 0)) (by decide +kernel)) (by decide) hm_z
  replace hm_z := rn_iadd (w := i + 9) (am_cur_of (i := (75, 1, .iadd, (0, 0, 0), 0)) (by decide +kernel)) rfl hm_z
  replace hm_z := rn_iload_n (am_cur_of (i := (76, 1, .iload_n 3, (0, 0, 0), 0)) (by decide +kernel)) g3_z hm_z
  replace hm_z := rn_iadd (w := (i + 9) + 1) (am_cur_of (i := (77, 1, .iadd, (0, 0, 0), 0)) (by decide +kernel)) rfl hm_z
  replace hm_z := rn_aload_n (am_cur_of (i := (78, 1, .aload_n 0, (0, 0, 0), 0)) (by decide +kernel)) g0_z hm_z
  replace hm_z := rn_getR (x := 192) (am_cur_of (i := (79, 3, .getfield 97, (12, 54, 1438), 0)) (by decide +kernel)) (by decide +kernel) hm_z
  replace hm_z := rn_iload_n (am_cur_of (i := (82, 1, .iload_n 3, (0, 0, 0), 0)) (by decide +kernel)) g3_z hm_z
  replace hm_z := rn_iaload (N := 16) (q := 1) (v := rg_v g 192 1) (am_cur_of (i := (83, 1, .iaload, (0, 0, 0), 0)) (by decide +kernel)) (by decide +kernel) rfl ((rg_v_other (by omega)).trans ((rg_v_other (by omega)).trans ((rg_v_other (by omega)).trans ((rg_v_other (by omega)).trans ((rg_v_other (by omega)).trans ((rg_v_other (by omega)).trans ((rg_v_other (by omega)).trans ((rg_v_other (by omega)).trans ((rg_v_other (by omega)).trans (rfl)))))))))) hm_z
  obtain ⟨p165_z, hm_z⟩ := hm_z
  replace hm_z := rn_iastore (N := 340) (q := ((i + 9) + 1).toNatClampNeg) (am_cur_of (i := (84, 1, .iastore, (0, 0, 0), 0)) (by decide +kernel)) (by decide +kernel) rfl hm_z
  obtain ⟨p166_z, hm_z⟩ := hm_z
  replace hm_z := rn_aload_n (am_cur_of (i := (85, 1, .aload_n 1, (0, 0, 0), 0)) (by decide +kernel)) g1_z hm_z
  replace hm_z := rn_iload_n (am_cur_of (i := (86, 1, .iload_n 2, (0, 0, 0), 0)) (by decide +kernel)) g2_z hm_z
  replace hm_z := rn_bipush (w := 13) (am_cur_of (i := (87, 2, .bipush 13, (0, 0, 0), 0)) (by decide +kernel)) (by decide) hm_z
  replace hm_z := rn_iadd (w := i + 13) (am_cur_of (i := (89, 1, .iadd, (0, 0, 0), 0)) (by decide +kernel)) rfl hm_z
  replace hm_z := rn_iload_n (am_cur_of (i := (90, 1, .iload_n 3, (0, 0, 0), 0)) (by decide +kernel)) g3_z hm_z
  replace hm_z := rn_iadd (w := (i + 13) + 1) (am_cur_of (i := (91, 1, .iadd, (0, 0, 0), 0)) (by decide +kernel)) rfl hm_z
  replace hm_z := rn_aload_n (am_cur_of (i := (92, 1, .aload_n 0, (0, 0, 0), 0)) (by decide +kernel)) g0_z hm_z
  replace hm_z := rn_getR (x := 193) (am_cur_of (i := (93, 3, .getfield 100, (12, 55, 1439), 0)) (by decide +kernel)) (by decide +kernel) hm_z
  replace hm_z := rn_iload_n (am_cur_of (i := (96, 1, .iload_n 3, (0, 0, 0), 0)) (by decide +kernel)) g3_z hm_z
  replace hm_z := rn_iaload (N := 16) (q := 1) (v := rg_v g 193 1) (am_cur_of (i := (97, 1, .iaload, (0, 0, 0), 0)) (by decide +kernel)) (by decide +kernel) rfl ((rg_v_other (by omega)).trans ((rg_v_other (by omega)).trans ((rg_v_other (by omega)).trans ((rg_v_other (by omega)).trans ((rg_v_other (by omega)).trans ((rg_v_other (by omega)).trans ((rg_v_other (by omega)).trans ((rg_v_other (by omega)).trans ((rg_v_other (by omega)).trans ((rg_v_other (by omega)).trans (rfl))))))))))) hm_z
  obtain ⟨p167_z, hm_z⟩ := hm_z
  replace hm_z := rn_iastore (N := 340) (q := ((i + 13) + 1).toNatClampNeg) (am_cur_of (i := (98, 1, .iastore, (0, 0, 0), 0)) (by decide +kernel)) (by decide +kernel) rfl hm_z
  obtain ⟨p168_z, hm_z⟩ := hm_z
  replace hm_z := rn_iinc (w := 2) (am_cur_of (i := (99, 3, .iinc 3 1, (0, 0, 0), 0)) (by decide +kernel)) g3_z (by decide) hm_z
  obtain ⟨_, s169_z, s170_z, g3_z, hm_z⟩ := hm_z
  replace g0_z := s169_z 0 _ (by decide) rfl g0_z
  replace g1_z := s169_z 1 _ (by decide) rfl g1_z
  replace g2_z := s169_z 2 _ (by decide) rfl g2_z
  clear s169_z s170_z
  replace hm_z := rn_goto (am_cur_of (i := (102, 3, .goto (-49), (43, 0, 0), 0)) (by decide +kernel)) hm_z
  replace hm_z := rn_iload_n (am_cur_of (i := (53, 1, .iload_n 3, (0, 0, 0), 0)) (by decide +kernel)) g3_z hm_z
  replace hm_z := rn_iconst (w := 4) (am_cur_of (i := (54, 1, .iconst 4, (0, 0, 0), 0)) (by decide +kernel)) (by decide) hm_z
  replace hm_z := rn_cmpF (am_cur_of (i := (55, 3, .if_icmp .ge 50, (81, 0, 0), 0)) (by decide +kernel)) (by decide) hm_z
  replace hm_z := rn_aload_n (am_cur_of (i := (58, 1, .aload_n 1, (0, 0, 0), 0)) (by decide +kernel)) g1_z hm_z
  replace hm_z := rn_iload_n (am_cur_of (i := (59, 1, .iload_n 2, (0, 0, 0), 0)) (by decide +kernel)) g2_z hm_z
  replace hm_z := rn_iconst (w := 5) (am_cur_of (i := (60, 1, .iconst 5, (0, 0, 0), 0)) (by decide +kernel)) (by decide) hm_z
  replace hm_z := rn_iadd (w := i + 5) (am_cur_of (i := (61, 1, .iadd, (0, 0, 0), 0)) (by decide +kernel)) rfl hm_z
  replace hm_z := rn_iload_n (am_cur_of (i := (62, 1, .iload_n 3, (0, 0, 0), 0)) (by decide +kernel)) g3_z hm_z
  replace hm_z := rn_iadd (w := (i + 5) + 2) (am_cur_of (i := (63, 1, .iadd, (0, 0, 0), 0)) (by decide +kernel)) rfl hm_z
  replace hm_z := rn_aload_n (am_cur_of (i := (64, 1, .aload_n 0, (0, 0, 0), 0)) (by decide +kernel)) g0_z hm_z
  replace hm_z := rn_getR (x := 191) (am_cur_of (i := (65, 3, .getfield 94, (12, 53, 1437), 0)) (by decide +kernel)) (by decide +kernel) hm_z
  replace hm_z := rn_iload_n (am_cur_of (i := (68, 1, .iload_n 3, (0, 0, 0), 0)) (by decide +kernel)) g3_z hm_z
  replace hm_z := rn_iaload (N := 16) (q := 2) (v := rg_v g 191 2) (am_cur_of (i := (69, 1, .iaload, (0, 0, 0), 0)) (by decide +kernel)) (by decide +kernel) rfl ((rg_v_other (by omega)).trans ((rg_v_other (by omega)).trans ((rg_v_other (by omega)).trans ((rg_v_other (by omega)).trans ((rg_v_other (by omega)).trans ((rg_v_other (by omega)).trans ((rg_v_other (by omega)).trans ((rg_v_other (by omega)).trans ((rg_v_other (by omega)).trans ((rg_v_other (by omega)).trans ((rg_v_other (by omega)).trans (rfl)))))))))))) hm_z
  obtain ⟨p171_z, hm_z⟩ := hm_z
  replace hm_z := rn_iastore (N := 340) (q := ((i + 5) + 2).toNatClampNeg) (am_cur_of (i := (70, 1, .iastore, (0, 0, 0), 0)) (by decide +kernel)) (by decide +kernel) rfl hm_z
  obtain ⟨p172_z, hm_z⟩ := hm_z
  replace hm_z := rn_aload_n (am_cur_of (i := (71, 1, .aload_n 1, (0, 0, 0), 0)) (by decide +kernel)) g1_z hm_z
  replace hm_z := rn_iload_n (am_cur_of (i := (72, 1, .iload_n 2, (0, 0, 0), 0)) (by decide +kernel)) g2_z hm_z
  replace hm_z := rn_bipush (w := 9) (am_cur_of (i := (73, 2, .bipush 9, (0, 0, 0), 0)) (by decide +kernel)) (by decide) hm_z
  replace hm_z := rn_iadd (w := i + 9) (am_cur_of (i := (75, 1, .iadd, (0, 0, 0), 0)) (by decide +kernel)) rfl hm_z
  replace hm_z := rn_iload_n (am_cur_of (i := (76, 1, .iload_n 3, (0, 0, 0), 0)) (by decide +kernel)) g3_z hm_z
  replace hm_z := rn_iadd (w := (i + 9) + 2) (am_cur_of (i := (77, 1, .iadd, (0, 0, 0), 0)) (by decide +kernel)) rfl hm_z
  replace hm_z := rn_aload_n (am_cur_of (i := (78, 1, .aload_n 0, (0, 0, 0), 0)) (by decide +kernel)) g0_z hm_z
  replace hm_z := rn_getR (x := 192) (am_cur_of (i := (79, 3, .getfield 97, (12, 54, 1438), 0)) (by decide +kernel)) (by decide +kernel) hm_z
  replace hm_z := rn_iload_n (am_cur_of (i := (82, 1, .iload_n 3, (0, 0, 0), 0)) (by decide +kernel)) g3_z hm_z
  replace hm_z := rn_iaload (N := 16) (q := 2) (v := rg_v g 192 2) (am_cur_of (i := (83, 1, .iaload, (0, 0, 0), 0)) (by decide +kernel)) (by decide +kernel) rfl ((rg_v_other (by omega)).trans ((rg_v_other (by omega)).trans ((rg_v_other (by omega)).trans ((rg_v_other (by omega)).trans ((rg_v_other (by omega)).trans ((rg_v_other (by omega)).trans ((rg_v_other (by omega)).trans ((rg_v_other (by omega)).trans ((rg_v_other (by omega)).trans ((rg_v_other (by omega)).trans ((rg_v_other (by omega)).trans ((rg_v_other (by omega)).trans (rfl))))))))))))) hm_z
  obtain ⟨p173_z, hm_z⟩ := hm_z
  replace hm_z := rn_iastore (N := 340) (q := ((i + 9) + 2).toNatClampNeg) (am_cur_of (i := (84, 1, .iastore, (0, 0, 0), 0)) (by decide +kernel)) (by decide +kernel) rfl hm_z
  obtain ⟨p174_z, hm_z⟩ := hm_z
  replace hm_z := rn_aload_n (am_cur_of (i := (85, 1, .aload_n 1, (0, 0, 0), 0)) (by decide +kernel)) g1_z hm_z
  replace hm_z := rn_iload_n (am_cur_of (i := (86, 1, .iload_n 2, (0, 0, 0), 0)) (by decide +kernel)) g2_z hm_z
  replace hm_z := rn_bipush (w := 13) (am_cur_of (i := (87, 2, .bipush 13, (0, 0, 0), 0)) (by decide +kernel)) (by decide) hm_z
  replace hm_z := rn_iadd (w := i + 13) (am_cur_of (i := (89, 1, .iadd, (0, 0, 0), 0)) (by decide +kernel)) rfl hm_z
  replace hm_z := rn_iload_n (am_cur_of (i := (90, 1, .iload_n 3, (0, 0, 0), 0)) (by decide +kernel)) g3_z hm_z
  replace hm_z := rn_iadd (w := (i + 13) + 2) (am_cur_of (i := (91, 1, .iadd, (0, 0, 0), 0)) (by decide +kernel)) rfl hm_z
  replace hm_z := rn_aload_n (am_cur_of (i := (92, 1, .aload_n 0, (0, 0, 0), 0)) (by decide +kernel)) g0_z hm_z
  replace hm_z := rn_getR (x := 193) (am_cur_of (i := (93, 3, .getfield 100, (12, 55, 1439), 0)) (by decide +kernel)) (by decide +kernel) hm_z
  replace hm_z := rn_iload_n (am_cur_of (i := (96, 1, .iload_n 3, (0, 0, 0), 0)) (by decide +kernel)) g3_z hm_z
  replace hm_z := rn_iaload (N := 16) (q := 2) (v := rg_v g 193 2) (am_cur_of (i := (97, 1, .iaload, (0, 0, 0), 0)) (by decide +kernel)) (by decide +kernel) rfl ((rg_v_other (by omega)).trans ((rg_v_other (by omega)).trans ((rg_v_other (by omega)).trans ((rg_v_other (by omega)).trans ((rg_v_other (by omega)).trans ((rg_v_other (by omega)).trans ((rg_v_other (by omega)).trans ((rg_v_other (by omega)).trans ((rg_v_other (by omega)).trans ((rg_v_other (by omega)).trans ((rg_v_other (by omega)).trans ((rg_v_other (by omega)).trans ((rg_v_other (by omega)).trans (rfl)))))))))))))) hm_z
  obtain ⟨p175_z, hm_z⟩ := hm_z
  replace hm_z := rn_iastore (N := 340) (q := ((i + 13) + 2).toNatClampNeg) (am_cur_of (i := (98, 1, .iastore, (0, 0, 0), 0)) (by decide +kernel)) (by decide +kernel) rfl hm_z
  obtain ⟨p176_z, hm_z⟩ := hm_z
  replace hm_z := rn_iinc (w := 3) (am_cur_of (i := (99, 3, .iinc 3 1, (0, 0, 0), 0)) (by decide +kernel)) g3_z (by decide) hm_z
  obtain ⟨_, s177_z, s178_z, g3_z, hm_z⟩ := hm_z
  replace g0_z := s177_z 0 _ (by decide) rfl g0_z
  replace g1_z := s177_z 1 _ (by decide) rfl g1_z
  replace g2_z := s177_z 2 _ (by decide) rfl g2_z
  clear s177_z s178_z
  replace hm_z := rn_goto (am_cur_of (i := (102, 3, .goto (-49), (43, 0, 0), 0)) (by decide +kernel)) hm_z
  replace hm_z := rn_iload_n (am_cur_of (i := (53, 1, .iload_n 3, (0, 0, 0), 0)) (by decide +kernel)) g3_z hm_z
  replace hm_z := rn_iconst (w := 4) (am_cur_of (i := (54, 1, .iconst 4, (0, 0, 0), 0)) (by decide +kernel)) (by decide) hm_z
  replace hm_z := rn_cmpF (am_cur_of (i := (55, 3, .if_icmp .ge 50, (81, 0, 0), 0)) (by decide +kernel)) (by decide) hm_z
  replace hm_z := rn_aload_n (am_cur_of (i := (58, 1, .aload_n 1, (0, 0, 0), 0)) (by decide +kernel)) g1_z hm_z
  replace hm_z := rn_iload_n (am_cur_of (i := (59, 1, .iload_n 2, (0, 0, 0), 0)) (by decide +kernel)) g2_z hm_z
  replace hm_z := rn_iconst (w := 5) (am_cur_of (i := (60, 1, .iconst 5, (0, 0, 0), 0)) (by decide +kernel)) (by decide) hm_z
  replace hm_z := rn_iadd (w := i + 5) (am_cur_of (i := (61, 1, .iadd, (0, 0, 0), 0)) (by decide +kernel)) rfl hm_z
  replace hm_z := rn_iload_n (am_cur_of (i := (62, 1, .iload_n 3, (0, 0, 0), 0)) (by decide +kernel)) g3_z hm_z
  replace hm_z := rn_iadd (w := (i + 5) + 3) (am_cur_of (i := (63, 1, .iadd, (0, 0, 0), 0)) (by decide +kernel)) rfl hm_z
  replace hm_z := rn_aload_n (am_cur_of (i := (64, 1, .aload_n 0, (0, 0, 0), 0)) (by decide +kernel)) g0_z hm_z
  replace hm_z := rn_getR (x := 191) (am_cur_of (i := (65, 3, .getfield 94, (12, 53, 1437), 0)) (by decide +kernel)) (by decide +kernel) hm_z
  replace hm_z := rn_iload_n (am_cur_of (i := (68, 1, .iload_n 3, (0, 0, 0), 0)) (by decide +kernel)) g3_z hm_z
  replace hm_z := rn_iaload (N := 16) (q := 3) (v := rg_v g 191 3) (am_cur_of (i := (69, 1, .iaload, (0, 0, 0), 0)) (by decide +kernel)) (by decide +kernel) rfl ((rg_v_other (by omega)).trans ((rg_v_other (by omega)).trans ((rg_v_other (by omega)).trans ((rg_v_other (by omega)).trans ((rg_v_other (by omega)).trans ((rg_v_other (by omega)).trans ((rg_v_other (by omega)).trans ((rg_v_other (by omega)).trans ((rg_v_other (by omega)).trans ((rg_v_other (by omega)).trans ((rg_v_other (by omega)).trans ((rg_v_other (by omega)).trans ((rg_v_other (by omega)).trans ((rg_v_other (by omega)).trans (rfl))))))))))))))) hm_z
  obtain ⟨p179_z, hm_z⟩ := hm_z
  replace hm_z := rn_iastore (N := 340) (q := ((i + 5) + 3).toNatClampNeg) (am_cur_of (i := (70, 1, .iastore, (0, 0, 0), 0)) (by decide +kernel)) (by decide +kernel) rfl hm_z
  obtain ⟨p180_z, hm_z⟩ := hm_z
  replace hm_z := rn_aload_n (am_cur_of (i := (71, 1, .aload_n 1, (0, 0, 0), 0)) (by decide +kernel)) g1_z hm_z
  replace hm_z := rn_iload_n (am_cur_of (i := (72, 1, .iload_n 2, (0, 0, 0), 0)) (by decide +kernel)) g2_z hm_z
  replace hm_z := rn_bipush (w := 9) (am_cur_of (i := (73, 2, .bipush 9, (0, 0, 0), 0)) (by decide +kernel)) (by decide) hm_z
  replace hm_z := rn_iadd (w := i + 9) (am_cur_of (i := (75, 1, .iadd, (0, 0, 0), 0)) (by decide +kernel)) rfl hm_z
  replace hm_z := rn_iload_n (am_cur_of (i := (76, 1, .iload_n 3, (0, 0, 0), 0)) (by decide +kernel)) g3_z hm_z
  replace hm_z := rn_iadd (w := (i + 9) + 3) (am_cur_of (i := (77, 1, .iadd, (0, 0, 0), 0)) (by decide +kernel)) rfl hm_z
  replace hm_z := rn_aload_n (am_cur_of (i := (78, 1, .aload_n 0, (0, 0, 0), 0)) (by decide +kernel)) g0_z hm_z
  replace hm_z := rn_getR (x := 192) (am_cur_of (i := (79, 3, .getfield 97, (12, 54, 1438), 0)) (by decide +kernel)) (by decide +kernel) hm_z
  replace hm_z := rn_iload_n (am_cur_of (i := (82, 1, .iload_n 3, (0, 0, 0), 0)) (by decide +kernel)) g3_z hm_z
  replace hm_z := rn_iaload (N := 16) (q := 3) (v := rg_v g 192 3) (am_cur_of (i := (83, 1, .iaload, (0, 0, 0), 0)) (by decide +kernel)) (by decide +kernel) rfl ((rg_v_other (by omega)).trans ((rg_v_other (by omega)).trans ((rg_v_other (by omega)).trans ((rg_v_other (by omega)).trans ((rg_v_other (by omega)).trans ((rg_v_other (by omega)).trans ((rg_v_other (by omega)).trans ((rg_v_other (by omega)).trans ((rg_v_other (by omega)).trans ((rg_v_other (by omega)).trans ((rg_v_other (by omega)).trans ((rg_v_other (by omega)).trans ((rg_v_other (by omega)).trans ((rg_v_other (by omega)).trans ((rg_v_other (by omega)).trans (rfl)))))))))))))))) hm_z
  obtain ⟨p181_z, hm_z⟩ := hm_z
  replace hm_z := rn_iastore (N := 340) (q := ((i + 9) + 3).toNatClampNeg) (am_cur_of (i := (84, 1, .iastore, (0, 0, 0), 0)) (by decide +kernel)) (by decide +kernel) rfl hm_z
  obtain ⟨p182_z, hm_z⟩ := hm_z
  replace hm_z := rn_aload_n (am_cur_of (i := (85, 1, .aload_n 1, (0, 0, 0), 0)) (by decide +kernel)) g1_z hm_z
  replace hm_z := rn_iload_n (am_cur_of (i := (86, 1, .iload_n 2, (0, 0, 0), 0)) (by decide +kernel)) g2_z hm_z
  replace hm_z := rn_bipush (w := 13) (am_cur_of (i := (87, 2, .bipush 13, (0, 0, 0), 0)) (by decide +kernel)) (by decide) hm_z
  replace hm_z := rn_iadd (w := i + 13) (am_cur_of (i := (89, 1, .iadd, (0, 0, 0), 0)) (by decide +kernel)) rfl hm_z
  replace hm_z := rn_iload_n (am_cur_of (i := (90, 1, .iload_n 3, (0, 0, 0), 0)) (by decide +kernel)) g3_z hm_z
  replace hm_z := rn_iadd (w := (i + 13) + 3) (am_cur_of (i := (91, 1, .iadd, (0, 0, 0), 0)) (by decide +kernel)) rfl hm_z
  replace hm_z := rn_aload_n (am_cur_of (i := (92, 1, .aload_n 0, (0, 0, 0), 0)) (by decide +kernel)) g0_z hm_z
  replace hm_z := rn_getR (x := 193) (am_cur_of (i := (93, 3, .getfield 100, (12, 55, 1439), 0)) (by decide +kernel)) (by decide +kernel) hm_z
  replace hm_z := rn_iload_n (am_cur_of (i := (96, 1, .iload_n 3, (0, 0, 0), 0)) (by decide +kernel)) g3_z hm_z
  replace hm_z := rn_iaload (N := 16) (q := 3) (v := rg_v g 193 3) (am_cur_of (i := (97, 1, .iaload, (0, 0, 0), 0)) (by decide +kernel)) (by decide +kernel) rfl ((rg_v_other (by omega)).trans ((rg_v_other (by omega)).trans ((rg_v_other (by omega)).trans ((rg_v_other (by omega)).trans ((rg_v_other (by omega)).trans ((rg_v_other (by omega)).trans ((rg_v_other (by omega)).trans ((rg_v_other (by omega)).trans ((rg_v_other (by omega)).trans ((rg_v_other (by omega)).trans ((rg_v_other (by omega)).trans ((rg_v_other (by omega)).trans ((rg_v_other (by omega)).trans ((rg_v_other (by omega)).trans ((rg_v_other (by omega)).trans ((rg_v_other (by omega)).trans (rfl))))))))))))))))) hm_z
  obtain ⟨p183_z, hm_z⟩ := hm_z
  replace hm_z := rn_iastore (N := 340) (q := ((i + 13) + 3).toNatClampNeg) (am_cur_of (i := (98, 1, .iastore, (0, 0, 0), 0)) (by decide +kernel)) (by decide +kernel) rfl hm_z
  obtain ⟨p184_z, hm_z⟩ := hm_z
  replace hm_z := rn_iinc (w := 4) (am_cur_of (i := (99, 3, .iinc 3 1, (0, 0, 0), 0)) (by decide +kernel)) g3_z (by decide) hm_z
  obtain ⟨_, s185_z, s186_z, g3_z, hm_z⟩ := hm_z
  replace g0_z := s185_z 0 _ (by decide) rfl g0_z
  replace g1_z := s185_z 1 _ (by decide) rfl g1_z
  replace g2_z := s185_z 2 _ (by decide) rfl g2_z
  clear s185_z s186_z
  replace hm_z := rn_goto (am_cur_of (i := (102, 3, .goto (-49), (43, 0, 0), 0)) (by decide +kernel)) hm_z
  replace hm_z := rn_iload_n (am_cur_of (i := (53, 1, .iload_n 3, (0, 0, 0), 0)) (by decide +kernel)) g3_z hm_z
  replace hm_z := rn_iconst (w := 4) (am_cur_of (i := (54, 1, .iconst 4, (0, 0, 0), 0)) (by decide +kernel)) (by decide) hm_z
  replace hm_z := rn_cmpT (am_cur_of (i := (55, 3, .if_icmp .ge 50, (81, 0, 0), 0)) (by decide +kernel)) (by decide) hm_z
  replace hm_z := rn_vret (am_cur_of (i := (105, 1, .return_, (0, 0, 0), 0)) (by decide +kernel)) hm_z
  obtain ⟨e187_z, e188_z⟩ := hm_z
  have eH : g' = upo g 200 i.toNatClampNeg [(16, rg_v g 193 3), (12, rg_v g 192 3), (8, rg_v g 191 3), (15, rg_v g 193 2), (11, rg_v g 192 2), (7, rg_v g 191 2), (14, rg_v g 193 1), (10, rg_v g 192 1), (6, rg_v g 191 1), (13, rg_v g 193 0), (9, rg_v g 192 0), (5, rg_v g 191 0), (4, rg_v g 164 57), (3, rg_v g 194 0), (2, rg_v g 190 0), (1, rg_v g 189 0), (0, rg_v g 188 0)] := by
    rw [e188_z]
    rw [x1_z, x2_z, x3_z, x4_z, x5_z, x6_z, x7_z, x8_z, x9_z, x10_z, x11_z, x12_z, x13_z, x14_z, x15_z, x16_z]
    rfl
  refine ⟨fun j hj_z => ?_, fun o k ho => ?_⟩
  · rw [eH, upo_r]
    match j, hj_z with
    | 0, _ => rfl
    | 1, _ => rfl
    | 2, _ => rfl
    | 3, _ => rfl
    | 4, _ => rfl
    | 5, _ => rfl
    | 6, _ => rfl
    | 7, _ => rfl
    | 8, _ => rfl
    | 9, _ => rfl
    | 10, _ => rfl
    | 11, _ => rfl
    | 12, _ => rfl
    | 13, _ => rfl
    | 14, _ => rfl
    | 15, _ => rfl
    | 16, _ => rfl
    | j + 17, hj_z => omega
  · rw [eH]
    exact upo_o 17 ho _ rfl
theorem tk_250_200 {n : Nat} {r : Option Value} {g g' : am_H} {i : Int32} (i0_z : 0 ≤ i.toInt) (i9_z : i.toInt ≤ 999) (hm_z : rn n am_m250 0 (lv_args 0 [.ref 164, .ref 200, .int i]) [] g r g') : (∀ j, j < 17 → mS g' 0 j = rg_v g 200 (i.toNatClampNeg + j)) ∧ ∀ o k, bB 0 o k = false → ¬ (o = 164 ∧ k = 57) → g' o k = g o k := by
  have g0_z : am_get (lv_args 0 [.ref 164, .ref 200, .int i]) 0 = some (.ref 164) := rfl
  have g1_z : am_get (lv_args 0 [.ref 164, .ref 200, .int i]) 1 = some (.ref 200) := rfl
  have g2_z : am_get (lv_args 0 [.ref 164, .ref 200, .int i]) 2 = some (.int i) := rfl
  have x1_z : (i + 1).toNatClampNeg = i.toNatClampNeg + 1 := (ix_1 i0_z (by omega) (by decide) (by decide)).2
  have x2_z : (i + 2).toNatClampNeg = i.toNatClampNeg + 2 := (ix_1 i0_z (by omega) (by decide) (by decide)).2
  have x3_z : (i + 3).toNatClampNeg = i.toNatClampNeg + 3 := (ix_1 i0_z (by omega) (by decide) (by decide)).2
  have x4_z : (i + 4).toNatClampNeg = i.toNatClampNeg + 4 := (ix_1 i0_z (by omega) (by decide) (by decide)).2
  have x5_z : ((i + 5) + 0).toNatClampNeg = i.toNatClampNeg + 5 := ix_2 (m := 5) (n := 0) i0_z i9_z (by decide) (by decide) (by decide) (by decide)
  have x6_z : ((i + 5) + 1).toNatClampNeg = i.toNatClampNeg + 6 := ix_2 (m := 5) (n := 1) i0_z i9_z (by decide) (by decide) (by decide) (by decide)
  have x7_z : ((i + 5) + 2).toNatClampNeg = i.toNatClampNeg + 7 := ix_2 (m := 5) (n := 2) i0_z i9_z (by decide) (by decide) (by decide) (by decide)
  have x8_z : ((i + 5) + 3).toNatClampNeg = i.toNatClampNeg + 8 := ix_2 (m := 5) (n := 3) i0_z i9_z (by decide) (by decide) (by decide) (by decide)
  have x9_z : ((i + 9) + 0).toNatClampNeg = i.toNatClampNeg + 9 := ix_2 (m := 9) (n := 0) i0_z i9_z (by decide) (by decide) (by decide) (by decide)
  have x10_z : ((i + 9) + 1).toNatClampNeg = i.toNatClampNeg + 10 := ix_2 (m := 9) (n := 1) i0_z i9_z (by decide) (by decide) (by decide) (by decide)
  have x11_z : ((i + 9) + 2).toNatClampNeg = i.toNatClampNeg + 11 := ix_2 (m := 9) (n := 2) i0_z i9_z (by decide) (by decide) (by decide) (by decide)
  have x12_z : ((i + 9) + 3).toNatClampNeg = i.toNatClampNeg + 12 := ix_2 (m := 9) (n := 3) i0_z i9_z (by decide) (by decide) (by decide) (by decide)
  have x13_z : ((i + 13) + 0).toNatClampNeg = i.toNatClampNeg + 13 := ix_2 (m := 13) (n := 0) i0_z i9_z (by decide) (by decide) (by decide) (by decide)
  have x14_z : ((i + 13) + 1).toNatClampNeg = i.toNatClampNeg + 14 := ix_2 (m := 13) (n := 1) i0_z i9_z (by decide) (by decide) (by decide) (by decide)
  have x15_z : ((i + 13) + 2).toNatClampNeg = i.toNatClampNeg + 15 := ix_2 (m := 13) (n := 2) i0_z i9_z (by decide) (by decide) (by decide) (by decide)
  have x16_z : ((i + 13) + 3).toNatClampNeg = i.toNatClampNeg + 16 := ix_2 (m := 13) (n := 3) i0_z i9_z (by decide) (by decide) (by decide) (by decide)
  replace hm_z := rn_aload_n (am_cur_of (i := (0, 1, .aload_n 0, (0, 0, 0), 0)) (by decide +kernel)) g0_z hm_z
  replace hm_z := rn_getR (x := 188) (am_cur_of (i := (1, 3, .getfield 85, (12, 50, 1434), 0)) (by decide +kernel)) (by decide +kernel) hm_z
  replace hm_z := rn_iconst (w := 0) (am_cur_of (i := (4, 1, .iconst 0, (0, 0, 0), 0)) (by decide +kernel)) (by decide) hm_z
  replace hm_z := rn_aload_n (am_cur_of (i := (5, 1, .aload_n 1, (0, 0, 0), 0)) (by decide +kernel)) g1_z hm_z
  replace hm_z := rn_iload_n (am_cur_of (i := (6, 1, .iload_n 2, (0, 0, 0), 0)) (by decide +kernel)) g2_z hm_z
  replace hm_z := rn_iaload (N := 340) (q := i.toNatClampNeg) (v := rg_v g 200 i.toNatClampNeg) (am_cur_of (i := (7, 1, .iaload, (0, 0, 0), 0)) (by decide +kernel)) (by decide +kernel) rfl rfl hm_z
  obtain ⟨p189_z, hm_z⟩ := hm_z
  replace hm_z := rn_iastore (N := 4) (q := 0) (am_cur_of (i := (8, 1, .iastore, (0, 0, 0), 0)) (by decide +kernel)) (by decide +kernel) rfl hm_z
  obtain ⟨p190_z, hm_z⟩ := hm_z
  replace hm_z := rn_aload_n (am_cur_of (i := (9, 1, .aload_n 0, (0, 0, 0), 0)) (by decide +kernel)) g0_z hm_z
  replace hm_z := rn_getR (x := 189) (am_cur_of (i := (10, 3, .getfield 88, (12, 51, 1435), 0)) (by decide +kernel)) (by decide +kernel) hm_z
  replace hm_z := rn_iconst (w := 0) (am_cur_of (i := (13, 1, .iconst 0, (0, 0, 0), 0)) (by decide +kernel)) (by decide) hm_z
  replace hm_z := rn_aload_n (am_cur_of (i := (14, 1, .aload_n 1, (0, 0, 0), 0)) (by decide +kernel)) g1_z hm_z
  replace hm_z := rn_iload_n (am_cur_of (i := (15, 1, .iload_n 2, (0, 0, 0), 0)) (by decide +kernel)) g2_z hm_z
  replace hm_z := rn_iconst (w := 1) (am_cur_of (i := (16, 1, .iconst 1, (0, 0, 0), 0)) (by decide +kernel)) (by decide) hm_z
  replace hm_z := rn_iadd (w := i + 1) (am_cur_of (i := (17, 1, .iadd, (0, 0, 0), 0)) (by decide +kernel)) rfl hm_z
  replace hm_z := rn_iaload (N := 340) (q := (i + 1).toNatClampNeg) (v := rg_v g 200 ((i + 1).toNatClampNeg)) (am_cur_of (i := (18, 1, .iaload, (0, 0, 0), 0)) (by decide +kernel)) (by decide +kernel) rfl ((rg_v_other (by omega)).trans (rfl)) hm_z
  obtain ⟨p191_z, hm_z⟩ := hm_z
  replace hm_z := rn_iastore (N := 4) (q := 0) (am_cur_of (i := (19, 1, .iastore, (0, 0, 0), 0)) (by decide +kernel)) (by decide +kernel) rfl hm_z
  obtain ⟨p192_z, hm_z⟩ := hm_z
  replace hm_z := rn_aload_n (am_cur_of (i := (20, 1, .aload_n 0, (0, 0, 0), 0)) (by decide +kernel)) g0_z hm_z
  replace hm_z := rn_getR (x := 190) (am_cur_of (i := (21, 3, .getfield 91, (12, 52, 1436), 0)) (by decide +kernel)) (by decide +kernel) hm_z
  replace hm_z := rn_iconst (w := 0) (am_cur_of (i := (24, 1, .iconst 0, (0, 0, 0), 0)) (by decide +kernel)) (by decide) hm_z
  replace hm_z := rn_aload_n (am_cur_of (i := (25, 1, .aload_n 1, (0, 0, 0), 0)) (by decide +kernel)) g1_z hm_z
  replace hm_z := rn_iload_n (am_cur_of (i := (26, 1, .iload_n 2, (0, 0, 0), 0)) (by decide +kernel)) g2_z hm_z
  replace hm_z := rn_iconst (w := 2) (am_cur_of (i := (27, 1, .iconst 2, (0, 0, 0), 0)) (by decide +kernel)) (by decide) hm_z
  replace hm_z := rn_iadd (w := i + 2) (am_cur_of (i := (28, 1, .iadd, (0, 0, 0), 0)) (by decide +kernel)) rfl hm_z
  replace hm_z := rn_iaload (N := 340) (q := (i + 2).toNatClampNeg) (v := rg_v g 200 ((i + 2).toNatClampNeg)) (am_cur_of (i := (29, 1, .iaload, (0, 0, 0), 0)) (by decide +kernel)) (by decide +kernel) rfl ((rg_v_other (by omega)).trans ((rg_v_other (by omega)).trans (rfl))) hm_z
  obtain ⟨p193_z, hm_z⟩ := hm_z
  replace hm_z := rn_iastore (N := 4) (q := 0) (am_cur_of (i := (30, 1, .iastore, (0, 0, 0), 0)) (by decide +kernel)) (by decide +kernel) rfl hm_z
  obtain ⟨p194_z, hm_z⟩ := hm_z
  replace hm_z := rn_aload_n (am_cur_of (i := (31, 1, .aload_n 0, (0, 0, 0), 0)) (by decide +kernel)) g0_z hm_z
  replace hm_z := rn_getR (x := 194) (am_cur_of (i := (32, 3, .getfield 103, (12, 56, 1440), 0)) (by decide +kernel)) (by decide +kernel) hm_z
  replace hm_z := rn_iconst (w := 0) (am_cur_of (i := (35, 1, .iconst 0, (0, 0, 0), 0)) (by decide +kernel)) (by decide) hm_z
  replace hm_z := rn_aload_n (am_cur_of (i := (36, 1, .aload_n 1, (0, 0, 0), 0)) (by decide +kernel)) g1_z hm_z
  replace hm_z := rn_iload_n (am_cur_of (i := (37, 1, .iload_n 2, (0, 0, 0), 0)) (by decide +kernel)) g2_z hm_z
  replace hm_z := rn_iconst (w := 3) (am_cur_of (i := (38, 1, .iconst 3, (0, 0, 0), 0)) (by decide +kernel)) (by decide) hm_z
  replace hm_z := rn_iadd (w := i + 3) (am_cur_of (i := (39, 1, .iadd, (0, 0, 0), 0)) (by decide +kernel)) rfl hm_z
  replace hm_z := rn_iaload (N := 340) (q := (i + 3).toNatClampNeg) (v := rg_v g 200 ((i + 3).toNatClampNeg)) (am_cur_of (i := (40, 1, .iaload, (0, 0, 0), 0)) (by decide +kernel)) (by decide +kernel) rfl ((rg_v_other (by omega)).trans ((rg_v_other (by omega)).trans ((rg_v_other (by omega)).trans (rfl)))) hm_z
  obtain ⟨p195_z, hm_z⟩ := hm_z
  replace hm_z := rn_iastore (N := 4) (q := 0) (am_cur_of (i := (41, 1, .iastore, (0, 0, 0), 0)) (by decide +kernel)) (by decide +kernel) rfl hm_z
  obtain ⟨p196_z, hm_z⟩ := hm_z
  replace hm_z := rn_aload_n (am_cur_of (i := (42, 1, .aload_n 0, (0, 0, 0), 0)) (by decide +kernel)) g0_z hm_z
  replace hm_z := rn_aload_n (am_cur_of (i := (43, 1, .aload_n 1, (0, 0, 0), 0)) (by decide +kernel)) g1_z hm_z
  replace hm_z := rn_iload_n (am_cur_of (i := (44, 1, .iload_n 2, (0, 0, 0), 0)) (by decide +kernel)) g2_z hm_z
  replace hm_z := rn_iconst (w := 4) (am_cur_of (i := (45, 1, .iconst 4, (0, 0, 0), 0)) (by decide +kernel)) (by decide) hm_z
  replace hm_z := rn_iadd (w := i + 4) (am_cur_of (i := (46, 1, .iadd, (0, 0, 0), 0)) (by decide +kernel)) rfl hm_z
  replace hm_z := rn_iaload (N := 340) (q := (i + 4).toNatClampNeg) (v := rg_v g 200 ((i + 4).toNatClampNeg)) (am_cur_of (i := (47, 1, .iaload, (0, 0, 0), 0)) (by decide +kernel)) (by decide +kernel) rfl ((rg_v_other (by omega)).trans ((rg_v_other (by omega)).trans ((rg_v_other (by omega)).trans ((rg_v_other (by omega)).trans (rfl))))) hm_z
  obtain ⟨p197_z, hm_z⟩ := hm_z
  replace hm_z := rn_put (am_cur_of (i := (48, 3, .putfield 349, (12, 57, 1441), 0)) (by decide +kernel)) (by decide +kernel) hm_z
  replace hm_z := rn_iconst (w := 0) (am_cur_of (i := (51, 1, .iconst 0, (0, 0, 0), 0)) (by decide +kernel)) (by decide) hm_z
  replace hm_z := rn_istore_n (am_cur_of (i := (52, 1, .istore_n 3, (0, 0, 0), 0)) (by decide +kernel)) hm_z
  obtain ⟨_, s198_z, s199_z, g3_z, hm_z⟩ := hm_z
  replace g0_z := s198_z 0 _ (by decide) rfl g0_z
  replace g1_z := s198_z 1 _ (by decide) rfl g1_z
  replace g2_z := s198_z 2 _ (by decide) rfl g2_z
  clear s198_z s199_z
  replace hm_z := rn_iload_n (am_cur_of (i := (53, 1, .iload_n 3, (0, 0, 0), 0)) (by decide +kernel)) g3_z hm_z
  replace hm_z := rn_iconst (w := 4) (am_cur_of (i := (54, 1, .iconst 4, (0, 0, 0), 0)) (by decide +kernel)) (by decide) hm_z
  replace hm_z := rn_cmpF (am_cur_of (i := (55, 3, .if_icmp .ge 50, (81, 0, 0), 0)) (by decide +kernel)) (by decide) hm_z
  replace hm_z := rn_aload_n (am_cur_of (i := (58, 1, .aload_n 0, (0, 0, 0), 0)) (by decide +kernel)) g0_z hm_z
  replace hm_z := rn_getR (x := 191) (am_cur_of (i := (59, 3, .getfield 94, (12, 53, 1437), 0)) (by decide +kernel)) (by decide +kernel) hm_z
  replace hm_z := rn_iload_n (am_cur_of (i := (62, 1, .iload_n 3, (0, 0, 0), 0)) (by decide +kernel)) g3_z hm_z
  replace hm_z := rn_aload_n (am_cur_of (i := (63, 1, .aload_n 1, (0, 0, 0), 0)) (by decide +kernel)) g1_z hm_z
  replace hm_z := rn_iload_n (am_cur_of (i := (64, 1, .iload_n 2, (0, 0, 0), 0)) (by decide +kernel)) g2_z hm_z
  replace hm_z := rn_iconst (w := 5) (am_cur_of (i := (65, 1, .iconst 5, (0, 0, 0), 0)) (by decide +kernel)) (by decide) hm_z
  replace hm_z := rn_iadd (w := i + 5) (am_cur_of (i := (66, 1, .iadd, (0, 0, 0), 0)) (by decide +kernel)) rfl hm_z
  replace hm_z := rn_iload_n (am_cur_of (i := (67, 1, .iload_n 3, (0, 0, 0), 0)) (by decide +kernel)) g3_z hm_z
  replace hm_z := rn_iadd (w := (i + 5) + 0) (am_cur_of (i := (68, 1, .iadd, (0, 0, 0), 0)) (by decide +kernel)) rfl hm_z
  replace hm_z := rn_iaload (N := 340) (q := ((i + 5) + 0).toNatClampNeg) (v := rg_v g 200 (((i + 5) + 0).toNatClampNeg)) (am_cur_of (i := (69, 1, .iaload, (0, 0, 0), 0)) (by decide +kernel)) (by decide +kernel) rfl ((rg_v_other (by omega)).trans ((rg_v_other (by omega)).trans ((rg_v_other (by omega)).trans ((rg_v_other (by omega)).trans ((rg_v_other (by omega)).trans (rfl)))))) hm_z
  obtain ⟨p200_z, hm_z⟩ := hm_z
  replace hm_z := rn_iastore (N := 16) (q := 0) (am_cur_of (i := (70, 1, .iastore, (0, 0, 0), 0)) (by decide +kernel)) (by decide +kernel) rfl hm_z
  obtain ⟨p201_z, hm_z⟩ := hm_z
  replace hm_z := rn_aload_n (am_cur_of (i := (71, 1, .aload_n 0, (0, 0, 0), 0)) (by decide +kernel)) g0_z hm_z
  replace hm_z := rn_getR (x := 192) (am_cur_of (i := (72, 3, .getfield 97, (12, 54, 1438), 0)) (by decide +kernel)) (by decide +kernel) hm_z
  replace hm_z := rn_iload_n (am_cur_of (i := (75, 1, .iload_n 3, (0, 0, 0), 0)) (by decide +kernel)) g3_z hm_z
  replace hm_z := rn_aload_n (am_cur_of (i := (76, 1, .aload_n 1, (0, 0, 0), 0)) (by decide +kernel)) g1_z hm_z
  replace hm_z := rn_iload_n (am_cur_of (i := (77, 1, .iload_n 2, (0, 0, 0), 0)) (by decide +kernel)) g2_z hm_z
  replace hm_z := rn_bipush (w := 9) (am_cur_of (i := (78, 2, .bipush 9, (0, 0, 0), 0)) (by decide +kernel)) (by decide) hm_z
  replace hm_z := rn_iadd (w := i + 9) (am_cur_of (i := (80, 1, .iadd, (0, 0, 0), 0)) (by decide +kernel)) rfl hm_z
  replace hm_z := rn_iload_n (am_cur_of (i := (81, 1, .iload_n 3, (0, 0, 0), 0)) (by decide +kernel)) g3_z hm_z
  replace hm_z := rn_iadd (w := (i + 9) + 0) (am_cur_of (i := (82, 1, .iadd, (0, 0, 0), 0)) (by decide +kernel)) rfl hm_z
  replace hm_z := rn_iaload (N := 340) (q := ((i + 9) + 0).toNatClampNeg) (v := rg_v g 200 (((i + 9) + 0).toNatClampNeg)) (am_cur_of (i := (83, 1, .iaload, (0, 0, 0), 0)) (by decide +kernel)) (by decide +kernel) rfl ((rg_v_other (by omega)).trans ((rg_v_other (by omega)).trans ((rg_v_other (by omega)).trans ((rg_v_other (by omega)).trans ((rg_v_other (by omega)).trans ((rg_v_other (by omega)).trans (rfl))))))) hm_z
  obtain ⟨p202_z, hm_z⟩ := hm_z
  replace hm_z := rn_iastore (N := 16) (q := 0) (am_cur_of (i := (84, 1, .iastore, (0, 0, 0), 0)) (by decide +kernel)) (by decide +kernel) rfl hm_z
  obtain ⟨p203_z, hm_z⟩ := hm_z
  replace hm_z := rn_aload_n (am_cur_of (i := (85, 1, .aload_n 0, (0, 0, 0), 0)) (by decide +kernel)) g0_z hm_z
  replace hm_z := rn_getR (x := 193) (am_cur_of (i := (86, 3, .getfield 100, (12, 55, 1439), 0)) (by decide +kernel)) (by decide +kernel) hm_z
  replace hm_z := rn_iload_n (am_cur_of (i := (89, 1, .iload_n 3, (0, 0, 0), 0)) (by decide +kernel)) g3_z hm_z
  replace hm_z := rn_aload_n (am_cur_of (i := (90, 1, .aload_n 1, (0, 0, 0), 0)) (by decide +kernel)) g1_z hm_z
  replace hm_z := rn_iload_n (am_cur_of (i := (91, 1, .iload_n 2, (0, 0, 0), 0)) (by decide +kernel)) g2_z hm_z
  replace hm_z := rn_bipush (w := 13) (am_cur_of (i := (92, 2, .bipush 13, (0, 0, 0), 0)) (by decide +kernel)) (by decide) hm_z
  replace hm_z := rn_iadd (w := i + 13) (am_cur_of (i := (94, 1, .iadd, (0, 0, 0), 0)) (by decide +kernel)) rfl hm_z
  replace hm_z := rn_iload_n (am_cur_of (i := (95, 1, .iload_n 3, (0, 0, 0), 0)) (by decide +kernel)) g3_z hm_z
  replace hm_z := rn_iadd (w := (i + 13) + 0) (am_cur_of (i := (96, 1, .iadd, (0, 0, 0), 0)) (by decide +kernel)) rfl hm_z
  replace hm_z := rn_iaload (N := 340) (q := ((i + 13) + 0).toNatClampNeg) (v := rg_v g 200 (((i + 13) + 0).toNatClampNeg)) (am_cur_of (i := (97, 1, .iaload, (0, 0, 0), 0)) (by decide +kernel)) (by decide +kernel) rfl ((rg_v_other (by omega)).trans ((rg_v_other (by omega)).trans ((rg_v_other (by omega)).trans ((rg_v_other (by omega)).trans ((rg_v_other (by omega)).trans ((rg_v_other (by omega)).trans ((rg_v_other (by omega)).trans (rfl)))))))) hm_z
  obtain ⟨p204_z, hm_z⟩ := hm_z
  replace hm_z := rn_iastore (N := 16) (q := 0) (am_cur_of (i := (98, 1, .iastore, (0, 0, 0), 0)) (by decide +kernel)) (by decide +kernel) rfl hm_z
  obtain ⟨p205_z, hm_z⟩ := hm_z
  replace hm_z := rn_iinc (w := 1) (am_cur_of (i := (99, 3, .iinc 3 1, (0, 0, 0), 0)) (by decide +kernel)) g3_z (by decide) hm_z
  obtain ⟨_, s206_z, s207_z, g3_z, hm_z⟩ := hm_z
  replace g0_z := s206_z 0 _ (by decide) rfl g0_z
  replace g1_z := s206_z 1 _ (by decide) rfl g1_z
  replace g2_z := s206_z 2 _ (by decide) rfl g2_z
  clear s206_z s207_z
  replace hm_z := rn_goto (am_cur_of (i := (102, 3, .goto (-49), (43, 0, 0), 0)) (by decide +kernel)) hm_z
  replace hm_z := rn_iload_n (am_cur_of (i := (53, 1, .iload_n 3, (0, 0, 0), 0)) (by decide +kernel)) g3_z hm_z
  replace hm_z := rn_iconst (w := 4) (am_cur_of (i := (54, 1, .iconst 4, (0, 0, 0), 0)) (by decide +kernel)) (by decide) hm_z
  replace hm_z := rn_cmpF (am_cur_of (i := (55, 3, .if_icmp .ge 50, (81, 0, 0), 0)) (by decide +kernel)) (by decide) hm_z
  replace hm_z := rn_aload_n (am_cur_of (i := (58, 1, .aload_n 0, (0, 0, 0), 0)) (by decide +kernel)) g0_z hm_z
  replace hm_z := rn_getR (x := 191) (am_cur_of (i := (59, 3, .getfield 94, (12, 53, 1437), 0)) (by decide +kernel)) (by decide +kernel) hm_z
  replace hm_z := rn_iload_n (am_cur_of (i := (62, 1, .iload_n 3, (0, 0, 0), 0)) (by decide +kernel)) g3_z hm_z
  replace hm_z := rn_aload_n (am_cur_of (i := (63, 1, .aload_n 1, (0, 0, 0), 0)) (by decide +kernel)) g1_z hm_z
  replace hm_z := rn_iload_n (am_cur_of (i := (64, 1, .iload_n 2, (0, 0, 0), 0)) (by decide +kernel)) g2_z hm_z
  replace hm_z := rn_iconst (w := 5) (am_cur_of (i := (65, 1, .iconst 5, (0, 0, 0), 0)) (by decide +kernel)) (by decide) hm_z
  replace hm_z := rn_iadd (w := i + 5) (am_cur_of (i := (66, 1, .iadd, (0, 0, 0), 0)) (by decide +kernel)) rfl hm_z
  replace hm_z := rn_iload_n (am_cur_of (i := (67, 1, .iload_n 3, (0, 0, 0), 0)) (by decide +kernel)) g3_z hm_z
  replace hm_z := rn_iadd (w := (i + 5) + 1) (am_cur_of (i := (68, 1, .iadd, (0, 0, 0), 0)) (by decide +kernel)) rfl hm_z
  replace hm_z := rn_iaload (N := 340) (q := ((i + 5) + 1).toNatClampNeg) (v := rg_v g 200 (((i + 5) + 1).toNatClampNeg)) (am_cur_of (i := (69, 1, .iaload, (0, 0, 0), 0)) (by decide +kernel)) (by decide +kernel) rfl ((rg_v_other (by omega)).trans ((rg_v_other (by omega)).trans ((rg_v_other (by omega)).trans ((rg_v_other (by omega)).trans ((rg_v_other (by omega)).trans ((rg_v_other (by omega)).trans ((rg_v_other (by omega)).trans ((rg_v_other (by omega)).trans (rfl))))))))) hm_z
  obtain ⟨p208_z, hm_z⟩ := hm_z
  replace hm_z := rn_iastore (N := 16) (q := 1) (am_cur_of (i := (70, 1, .iastore, (0, 0, 0), 0)) (by decide +kernel)) (by decide +kernel) rfl hm_z
  obtain ⟨p209_z, hm_z⟩ := hm_z
  replace hm_z := rn_aload_n (am_cur_of (i := (71, 1, .aload_n 0, (0, 0, 0), 0)) (by decide +kernel)) g0_z hm_z
  replace hm_z := rn_getR (x := 192) (am_cur_of (i := (72, 3, .getfield 97, (12, 54, 1438), 0)) (by decide +kernel)) (by decide +kernel) hm_z
  replace hm_z := rn_iload_n (am_cur_of (i := (75, 1, .iload_n 3, (0, 0, 0), 0)) (by decide +kernel)) g3_z hm_z
  replace hm_z := rn_aload_n (am_cur_of (i := (76, 1, .aload_n 1, (0, 0, 0), 0)) (by decide +kernel)) g1_z hm_z
  replace hm_z := rn_iload_n (am_cur_of (i := (77, 1, .iload_n 2, (0, 0, 0), 0)) (by decide +kernel)) g2_z hm_z
  replace hm_z := rn_bipush (w := 9) (am_cur_of (i := (78, 2, .bipush 9, (0, 0, 0), 0)) (by decide +kernel)) (by decide) hm_z
  replace hm_z := rn_iadd (w := i + 9) (am_cur_of (i := (80, 1, .iadd, (0, 0, 0), 0)) (by decide +kernel)) rfl hm_z
  replace hm_z := rn_iload_n (am_cur_of (i := (81, 1, .iload_n 3, (0, 0, 0), 0)) (by decide +kernel)) g3_z hm_z
  replace hm_z := rn_iadd (w := (i + 9) + 1) (am_cur_of (i := (82, 1, .iadd, (0, 0, 0), 0)) (by decide +kernel)) rfl hm_z
  replace hm_z := rn_iaload (N := 340) (q := ((i + 9) + 1).toNatClampNeg) (v := rg_v g 200 (((i + 9) + 1).toNatClampNeg)) (am_cur_of (i := (83, 1, .iaload, (0, 0, 0), 0)) (by decide +kernel)) (by decide +kernel) rfl ((rg_v_other (by omega)).trans ((rg_v_other (by omega)).trans ((rg_v_other (by omega)).trans ((rg_v_other (by omega)).trans ((rg_v_other (by omega)).trans ((rg_v_other (by omega)).trans ((rg_v_other (by omega)).trans ((rg_v_other (by omega)).trans ((rg_v_other (by omega)).trans (rfl)))))))))) hm_z
  obtain ⟨p210_z, hm_z⟩ := hm_z
  replace hm_z := rn_iastore (N := 16) (q := 1) (am_cur_of (i := (84, 1, .iastore, (0, 0, 0), 0)) (by decide +kernel)) (by decide +kernel) rfl hm_z
  obtain ⟨p211_z, hm_z⟩ := hm_z
  replace hm_z := rn_aload_n (am_cur_of (i := (85, 1, .aload_n 0, (0, 0, 0), 0)) (by decide +kernel)) g0_z hm_z
  replace hm_z := rn_getR (x := 193) (am_cur_of (i := (86, 3, .getfield 100, (12, 55, 1439), 0)) (by decide +kernel)) (by decide +kernel) hm_z
  replace hm_z := rn_iload_n (am_cur_of (i := (89, 1, .iload_n 3, (0, 0, 0), 0)) (by decide +kernel)) g3_z hm_z
  replace hm_z := rn_aload_n (am_cur_of (i := (90, 1, .aload_n 1, (0, 0, 0), 0)) (by decide +kernel)) g1_z hm_z
  replace hm_z := rn_iload_n (am_cur_of (i := (91, 1, .iload_n 2, (0, 0, 0), 0)) (by decide +kernel)) g2_z hm_z
  replace hm_z := rn_bipush (w := 13) (am_cur_of (i := (92, 2, .bipush 13, (0, 0, 0), 0)) (by decide +kernel)) (by decide) hm_z
  replace hm_z := rn_iadd (w := i + 13) (am_cur_of (i := (94, 1, .iadd, (0, 0, 0), 0)) (by decide +kernel)) rfl hm_z
  replace hm_z := rn_iload_n (am_cur_of (i := (95, 1, .iload_n 3, (0, 0, 0), 0)) (by decide +kernel)) g3_z hm_z
  replace hm_z := rn_iadd (w := (i + 13) + 1) (am_cur_of (i := (96, 1, .iadd, (0, 0, 0), 0)) (by decide +kernel)) rfl hm_z
  replace hm_z := rn_iaload (N := 340) (q := ((i + 13) + 1).toNatClampNeg) (v := rg_v g 200 (((i + 13) + 1).toNatClampNeg)) (am_cur_of (i := (97, 1, .iaload, (0, 0, 0), 0)) (by decide +kernel)) (by decide +kernel) rfl ((rg_v_other (by omega)).trans ((rg_v_other (by omega)).trans ((rg_v_other (by omega)).trans ((rg_v_other (by omega)).trans ((rg_v_other (by omega)).trans ((rg_v_other (by omega)).trans ((rg_v_other (by omega)).trans ((rg_v_other (by omega)).trans ((rg_v_other (by omega)).trans ((rg_v_other (by omega)).trans (rfl))))))))))) hm_z
  obtain ⟨p212_z, hm_z⟩ := hm_z
  replace hm_z := rn_iastore (N := 16) (q := 1) (am_cur_of (i := (98, 1, .iastore, (0, 0, 0), 0)) (by decide +kernel)) (by decide +kernel) rfl hm_z
  obtain ⟨p213_z, hm_z⟩ := hm_z
  replace hm_z := rn_iinc (w := 2) (am_cur_of (i := (99, 3, .iinc 3 1, (0, 0, 0), 0)) (by decide +kernel)) g3_z (by decide) hm_z
  obtain ⟨_, s214_z, s215_z, g3_z, hm_z⟩ := hm_z
  replace g0_z := s214_z 0 _ (by decide) rfl g0_z
  replace g1_z := s214_z 1 _ (by decide) rfl g1_z
  replace g2_z := s214_z 2 _ (by decide) rfl g2_z
  clear s214_z s215_z
  replace hm_z := rn_goto (am_cur_of (i := (102, 3, .goto (-49), (43, 0, 0), 0)) (by decide +kernel)) hm_z
  replace hm_z := rn_iload_n (am_cur_of (i := (53, 1, .iload_n 3, (0, 0, 0), 0)) (by decide +kernel)) g3_z hm_z
  replace hm_z := rn_iconst (w := 4) (am_cur_of (i := (54, 1, .iconst 4, (0, 0, 0), 0)) (by decide +kernel)) (by decide) hm_z
  replace hm_z := rn_cmpF (am_cur_of (i := (55, 3, .if_icmp .ge 50, (81, 0, 0), 0)) (by decide +kernel)) (by decide) hm_z
  replace hm_z := rn_aload_n (am_cur_of (i := (58, 1, .aload_n 0, (0, 0, 0), 0)) (by decide +kernel)) g0_z hm_z
  replace hm_z := rn_getR (x := 191) (am_cur_of (i := (59, 3, .getfield 94, (12, 53, 1437), 0)) (by decide +kernel)) (by decide +kernel) hm_z
  replace hm_z := rn_iload_n (am_cur_of (i := (62, 1, .iload_n 3, (0, 0, 0), 0)) (by decide +kernel)) g3_z hm_z
  replace hm_z := rn_aload_n (am_cur_of (i := (63, 1, .aload_n 1, (0, 0, 0), 0)) (by decide +kernel)) g1_z hm_z
  replace hm_z := rn_iload_n (am_cur_of (i := (64, 1, .iload_n 2, (0, 0, 0), 0)) (by decide +kernel)) g2_z hm_z
  replace hm_z := rn_iconst (w := 5) (am_cur_of (i := (65, 1, .iconst 5, (0, 0, 0), 0)) (by decide +kernel)) (by decide) hm_z
  replace hm_z := rn_iadd (w := i + 5) (am_cur_of (i := (66, 1, .iadd, (0, 0, 0), 0)) (by decide +kernel)) rfl hm_z
  replace hm_z := rn_iload_n (am_cur_of (i := (67, 1, .iload_n 3, (0, 0, 0), 0)) (by decide +kernel)) g3_z hm_z
  replace hm_z := rn_iadd (w := (i + 5) + 2) (am_cur_of (i := (68, 1, .iadd, (0, 0, 0), 0)) (by decide +kernel)) rfl hm_z
  replace hm_z := rn_iaload (N := 340) (q := ((i + 5) + 2).toNatClampNeg) (v := rg_v g 200 (((i + 5) + 2).toNatClampNeg)) (am_cur_of (i := (69, 1, .iaload, (0, 0, 0), 0)) (by decide +kernel)) (by decide +kernel) rfl ((rg_v_other (by omega)).trans ((rg_v_other (by omega)).trans ((rg_v_other (by omega)).trans ((rg_v_other (by omega)).trans ((rg_v_other (by omega)).trans ((rg_v_other (by omega)).trans ((rg_v_other (by omega)).trans ((rg_v_other (by omega)).trans ((rg_v_other (by omega)).trans ((rg_v_other (by omega)).trans ((rg_v_other (by omega)).trans (rfl)))))))))))) hm_z
  obtain ⟨p216_z, hm_z⟩ := hm_z
  replace hm_z := rn_iastore (N := 16) (q := 2) (am_cur_of (i := (70, 1, .iastore, (0, 0, 0), 0)) (by decide +kernel)) (by decide +kernel) rfl hm_z
  obtain ⟨p217_z, hm_z⟩ := hm_z
  replace hm_z := rn_aload_n (am_cur_of (i := (71, 1, .aload_n 0, (0, 0, 0), 0)) (by decide +kernel)) g0_z hm_z
  replace hm_z := rn_getR (x := 192) (am_cur_of (i := (72, 3, .getfield 97, (12, 54, 1438), 0)) (by decide +kernel)) (by decide +kernel) hm_z
  replace hm_z := rn_iload_n (am_cur_of (i := (75, 1, .iload_n 3, (0, 0, 0), 0)) (by decide +kernel)) g3_z hm_z
  replace hm_z := rn_aload_n (am_cur_of (i := (76, 1, .aload_n 1, (0, 0, 0), 0)) (by decide +kernel)) g1_z hm_z
  replace hm_z := rn_iload_n (am_cur_of (i := (77, 1, .iload_n 2, (0, 0, 0), 0)) (by decide +kernel)) g2_z hm_z
  replace hm_z := rn_bipush (w := 9) (am_cur_of (i := (78, 2, .bipush 9, (0, 0, 0), 0)) (by decide +kernel)) (by decide) hm_z
  replace hm_z := rn_iadd (w := i + 9) (am_cur_of (i := (80, 1, .iadd, (0, 0, 0), 0)) (by decide +kernel)) rfl hm_z
  replace hm_z := rn_iload_n (am_cur_of (i := (81, 1, .iload_n 3, (0, 0, 0), 0)) (by decide +kernel)) g3_z hm_z
  replace hm_z := rn_iadd (w := (i + 9) + 2) (am_cur_of (i := (82, 1, .iadd, (0, 0, 0), 0)) (by decide +kernel)) rfl hm_z
  replace hm_z := rn_iaload (N := 340) (q := ((i + 9) + 2).toNatClampNeg) (v := rg_v g 200 (((i + 9) + 2).toNatClampNeg)) (am_cur_of (i := (83, 1, .iaload, (0, 0, 0), 0)) (by decide +kernel)) (by decide +kernel) rfl ((rg_v_other (by omega)).trans ((rg_v_other (by omega)).trans ((rg_v_other (by omega)).trans ((rg_v_other (by omega)).trans ((rg_v_other (by omega)).trans ((rg_v_other (by omega)).trans ((rg_v_other (by omega)).trans ((rg_v_other (by omega)).trans ((rg_v_other (by omega)).trans ((rg_v_other (by omega)).trans ((rg_v_other (by omega)).trans ((rg_v_other (by omega)).trans (rfl))))))))))))) hm_z
  obtain ⟨p218_z, hm_z⟩ := hm_z
  replace hm_z := rn_iastore (N := 16) (q := 2) (am_cur_of (i := (84, 1, .iastore, (0, 0, 0), 0)) (by decide +kernel)) (by decide +kernel) rfl hm_z
  obtain ⟨p219_z, hm_z⟩ := hm_z
  replace hm_z := rn_aload_n (am_cur_of (i := (85, 1, .aload_n 0, (0, 0, 0), 0)) (by decide +kernel)) g0_z hm_z
  replace hm_z := rn_getR (x := 193) (am_cur_of (i := (86, 3, .getfield 100, (12, 55, 1439), 0)) (by decide +kernel)) (by decide +kernel) hm_z
  replace hm_z := rn_iload_n (am_cur_of (i := (89, 1, .iload_n 3, (0, 0, 0), 0)) (by decide +kernel)) g3_z hm_z
  replace hm_z := rn_aload_n (am_cur_of (i := (90, 1, .aload_n 1, (0, 0, 0), 0)) (by decide +kernel)) g1_z hm_z
  replace hm_z := rn_iload_n (am_cur_of (i := (91, 1, .iload_n 2, (0, 0, 0), 0)) (by decide +kernel)) g2_z hm_z
  replace hm_z := rn_bipush (w := 13) (am_cur_of (i := (92, 2, .bipush 13, (0, 0, 0), 0)) (by decide +kernel)) (by decide) hm_z
  replace hm_z := rn_iadd (w := i + 13) (am_cur_of (i := (94, 1, .iadd, (0, 0, 0), 0)) (by decide +kernel)) rfl hm_z
  replace hm_z := rn_iload_n (am_cur_of (i := (95, 1, .iload_n 3, (0, 0, 0), 0)) (by decide +kernel)) g3_z hm_z
  replace hm_z := rn_iadd (w := (i + 13) + 2) (am_cur_of (i := (96, 1, .iadd, (0, 0, 0), 0)) (by decide +kernel)) rfl hm_z
  replace hm_z := rn_iaload (N := 340) (q := ((i + 13) + 2).toNatClampNeg) (v := rg_v g 200 (((i + 13) + 2).toNatClampNeg)) (am_cur_of (i := (97, 1, .iaload, (0, 0, 0), 0)) (by decide +kernel)) (by decide +kernel) rfl ((rg_v_other (by omega)).trans ((rg_v_other (by omega)).trans ((rg_v_other (by omega)).trans ((rg_v_other (by omega)).trans ((rg_v_other (by omega)).trans ((rg_v_other (by omega)).trans ((rg_v_other (by omega)).trans ((rg_v_other (by omega)).trans ((rg_v_other (by omega)).trans ((rg_v_other (by omega)).trans ((rg_v_other (by omega)).trans ((rg_v_other (by omega)).trans ((rg_v_other (by omega)).trans (rfl)))))))))))))) hm_z
  obtain ⟨p220_z, hm_z⟩ := hm_z
  replace hm_z := rn_iastore (N := 16) (q := 2) (am_cur_of (i := (98, 1, .iastore, (0, 0, 0), 0)) (by decide +kernel)) (by decide +kernel) rfl hm_z
  obtain ⟨p221_z, hm_z⟩ := hm_z
  replace hm_z := rn_iinc (w := 3) (am_cur_of (i := (99, 3, .iinc 3 1, (0, 0, 0), 0)) (by decide +kernel)) g3_z (by decide) hm_z
  obtain ⟨_, s222_z, s223_z, g3_z, hm_z⟩ := hm_z
  replace g0_z := s222_z 0 _ (by decide) rfl g0_z
  replace g1_z := s222_z 1 _ (by decide) rfl g1_z
  replace g2_z := s222_z 2 _ (by decide) rfl g2_z
  clear s222_z s223_z
  replace hm_z := rn_goto (am_cur_of (i := (102, 3, .goto (-49), (43, 0, 0), 0)) (by decide +kernel)) hm_z
  replace hm_z := rn_iload_n (am_cur_of (i := (53, 1, .iload_n 3, (0, 0, 0), 0)) (by decide +kernel)) g3_z hm_z
  replace hm_z := rn_iconst (w := 4) (am_cur_of (i := (54, 1, .iconst 4, (0, 0, 0), 0)) (by decide +kernel)) (by decide) hm_z
  replace hm_z := rn_cmpF (am_cur_of (i := (55, 3, .if_icmp .ge 50, (81, 0, 0), 0)) (by decide +kernel)) (by decide) hm_z
  replace hm_z := rn_aload_n (am_cur_of (i := (58, 1, .aload_n 0, (0, 0, 0), 0)) (by decide +kernel)) g0_z hm_z
  replace hm_z := rn_getR (x := 191) (am_cur_of (i := (59, 3, .getfield 94, (12, 53, 1437), 0)) (by decide +kernel)) (by decide +kernel) hm_z
  replace hm_z := rn_iload_n (am_cur_of (i := (62, 1, .iload_n 3, (0, 0, 0), 0)) (by decide +kernel)) g3_z hm_z
  replace hm_z := rn_aload_n (am_cur_of (i := (63, 1, .aload_n 1, (0, 0, 0), 0)) (by decide +kernel)) g1_z hm_z
  replace hm_z := rn_iload_n (am_cur_of (i := (64, 1, .iload_n 2, (0, 0, 0), 0)) (by decide +kernel)) g2_z hm_z
  replace hm_z := rn_iconst (w := 5) (am_cur_of (i := (65, 1, .iconst 5, (0, 0, 0), 0)) (by decide +kernel)) (by decide) hm_z
  replace hm_z := rn_iadd (w := i + 5) (am_cur_of (i := (66, 1, .iadd, (0, 0, 0), 0)) (by decide +kernel)) rfl hm_z
  replace hm_z := rn_iload_n (am_cur_of (i := (67, 1, .iload_n 3, (0, 0, 0), 0)) (by decide +kernel)) g3_z hm_z
  replace hm_z := rn_iadd (w := (i + 5) + 3) (am_cur_of (i := (68, 1, .iadd, (0, 0, 0), 0)) (by decide +kernel)) rfl hm_z
  replace hm_z := rn_iaload (N := 340) (q := ((i + 5) + 3).toNatClampNeg) (v := rg_v g 200 (((i + 5) + 3).toNatClampNeg)) (am_cur_of (i := (69, 1, .iaload, (0, 0, 0), 0)) (by decide +kernel)) (by decide +kernel) rfl ((rg_v_other (by omega)).trans ((rg_v_other (by omega)).trans ((rg_v_other (by omega)).trans ((rg_v_other (by omega)).trans ((rg_v_other (by omega)).trans ((rg_v_other (by omega)).trans ((rg_v_other (by omega)).trans ((rg_v_other (by omega)).trans ((rg_v_other (by omega)).trans ((rg_v_other (by omega)).trans ((rg_v_other (by omega)).trans ((rg_v_other (by omega)).trans ((rg_v_other (by omega)).trans ((rg_v_other (by omega)).trans (rfl))))))))))))))) hm_z
  obtain ⟨p224_z, hm_z⟩ := hm_z
  replace hm_z := rn_iastore (N := 16) (q := 3) (am_cur_of (i := (70, 1, .iastore, (0, 0, 0), 0)) (by decide +kernel)) (by decide +kernel) rfl hm_z
  obtain ⟨p225_z, hm_z⟩ := hm_z
  replace hm_z := rn_aload_n (am_cur_of (i := (71, 1, .aload_n 0, (0, 0, 0), 0)) (by decide +kernel)) g0_z hm_z
  replace hm_z := rn_getR (x := 192) (am_cur_of (i := (72, 3, .getfield 97, (12, 54, 1438), 0)) (by decide +kernel)) (by decide +kernel) hm_z
  replace hm_z := rn_iload_n (am_cur_of (i := (75, 1, .iload_n 3, (0, 0, 0), 0)) (by decide +kernel)) g3_z hm_z
  replace hm_z := rn_aload_n (am_cur_of (i := (76, 1, .aload_n 1, (0, 0, 0), 0)) (by decide +kernel)) g1_z hm_z
  replace hm_z := rn_iload_n (am_cur_of (i := (77, 1, .iload_n 2, (0, 0, 0), 0)) (by decide +kernel)) g2_z hm_z
  replace hm_z := rn_bipush (w := 9) (am_cur_of (i := (78, 2, .bipush 9, (0, 0, 0), 0)) (by decide +kernel)) (by decide) hm_z
  replace hm_z := rn_iadd (w := i + 9) (am_cur_of (i := (80, 1, .iadd, (0, 0, 0), 0)) (by decide +kernel)) rfl hm_z
  replace hm_z := rn_iload_n (am_cur_of (i := (81, 1, .iload_n 3, (0, 0, 0), 0)) (by decide +kernel)) g3_z hm_z
  replace hm_z := rn_iadd (w := (i + 9) + 3) (am_cur_of (i := (82, 1, .iadd, (0, 0, 0), 0)) (by decide +kernel)) rfl hm_z
  replace hm_z := rn_iaload (N := 340) (q := ((i + 9) + 3).toNatClampNeg) (v := rg_v g 200 (((i + 9) + 3).toNatClampNeg)) (am_cur_of (i := (83, 1, .iaload, (0, 0, 0), 0)) (by decide +kernel)) (by decide +kernel) rfl ((rg_v_other (by omega)).trans ((rg_v_other (by omega)).trans ((rg_v_other (by omega)).trans ((rg_v_other (by omega)).trans ((rg_v_other (by omega)).trans ((rg_v_other (by omega)).trans ((rg_v_other (by omega)).trans ((rg_v_other (by omega)).trans ((rg_v_other (by omega)).trans ((rg_v_other (by omega)).trans ((rg_v_other (by omega)).trans ((rg_v_other (by omega)).trans ((rg_v_other (by omega)).trans ((rg_v_other (by omega)).trans ((rg_v_other (by omega)).trans (rfl)))))))))))))))) hm_z
  obtain ⟨p226_z, hm_z⟩ := hm_z
  replace hm_z := rn_iastore (N := 16) (q := 3) (am_cur_of (i := (84, 1, .iastore, (0, 0, 0), 0)) (by decide +kernel)) (by decide +kernel) rfl hm_z
  obtain ⟨p227_z, hm_z⟩ := hm_z
  replace hm_z := rn_aload_n (am_cur_of (i := (85, 1, .aload_n 0, (0, 0, 0), 0)) (by decide +kernel)) g0_z hm_z
  replace hm_z := rn_getR (x := 193) (am_cur_of (i := (86, 3, .getfield 100, (12, 55, 1439), 0)) (by decide +kernel)) (by decide +kernel) hm_z
  replace hm_z := rn_iload_n (am_cur_of (i := (89, 1, .iload_n 3, (0, 0, 0), 0)) (by decide +kernel)) g3_z hm_z
  replace hm_z := rn_aload_n (am_cur_of (i := (90, 1, .aload_n 1, (0, 0, 0), 0)) (by decide +kernel)) g1_z hm_z
  replace hm_z := rn_iload_n (am_cur_of (i := (91, 1, .iload_n 2, (0, 0, 0), 0)) (by decide +kernel)) g2_z hm_z
  replace hm_z := rn_bipush (w := 13) (am_cur_of (i := (92, 2, .bipush 13, (0, 0, 0), 0)) (by decide +kernel)) (by decide) hm_z
  replace hm_z := rn_iadd (w := i + 13) (am_cur_of (i := (94, 1, .iadd, (0, 0, 0), 0)) (by decide +kernel)) rfl hm_z
  replace hm_z := rn_iload_n (am_cur_of (i := (95, 1, .iload_n 3, (0, 0, 0), 0)) (by decide +kernel)) g3_z hm_z
  replace hm_z := rn_iadd (w := (i + 13) + 3) (am_cur_of (i := (96, 1, .iadd, (0, 0, 0), 0)) (by decide +kernel)) rfl hm_z
  replace hm_z := rn_iaload (N := 340) (q := ((i + 13) + 3).toNatClampNeg) (v := rg_v g 200 (((i + 13) + 3).toNatClampNeg)) (am_cur_of (i := (97, 1, .iaload, (0, 0, 0), 0)) (by decide +kernel)) (by decide +kernel) rfl ((rg_v_other (by omega)).trans ((rg_v_other (by omega)).trans ((rg_v_other (by omega)).trans ((rg_v_other (by omega)).trans ((rg_v_other (by omega)).trans ((rg_v_other (by omega)).trans ((rg_v_other (by omega)).trans ((rg_v_other (by omega)).trans ((rg_v_other (by omega)).trans ((rg_v_other (by omega)).trans ((rg_v_other (by omega)).trans ((rg_v_other (by omega)).trans ((rg_v_other (by omega)).trans ((rg_v_other (by omega)).trans ((rg_v_other (by omega)).trans ((rg_v_other (by omega)).trans (rfl))))))))))))))))) hm_z
  obtain ⟨p228_z, hm_z⟩ := hm_z
  replace hm_z := rn_iastore (N := 16) (q := 3) (am_cur_of (i := (98, 1, .iastore, (0, 0, 0), 0)) (by decide +kernel)) (by decide +kernel) rfl hm_z
  obtain ⟨p229_z, hm_z⟩ := hm_z
  replace hm_z := rn_iinc (w := 4) (am_cur_of (i := (99, 3, .iinc 3 1, (0, 0, 0), 0)) (by decide +kernel)) g3_z (by decide) hm_z
  obtain ⟨_, s230_z, s231_z, g3_z, hm_z⟩ := hm_z
  replace g0_z := s230_z 0 _ (by decide) rfl g0_z
  replace g1_z := s230_z 1 _ (by decide) rfl g1_z
  replace g2_z := s230_z 2 _ (by decide) rfl g2_z
  clear s230_z s231_z
  replace hm_z := rn_goto (am_cur_of (i := (102, 3, .goto (-49), (43, 0, 0), 0)) (by decide +kernel)) hm_z
  replace hm_z := rn_iload_n (am_cur_of (i := (53, 1, .iload_n 3, (0, 0, 0), 0)) (by decide +kernel)) g3_z hm_z
  replace hm_z := rn_iconst (w := 4) (am_cur_of (i := (54, 1, .iconst 4, (0, 0, 0), 0)) (by decide +kernel)) (by decide) hm_z
  replace hm_z := rn_cmpT (am_cur_of (i := (55, 3, .if_icmp .ge 50, (81, 0, 0), 0)) (by decide +kernel)) (by decide) hm_z
  replace hm_z := rn_vret (am_cur_of (i := (105, 1, .return_, (0, 0, 0), 0)) (by decide +kernel)) hm_z
  obtain ⟨e232_z, e233_z⟩ := hm_z
  refine ⟨fun j hj_z => ?_, fun o k ho hk_z => ?_⟩
  · rw [e233_z]
    match j, hj_z with
    | 0, _ => rfl
    | 1, _ => rw [← x1_z]; rfl
    | 2, _ => rw [← x2_z]; rfl
    | 3, _ => rw [← x3_z]; rfl
    | 4, _ => rw [← x4_z]; rfl
    | 5, _ => rw [← x5_z]; rfl
    | 6, _ => rw [← x6_z]; rfl
    | 7, _ => rw [← x7_z]; rfl
    | 8, _ => rw [← x8_z]; rfl
    | 9, _ => rw [← x9_z]; rfl
    | 10, _ => rw [← x10_z]; rfl
    | 11, _ => rw [← x11_z]; rfl
    | 12, _ => rw [← x12_z]; rfl
    | 13, _ => rw [← x13_z]; rfl
    | 14, _ => rw [← x14_z]; rfl
    | 15, _ => rw [← x15_z]; rfl
    | 16, _ => rw [← x16_z]; rfl
    | j + 17, hj_z => omega
  · rw [e233_z]
    exact (up_ne (bB_ne ho rfl)).trans ((up_ne (bB_ne ho rfl)).trans ((up_ne (bB_ne ho rfl)).trans ((up_ne (bB_ne ho rfl)).trans ((up_ne (bB_ne ho rfl)).trans ((up_ne (bB_ne ho rfl)).trans ((up_ne (bB_ne ho rfl)).trans ((up_ne (bB_ne ho rfl)).trans ((up_ne (bB_ne ho rfl)).trans ((up_ne (bB_ne ho rfl)).trans ((up_ne (bB_ne ho rfl)).trans ((up_ne (bB_ne ho rfl)).trans ((up_ne hk_z).trans ((up_ne (bB_ne ho rfl)).trans ((up_ne (bB_ne ho rfl)).trans ((up_ne (bB_ne ho rfl)).trans ((up_ne (bB_ne ho rfl)).trans (rfl)))))))))))))))))
theorem pt_208_201 {n : Nat} {r : Option Value} {g g' : am_H} (hm_z : rn n am_m208 0 (lv_args 0 [.ref 164, .ref 201, .int 0]) [] g r g') : (∀ j, j < 17 → rg_v g' 201 (j) = mS g 0 j) ∧ ∀ o k, ¬ (o = 201 ∧ 0 ≤ k ∧ k < 0 + 17) → g' o k = g o k := by
  have g0_z : am_get (lv_args 0 [.ref 164, .ref 201, .int 0]) 0 = some (.ref 164) := rfl
  have g1_z : am_get (lv_args 0 [.ref 164, .ref 201, .int 0]) 1 = some (.ref 201) := rfl
  have g2_z : am_get (lv_args 0 [.ref 164, .ref 201, .int 0]) 2 = some (.int 0) := rfl
  replace hm_z := rn_aload_n (am_cur_of (i := (0, 1, .aload_n 1, (0, 0, 0), 0)) (by decide +kernel)) g1_z hm_z
  replace hm_z := rn_iload_n (am_cur_of (i := (1, 1, .iload_n 2, (0, 0, 0), 0)) (by decide +kernel)) g2_z hm_z
  replace hm_z := rn_aload_n (am_cur_of (i := (2, 1, .aload_n 0, (0, 0, 0), 0)) (by decide +kernel)) g0_z hm_z
  replace hm_z := rn_getR (x := 188) (am_cur_of (i := (3, 3, .getfield 85, (12, 50, 1434), 0)) (by decide +kernel)) (by decide +kernel) hm_z
  replace hm_z := rn_iconst (w := 0) (am_cur_of (i := (6, 1, .iconst 0, (0, 0, 0), 0)) (by decide +kernel)) (by decide) hm_z
  replace hm_z := rn_iaload (N := 4) (q := 0) (v := rg_v g 188 0) (am_cur_of (i := (7, 1, .iaload, (0, 0, 0), 0)) (by decide +kernel)) (by decide +kernel) rfl rfl hm_z
  obtain ⟨p234_z, hm_z⟩ := hm_z
  replace hm_z := rn_iastore (N := 17) (q := 0) (am_cur_of (i := (8, 1, .iastore, (0, 0, 0), 0)) (by decide +kernel)) (by decide +kernel) rfl hm_z
  obtain ⟨p235_z, hm_z⟩ := hm_z
  replace hm_z := rn_aload_n (am_cur_of (i := (9, 1, .aload_n 1, (0, 0, 0), 0)) (by decide +kernel)) g1_z hm_z
  replace hm_z := rn_iload_n (am_cur_of (i := (10, 1, .iload_n 2, (0, 0, 0), 0)) (by decide +kernel)) g2_z hm_z
  replace hm_z := rn_iconst (w := 1) (am_cur_of (i := (11, 1, .iconst 1, (0, 0, 0), 0)) (by decide +kernel)) (by decide) hm_z
  replace hm_z := rn_iadd (w := 1) (am_cur_of (i := (12, 1, .iadd, (0, 0, 0), 0)) (by decide +kernel)) (by decide) hm_z
  replace hm_z := rn_aload_n (am_cur_of (i := (13, 1, .aload_n 0, (0, 0, 0), 0)) (by decide +kernel)) g0_z hm_z
  replace hm_z := rn_getR (x := 189) (am_cur_of (i := (14, 3, .getfield 88, (12, 51, 1435), 0)) (by decide +kernel)) (by decide +kernel) hm_z
  replace hm_z := rn_iconst (w := 0) (am_cur_of (i := (17, 1, .iconst 0, (0, 0, 0), 0)) (by decide +kernel)) (by decide) hm_z
  replace hm_z := rn_iaload (N := 4) (q := 0) (v := rg_v g 189 0) (am_cur_of (i := (18, 1, .iaload, (0, 0, 0), 0)) (by decide +kernel)) (by decide +kernel) rfl ((rg_v_other (by omega)).trans (rfl)) hm_z
  obtain ⟨p236_z, hm_z⟩ := hm_z
  replace hm_z := rn_iastore (N := 17) (q := 1) (am_cur_of (i := (19, 1, .iastore, (0, 0, 0), 0)) (by decide +kernel)) (by decide +kernel) rfl hm_z
  obtain ⟨p237_z, hm_z⟩ := hm_z
  replace hm_z := rn_aload_n (am_cur_of (i := (20, 1, .aload_n 1, (0, 0, 0), 0)) (by decide +kernel)) g1_z hm_z
  replace hm_z := rn_iload_n (am_cur_of (i := (21, 1, .iload_n 2, (0, 0, 0), 0)) (by decide +kernel)) g2_z hm_z
  replace hm_z := rn_iconst (w := 2) (am_cur_of (i := (22, 1, .iconst 2, (0, 0, 0), 0)) (by decide +kernel)) (by decide) hm_z
  replace hm_z := rn_iadd (w := 2) (am_cur_of (i := (23, 1, .iadd, (0, 0, 0), 0)) (by decide +kernel)) (by decide) hm_z
  replace hm_z := rn_aload_n (am_cur_of (i := (24, 1, .aload_n 0, (0, 0, 0), 0)) (by decide +kernel)) g0_z hm_z
  replace hm_z := rn_getR (x := 190) (am_cur_of (i := (25, 3, .getfield 91, (12, 52, 1436), 0)) (by decide +kernel)) (by decide +kernel) hm_z
  replace hm_z := rn_iconst (w := 0) (am_cur_of (i := (28, 1, .iconst 0, (0, 0, 0), 0)) (by decide +kernel)) (by decide) hm_z
  replace hm_z := rn_iaload (N := 4) (q := 0) (v := rg_v g 190 0) (am_cur_of (i := (29, 1, .iaload, (0, 0, 0), 0)) (by decide +kernel)) (by decide +kernel) rfl ((rg_v_other (by omega)).trans ((rg_v_other (by omega)).trans (rfl))) hm_z
  obtain ⟨p238_z, hm_z⟩ := hm_z
  replace hm_z := rn_iastore (N := 17) (q := 2) (am_cur_of (i := (30, 1, .iastore, (0, 0, 0), 0)) (by decide +kernel)) (by decide +kernel) rfl hm_z
  obtain ⟨p239_z, hm_z⟩ := hm_z
  replace hm_z := rn_aload_n (am_cur_of (i := (31, 1, .aload_n 1, (0, 0, 0), 0)) (by decide +kernel)) g1_z hm_z
  replace hm_z := rn_iload_n (am_cur_of (i := (32, 1, .iload_n 2, (0, 0, 0), 0)) (by decide +kernel)) g2_z hm_z
  replace hm_z := rn_iconst (w := 3) (am_cur_of (i := (33, 1, .iconst 3, (0, 0, 0), 0)) (by decide +kernel)) (by decide) hm_z
  replace hm_z := rn_iadd (w := 3) (am_cur_of (i := (34, 1, .iadd, (0, 0, 0), 0)) (by decide +kernel)) (by decide) hm_z
  replace hm_z := rn_aload_n (am_cur_of (i := (35, 1, .aload_n 0, (0, 0, 0), 0)) (by decide +kernel)) g0_z hm_z
  replace hm_z := rn_getR (x := 194) (am_cur_of (i := (36, 3, .getfield 103, (12, 56, 1440), 0)) (by decide +kernel)) (by decide +kernel) hm_z
  replace hm_z := rn_iconst (w := 0) (am_cur_of (i := (39, 1, .iconst 0, (0, 0, 0), 0)) (by decide +kernel)) (by decide) hm_z
  replace hm_z := rn_iaload (N := 4) (q := 0) (v := rg_v g 194 0) (am_cur_of (i := (40, 1, .iaload, (0, 0, 0), 0)) (by decide +kernel)) (by decide +kernel) rfl ((rg_v_other (by omega)).trans ((rg_v_other (by omega)).trans ((rg_v_other (by omega)).trans (rfl)))) hm_z
  obtain ⟨p240_z, hm_z⟩ := hm_z
  replace hm_z := rn_iastore (N := 17) (q := 3) (am_cur_of (i := (41, 1, .iastore, (0, 0, 0), 0)) (by decide +kernel)) (by decide +kernel) rfl hm_z
  obtain ⟨p241_z, hm_z⟩ := hm_z
  replace hm_z := rn_aload_n (am_cur_of (i := (42, 1, .aload_n 1, (0, 0, 0), 0)) (by decide +kernel)) g1_z hm_z
  replace hm_z := rn_iload_n (am_cur_of (i := (43, 1, .iload_n 2, (0, 0, 0), 0)) (by decide +kernel)) g2_z hm_z
  replace hm_z := rn_iconst (w := 4) (am_cur_of (i := (44, 1, .iconst 4, (0, 0, 0), 0)) (by decide +kernel)) (by decide) hm_z
  replace hm_z := rn_iadd (w := 4) (am_cur_of (i := (45, 1, .iadd, (0, 0, 0), 0)) (by decide +kernel)) (by decide) hm_z
  replace hm_z := rn_aload_n (am_cur_of (i := (46, 1, .aload_n 0, (0, 0, 0), 0)) (by decide +kernel)) g0_z hm_z
  replace hm_z := rn_getI (v := rg_v g 164 57) (am_cur_of (i := (47, 3, .getfield 349, (12, 57, 1441), 0)) (by decide +kernel)) (by decide +kernel) ((rg_v_other (by omega)).trans ((rg_v_other (by omega)).trans ((rg_v_other (by omega)).trans ((rg_v_other (by omega)).trans (rfl))))) hm_z
  replace hm_z := rn_iastore (N := 17) (q := 4) (am_cur_of (i := (50, 1, .iastore, (0, 0, 0), 0)) (by decide +kernel)) (by decide +kernel) rfl hm_z
  obtain ⟨p242_z, hm_z⟩ := hm_z
  replace hm_z := rn_iconst (w := 0) (am_cur_of (i := (51, 1, .iconst 0, (0, 0, 0), 0)) (by decide +kernel)) (by decide) hm_z
  replace hm_z := rn_istore_n (am_cur_of (i := (52, 1, .istore_n 3, (0, 0, 0), 0)) (by decide +kernel)) hm_z
  obtain ⟨_, s243_z, s244_z, g3_z, hm_z⟩ := hm_z
  replace g0_z := s243_z 0 _ (by decide) rfl g0_z
  replace g1_z := s243_z 1 _ (by decide) rfl g1_z
  replace g2_z := s243_z 2 _ (by decide) rfl g2_z
  clear s243_z s244_z
  replace hm_z := rn_iload_n (am_cur_of (i := (53, 1, .iload_n 3, (0, 0, 0), 0)) (by decide +kernel)) g3_z hm_z
  replace hm_z := rn_iconst (w := 4) (am_cur_of (i := (54, 1, .iconst 4, (0, 0, 0), 0)) (by decide +kernel)) (by decide) hm_z
  replace hm_z := rn_cmpF (am_cur_of (i := (55, 3, .if_icmp .ge 50, (81, 0, 0), 0)) (by decide +kernel)) (by decide) hm_z
  replace hm_z := rn_aload_n (am_cur_of (i := (58, 1, .aload_n 1, (0, 0, 0), 0)) (by decide +kernel)) g1_z hm_z
  replace hm_z := rn_iload_n (am_cur_of (i := (59, 1, .iload_n 2, (0, 0, 0), 0)) (by decide +kernel)) g2_z hm_z
  replace hm_z := rn_iconst (w := 5) (am_cur_of (i := (60, 1, .iconst 5, (0, 0, 0), 0)) (by decide +kernel)) (by decide) hm_z
  replace hm_z := rn_iadd (w := 5) (am_cur_of (i := (61, 1, .iadd, (0, 0, 0), 0)) (by decide +kernel)) (by decide) hm_z
  replace hm_z := rn_iload_n (am_cur_of (i := (62, 1, .iload_n 3, (0, 0, 0), 0)) (by decide +kernel)) g3_z hm_z
  replace hm_z := rn_iadd (w := 5) (am_cur_of (i := (63, 1, .iadd, (0, 0, 0), 0)) (by decide +kernel)) (by decide) hm_z
  replace hm_z := rn_aload_n (am_cur_of (i := (64, 1, .aload_n 0, (0, 0, 0), 0)) (by decide +kernel)) g0_z hm_z
  replace hm_z := rn_getR (x := 191) (am_cur_of (i := (65, 3, .getfield 94, (12, 53, 1437), 0)) (by decide +kernel)) (by decide +kernel) hm_z
  replace hm_z := rn_iload_n (am_cur_of (i := (68, 1, .iload_n 3, (0, 0, 0), 0)) (by decide +kernel)) g3_z hm_z
  replace hm_z := rn_iaload (N := 16) (q := 0) (v := rg_v g 191 0) (am_cur_of (i := (69, 1, .iaload, (0, 0, 0), 0)) (by decide +kernel)) (by decide +kernel) rfl ((rg_v_other (by omega)).trans ((rg_v_other (by omega)).trans ((rg_v_other (by omega)).trans ((rg_v_other (by omega)).trans ((rg_v_other (by omega)).trans (rfl)))))) hm_z
  obtain ⟨p245_z, hm_z⟩ := hm_z
  replace hm_z := rn_iastore (N := 17) (q := 5) (am_cur_of (i := (70, 1, .iastore, (0, 0, 0), 0)) (by decide +kernel)) (by decide +kernel) rfl hm_z
  obtain ⟨p246_z, hm_z⟩ := hm_z
  replace hm_z := rn_aload_n (am_cur_of (i := (71, 1, .aload_n 1, (0, 0, 0), 0)) (by decide +kernel)) g1_z hm_z
  replace hm_z := rn_iload_n (am_cur_of (i := (72, 1, .iload_n 2, (0, 0, 0), 0)) (by decide +kernel)) g2_z hm_z
  replace hm_z := rn_bipush (w := 9) (am_cur_of (i := (73, 2, .bipush 9, (0, 0, 0), 0)) (by decide +kernel)) (by decide) hm_z
  replace hm_z := rn_iadd (w := 9) (am_cur_of (i := (75, 1, .iadd, (0, 0, 0), 0)) (by decide +kernel)) (by decide) hm_z
  replace hm_z := rn_iload_n (am_cur_of (i := (76, 1, .iload_n 3, (0, 0, 0), 0)) (by decide +kernel)) g3_z hm_z
  replace hm_z := rn_iadd (w := 9) (am_cur_of (i := (77, 1, .iadd, (0, 0, 0), 0)) (by decide +kernel)) (by decide) hm_z
  replace hm_z := rn_aload_n (am_cur_of (i := (78, 1, .aload_n 0, (0, 0, 0), 0)) (by decide +kernel)) g0_z hm_z
  replace hm_z := rn_getR (x := 192) (am_cur_of (i := (79, 3, .getfield 97, (12, 54, 1438), 0)) (by decide +kernel)) (by decide +kernel) hm_z
  replace hm_z := rn_iload_n (am_cur_of (i := (82, 1, .iload_n 3, (0, 0, 0), 0)) (by decide +kernel)) g3_z hm_z
  replace hm_z := rn_iaload (N := 16) (q := 0) (v := rg_v g 192 0) (am_cur_of (i := (83, 1, .iaload, (0, 0, 0), 0)) (by decide +kernel)) (by decide +kernel) rfl ((rg_v_other (by omega)).trans ((rg_v_other (by omega)).trans ((rg_v_other (by omega)).trans ((rg_v_other (by omega)).trans ((rg_v_other (by omega)).trans ((rg_v_other (by omega)).trans (rfl))))))) hm_z
  obtain ⟨p247_z, hm_z⟩ := hm_z
  replace hm_z := rn_iastore (N := 17) (q := 9) (am_cur_of (i := (84, 1, .iastore, (0, 0, 0), 0)) (by decide +kernel)) (by decide +kernel) rfl hm_z
  obtain ⟨p248_z, hm_z⟩ := hm_z
  replace hm_z := rn_aload_n (am_cur_of (i := (85, 1, .aload_n 1, (0, 0, 0), 0)) (by decide +kernel)) g1_z hm_z
  replace hm_z := rn_iload_n (am_cur_of (i := (86, 1, .iload_n 2, (0, 0, 0), 0)) (by decide +kernel)) g2_z hm_z
  replace hm_z := rn_bipush (w := 13) (am_cur_of (i := (87, 2, .bipush 13, (0, 0, 0), 0)) (by decide +kernel)) (by decide) hm_z
  replace hm_z := rn_iadd (w := 13) (am_cur_of (i := (89, 1, .iadd, (0, 0, 0), 0)) (by decide +kernel)) (by decide) hm_z
  replace hm_z := rn_iload_n (am_cur_of (i := (90, 1, .iload_n 3, (0, 0, 0), 0)) (by decide +kernel)) g3_z hm_z
  replace hm_z := rn_iadd (w := 13) (am_cur_of (i := (91, 1, .iadd, (0, 0, 0), 0)) (by decide +kernel)) (by decide) hm_z
  replace hm_z := rn_aload_n (am_cur_of (i := (92, 1, .aload_n 0, (0, 0, 0), 0)) (by decide +kernel)) g0_z hm_z
  replace hm_z := rn_getR (x := 193) (am_cur_of (i := (93, 3, .getfield 100, (12, 55, 1439), 0)) (by decide +kernel)) (by decide +kernel) hm_z
  replace hm_z := rn_iload_n (am_cur_of (i := (96, 1, .iload_n 3, (0, 0, 0), 0)) (by decide +kernel)) g3_z hm_z
  replace hm_z := rn_iaload (N := 16) (q := 0) (v := rg_v g 193 0) (am_cur_of (i := (97, 1, .iaload, (0, 0, 0), 0)) (by decide +kernel)) (by decide +kernel) rfl ((rg_v_other (by omega)).trans ((rg_v_other (by omega)).trans ((rg_v_other (by omega)).trans ((rg_v_other (by omega)).trans ((rg_v_other (by omega)).trans ((rg_v_other (by omega)).trans ((rg_v_other (by omega)).trans (rfl)))))))) hm_z
  obtain ⟨p249_z, hm_z⟩ := hm_z
  replace hm_z := rn_iastore (N := 17) (q := 13) (am_cur_of (i := (98, 1, .iastore, (0, 0, 0), 0)) (by decide +kernel)) (by decide +kernel) rfl hm_z
  obtain ⟨p250_z, hm_z⟩ := hm_z
  replace hm_z := rn_iinc (w := 1) (am_cur_of (i := (99, 3, .iinc 3 1, (0, 0, 0), 0)) (by decide +kernel)) g3_z (by decide) hm_z
  obtain ⟨_, s251_z, s252_z, g3_z, hm_z⟩ := hm_z
  replace g0_z := s251_z 0 _ (by decide) rfl g0_z
  replace g1_z := s251_z 1 _ (by decide) rfl g1_z
  replace g2_z := s251_z 2 _ (by decide) rfl g2_z
  clear s251_z s252_z
  replace hm_z := rn_goto (am_cur_of (i := (102, 3, .goto (-49), (43, 0, 0), 0)) (by decide +kernel)) hm_z
  replace hm_z := rn_iload_n (am_cur_of (i := (53, 1, .iload_n 3, (0, 0, 0), 0)) (by decide +kernel)) g3_z hm_z
  replace hm_z := rn_iconst (w := 4) (am_cur_of (i := (54, 1, .iconst 4, (0, 0, 0), 0)) (by decide +kernel)) (by decide) hm_z
  replace hm_z := rn_cmpF (am_cur_of (i := (55, 3, .if_icmp .ge 50, (81, 0, 0), 0)) (by decide +kernel)) (by decide) hm_z
  replace hm_z := rn_aload_n (am_cur_of (i := (58, 1, .aload_n 1, (0, 0, 0), 0)) (by decide +kernel)) g1_z hm_z
  replace hm_z := rn_iload_n (am_cur_of (i := (59, 1, .iload_n 2, (0, 0, 0), 0)) (by decide +kernel)) g2_z hm_z
  replace hm_z := rn_iconst (w := 5) (am_cur_of (i := (60, 1, .iconst 5, (0, 0, 0), 0)) (by decide +kernel)) (by decide) hm_z
  replace hm_z := rn_iadd (w := 5) (am_cur_of (i := (61, 1, .iadd, (0, 0, 0), 0)) (by decide +kernel)) (by decide) hm_z
  replace hm_z := rn_iload_n (am_cur_of (i := (62, 1, .iload_n 3, (0, 0, 0), 0)) (by decide +kernel)) g3_z hm_z
  replace hm_z := rn_iadd (w := 6) (am_cur_of (i := (63, 1, .iadd, (0, 0, 0), 0)) (by decide +kernel)) (by decide) hm_z
  replace hm_z := rn_aload_n (am_cur_of (i := (64, 1, .aload_n 0, (0, 0, 0), 0)) (by decide +kernel)) g0_z hm_z
  replace hm_z := rn_getR (x := 191) (am_cur_of (i := (65, 3, .getfield 94, (12, 53, 1437), 0)) (by decide +kernel)) (by decide +kernel) hm_z
  replace hm_z := rn_iload_n (am_cur_of (i := (68, 1, .iload_n 3, (0, 0, 0), 0)) (by decide +kernel)) g3_z hm_z
  replace hm_z := rn_iaload (N := 16) (q := 1) (v := rg_v g 191 1) (am_cur_of (i := (69, 1, .iaload, (0, 0, 0), 0)) (by decide +kernel)) (by decide +kernel) rfl ((rg_v_other (by omega)).trans ((rg_v_other (by omega)).trans ((rg_v_other (by omega)).trans ((rg_v_other (by omega)).trans ((rg_v_other (by omega)).trans ((rg_v_other (by omega)).trans ((rg_v_other (by omega)).trans ((rg_v_other (by omega)).trans (rfl))))))))) hm_z
  obtain ⟨p253_z, hm_z⟩ := hm_z
  replace hm_z := rn_iastore (N := 17) (q := 6) (am_cur_of (i := (70, 1, .iastore, (0, 0, 0), 0)) (by decide +kernel)) (by decide +kernel) rfl hm_z
  obtain ⟨p254_z, hm_z⟩ := hm_z
  replace hm_z := rn_aload_n (am_cur_of (i := (71, 1, .aload_n 1, (0, 0, 0), 0)) (by decide +kernel)) g1_z hm_z
  replace hm_z := rn_iload_n (am_cur_of (i := (72, 1, .iload_n 2, (0, 0, 0), 0)) (by decide +kernel)) g2_z hm_z
  replace hm_z := rn_bipush (w := 9) (am_cur_of (i := (73, 2, .bipush 9, (0, 0, 0), 0)) (by decide +kernel)) (by decide) hm_z
  replace hm_z := rn_iadd (w := 9) (am_cur_of (i := (75, 1, .iadd, (0, 0, 0), 0)) (by decide +kernel)) (by decide) hm_z
  replace hm_z := rn_iload_n (am_cur_of (i := (76, 1, .iload_n 3, (0, 0, 0), 0)) (by decide +kernel)) g3_z hm_z
  replace hm_z := rn_iadd (w := 10) (am_cur_of (i := (77, 1, .iadd, (0, 0, 0), 0)) (by decide +kernel)) (by decide) hm_z
  replace hm_z := rn_aload_n (am_cur_of (i := (78, 1, .aload_n 0, (0, 0, 0), 0)) (by decide +kernel)) g0_z hm_z
  replace hm_z := rn_getR (x := 192) (am_cur_of (i := (79, 3, .getfield 97, (12, 54, 1438), 0)) (by decide +kernel)) (by decide +kernel) hm_z
  replace hm_z := rn_iload_n (am_cur_of (i := (82, 1, .iload_n 3, (0, 0, 0), 0)) (by decide +kernel)) g3_z hm_z
  replace hm_z := rn_iaload (N := 16) (q := 1) (v := rg_v g 192 1) (am_cur_of (i := (83, 1, .iaload, (0, 0, 0), 0)) (by decide +kernel)) (by decide +kernel) rfl ((rg_v_other (by omega)).trans ((rg_v_other (by omega)).trans ((rg_v_other (by omega)).trans ((rg_v_other (by omega)).trans ((rg_v_other (by omega)).trans ((rg_v_other (by omega)).trans ((rg_v_other (by omega)).trans ((rg_v_other (by omega)).trans ((rg_v_other (by omega)).trans (rfl)))))))))) hm_z
  obtain ⟨p255_z, hm_z⟩ := hm_z
  replace hm_z := rn_iastore (N := 17) (q := 10) (am_cur_of (i := (84, 1, .iastore, (0, 0, 0), 0)) (by decide +kernel)) (by decide +kernel) rfl hm_z
  obtain ⟨p256_z, hm_z⟩ := hm_z
  replace hm_z := rn_aload_n (am_cur_of (i := (85, 1, .aload_n 1, (0, 0, 0), 0)) (by decide +kernel)) g1_z hm_z
  replace hm_z := rn_iload_n (am_cur_of (i := (86, 1, .iload_n 2, (0, 0, 0), 0)) (by decide +kernel)) g2_z hm_z
  replace hm_z := rn_bipush (w := 13) (am_cur_of (i := (87, 2, .bipush 13, (0, 0, 0), 0)) (by decide +kernel)) (by decide) hm_z
  replace hm_z := rn_iadd (w := 13) (am_cur_of (i := (89, 1, .iadd, (0, 0, 0), 0)) (by decide +kernel)) (by decide) hm_z
  replace hm_z := rn_iload_n (am_cur_of (i := (90, 1, .iload_n 3, (0, 0, 0), 0)) (by decide +kernel)) g3_z hm_z
  replace hm_z := rn_iadd (w := 14) (am_cur_of (i := (91, 1, .iadd, (0, 0, 0), 0)) (by decide +kernel)) (by decide) hm_z
  replace hm_z := rn_aload_n (am_cur_of (i := (92, 1, .aload_n 0, (0, 0, 0), 0)) (by decide +kernel)) g0_z hm_z
  replace hm_z := rn_getR (x := 193) (am_cur_of (i := (93, 3, .getfield 100, (12, 55, 1439), 0)) (by decide +kernel)) (by decide +kernel) hm_z
  replace hm_z := rn_iload_n (am_cur_of (i := (96, 1, .iload_n 3, (0, 0, 0), 0)) (by decide +kernel)) g3_z hm_z
  replace hm_z := rn_iaload (N := 16) (q := 1) (v := rg_v g 193 1) (am_cur_of (i := (97, 1, .iaload, (0, 0, 0), 0)) (by decide +kernel)) (by decide +kernel) rfl ((rg_v_other (by omega)).trans ((rg_v_other (by omega)).trans ((rg_v_other (by omega)).trans ((rg_v_other (by omega)).trans ((rg_v_other (by omega)).trans ((rg_v_other (by omega)).trans ((rg_v_other (by omega)).trans ((rg_v_other (by omega)).trans ((rg_v_other (by omega)).trans ((rg_v_other (by omega)).trans (rfl))))))))))) hm_z
  obtain ⟨p257_z, hm_z⟩ := hm_z
  replace hm_z := rn_iastore (N := 17) (q := 14) (am_cur_of (i := (98, 1, .iastore, (0, 0, 0), 0)) (by decide +kernel)) (by decide +kernel) rfl hm_z
  obtain ⟨p258_z, hm_z⟩ := hm_z
  replace hm_z := rn_iinc (w := 2) (am_cur_of (i := (99, 3, .iinc 3 1, (0, 0, 0), 0)) (by decide +kernel)) g3_z (by decide) hm_z
  obtain ⟨_, s259_z, s260_z, g3_z, hm_z⟩ := hm_z
  replace g0_z := s259_z 0 _ (by decide) rfl g0_z
  replace g1_z := s259_z 1 _ (by decide) rfl g1_z
  replace g2_z := s259_z 2 _ (by decide) rfl g2_z
  clear s259_z s260_z
  replace hm_z := rn_goto (am_cur_of (i := (102, 3, .goto (-49), (43, 0, 0), 0)) (by decide +kernel)) hm_z
  replace hm_z := rn_iload_n (am_cur_of (i := (53, 1, .iload_n 3, (0, 0, 0), 0)) (by decide +kernel)) g3_z hm_z
  replace hm_z := rn_iconst (w := 4) (am_cur_of (i := (54, 1, .iconst 4, (0, 0, 0), 0)) (by decide +kernel)) (by decide) hm_z
  replace hm_z := rn_cmpF (am_cur_of (i := (55, 3, .if_icmp .ge 50, (81, 0, 0), 0)) (by decide +kernel)) (by decide) hm_z
  replace hm_z := rn_aload_n (am_cur_of (i := (58, 1, .aload_n 1, (0, 0, 0), 0)) (by decide +kernel)) g1_z hm_z
  replace hm_z := rn_iload_n (am_cur_of (i := (59, 1, .iload_n 2, (0, 0, 0), 0)) (by decide +kernel)) g2_z hm_z
  replace hm_z := rn_iconst (w := 5) (am_cur_of (i := (60, 1, .iconst 5, (0, 0, 0), 0)) (by decide +kernel)) (by decide) hm_z
  replace hm_z := rn_iadd (w := 5) (am_cur_of (i := (61, 1, .iadd, (0, 0, 0), 0)) (by decide +kernel)) (by decide) hm_z
  replace hm_z := rn_iload_n (am_cur_of (i := (62, 1, .iload_n 3, (0, 0, 0), 0)) (by decide +kernel)) g3_z hm_z
  replace hm_z := rn_iadd (w := 7) (am_cur_of (i := (63, 1, .iadd, (0, 0, 0), 0)) (by decide +kernel)) (by decide) hm_z
  replace hm_z := rn_aload_n (am_cur_of (i := (64, 1, .aload_n 0, (0, 0, 0), 0)) (by decide +kernel)) g0_z hm_z
  replace hm_z := rn_getR (x := 191) (am_cur_of (i := (65, 3, .getfield 94, (12, 53, 1437), 0)) (by decide +kernel)) (by decide +kernel) hm_z
  replace hm_z := rn_iload_n (am_cur_of (i := (68, 1, .iload_n 3, (0, 0, 0), 0)) (by decide +kernel)) g3_z hm_z
  replace hm_z := rn_iaload (N := 16) (q := 2) (v := rg_v g 191 2) (am_cur_of (i := (69, 1, .iaload, (0, 0, 0), 0)) (by decide +kernel)) (by decide +kernel) rfl ((rg_v_other (by omega)).trans ((rg_v_other (by omega)).trans ((rg_v_other (by omega)).trans ((rg_v_other (by omega)).trans ((rg_v_other (by omega)).trans ((rg_v_other (by omega)).trans ((rg_v_other (by omega)).trans ((rg_v_other (by omega)).trans ((rg_v_other (by omega)).trans ((rg_v_other (by omega)).trans ((rg_v_other (by omega)).trans (rfl)))))))))))) hm_z
  obtain ⟨p261_z, hm_z⟩ := hm_z
  replace hm_z := rn_iastore (N := 17) (q := 7) (am_cur_of (i := (70, 1, .iastore, (0, 0, 0), 0)) (by decide +kernel)) (by decide +kernel) rfl hm_z
  obtain ⟨p262_z, hm_z⟩ := hm_z
  replace hm_z := rn_aload_n (am_cur_of (i := (71, 1, .aload_n 1, (0, 0, 0), 0)) (by decide +kernel)) g1_z hm_z
  replace hm_z := rn_iload_n (am_cur_of (i := (72, 1, .iload_n 2, (0, 0, 0), 0)) (by decide +kernel)) g2_z hm_z
  replace hm_z := rn_bipush (w := 9) (am_cur_of (i := (73, 2, .bipush 9, (0, 0, 0), 0)) (by decide +kernel)) (by decide) hm_z
  replace hm_z := rn_iadd (w := 9) (am_cur_of (i := (75, 1, .iadd, (0, 0, 0), 0)) (by decide +kernel)) (by decide) hm_z
  replace hm_z := rn_iload_n (am_cur_of (i := (76, 1, .iload_n 3, (0, 0, 0), 0)) (by decide +kernel)) g3_z hm_z
  replace hm_z := rn_iadd (w := 11) (am_cur_of (i := (77, 1, .iadd, (0, 0, 0), 0)) (by decide +kernel)) (by decide) hm_z
  replace hm_z := rn_aload_n (am_cur_of (i := (78, 1, .aload_n 0, (0, 0, 0), 0)) (by decide +kernel)) g0_z hm_z
  replace hm_z := rn_getR (x := 192) (am_cur_of (i := (79, 3, .getfield 97, (12, 54, 1438), 0)) (by decide +kernel)) (by decide +kernel) hm_z
  replace hm_z := rn_iload_n (am_cur_of (i := (82, 1, .iload_n 3, (0, 0, 0), 0)) (by decide +kernel)) g3_z hm_z
  replace hm_z := rn_iaload (N := 16) (q := 2) (v := rg_v g 192 2) (am_cur_of (i := (83, 1, .iaload, (0, 0, 0), 0)) (by decide +kernel)) (by decide +kernel) rfl ((rg_v_other (by omega)).trans ((rg_v_other (by omega)).trans ((rg_v_other (by omega)).trans ((rg_v_other (by omega)).trans ((rg_v_other (by omega)).trans ((rg_v_other (by omega)).trans ((rg_v_other (by omega)).trans ((rg_v_other (by omega)).trans ((rg_v_other (by omega)).trans ((rg_v_other (by omega)).trans ((rg_v_other (by omega)).trans ((rg_v_other (by omega)).trans (rfl))))))))))))) hm_z
  obtain ⟨p263_z, hm_z⟩ := hm_z
  replace hm_z := rn_iastore (N := 17) (q := 11) (am_cur_of (i := (84, 1, .iastore, (0, 0, 0), 0)) (by decide +kernel)) (by decide +kernel) rfl hm_z
  obtain ⟨p264_z, hm_z⟩ := hm_z
  replace hm_z := rn_aload_n (am_cur_of (i := (85, 1, .aload_n 1, (0, 0, 0), 0)) (by decide +kernel)) g1_z hm_z
  replace hm_z := rn_iload_n (am_cur_of (i := (86, 1, .iload_n 2, (0, 0, 0), 0)) (by decide +kernel)) g2_z hm_z
  replace hm_z := rn_bipush (w := 13) (am_cur_of (i := (87, 2, .bipush 13, (0, 0, 0), 0)) (by decide +kernel)) (by decide) hm_z
  replace hm_z := rn_iadd (w := 13) (am_cur_of (i := (89, 1, .iadd, (0, 0, 0), 0)) (by decide +kernel)) (by decide) hm_z
  replace hm_z := rn_iload_n (am_cur_of (i := (90, 1, .iload_n 3, (0, 0, 0), 0)) (by decide +kernel)) g3_z hm_z
  replace hm_z := rn_iadd (w := 15) (am_cur_of (i := (91, 1, .iadd, (0, 0, 0), 0)) (by decide +kernel)) (by decide) hm_z
  replace hm_z := rn_aload_n (am_cur_of (i := (92, 1, .aload_n 0, (0, 0, 0), 0)) (by decide +kernel)) g0_z hm_z
  replace hm_z := rn_getR (x := 193) (am_cur_of (i := (93, 3, .getfield 100, (12, 55, 1439), 0)) (by decide +kernel)) (by decide +kernel) hm_z
  replace hm_z := rn_iload_n (am_cur_of (i := (96, 1, .iload_n 3, (0, 0, 0), 0)) (by decide +kernel)) g3_z hm_z
  replace hm_z := rn_iaload (N := 16) (q := 2) (v := rg_v g 193 2) (am_cur_of (i := (97, 1, .iaload, (0, 0, 0), 0)) (by decide +kernel)) (by decide +kernel) rfl ((rg_v_other (by omega)).trans ((rg_v_other (by omega)).trans ((rg_v_other (by omega)).trans ((rg_v_other (by omega)).trans ((rg_v_other (by omega)).trans ((rg_v_other (by omega)).trans ((rg_v_other (by omega)).trans ((rg_v_other (by omega)).trans ((rg_v_other (by omega)).trans ((rg_v_other (by omega)).trans ((rg_v_other (by omega)).trans ((rg_v_other (by omega)).trans ((rg_v_other (by omega)).trans (rfl)))))))))))))) hm_z
  obtain ⟨p265_z, hm_z⟩ := hm_z
  replace hm_z := rn_iastore (N := 17) (q := 15) (am_cur_of (i := (98, 1, .iastore, (0, 0, 0), 0)) (by decide +kernel)) (by decide +kernel) rfl hm_z
  obtain ⟨p266_z, hm_z⟩ := hm_z
  replace hm_z := rn_iinc (w := 3) (am_cur_of (i := (99, 3, .iinc 3 1, (0, 0, 0), 0)) (by decide +kernel)) g3_z (by decide) hm_z
  obtain ⟨_, s267_z, s268_z, g3_z, hm_z⟩ := hm_z
  replace g0_z := s267_z 0 _ (by decide) rfl g0_z
  replace g1_z := s267_z 1 _ (by decide) rfl g1_z
  replace g2_z := s267_z 2 _ (by decide) rfl g2_z
  clear s267_z s268_z
  replace hm_z := rn_goto (am_cur_of (i := (102, 3, .goto (-49), (43, 0, 0), 0)) (by decide +kernel)) hm_z
  replace hm_z := rn_iload_n (am_cur_of (i := (53, 1, .iload_n 3, (0, 0, 0), 0)) (by decide +kernel)) g3_z hm_z
  replace hm_z := rn_iconst (w := 4) (am_cur_of (i := (54, 1, .iconst 4, (0, 0, 0), 0)) (by decide +kernel)) (by decide) hm_z
  replace hm_z := rn_cmpF (am_cur_of (i := (55, 3, .if_icmp .ge 50, (81, 0, 0), 0)) (by decide +kernel)) (by decide) hm_z
  replace hm_z := rn_aload_n (am_cur_of (i := (58, 1, .aload_n 1, (0, 0, 0), 0)) (by decide +kernel)) g1_z hm_z
  replace hm_z := rn_iload_n (am_cur_of (i := (59, 1, .iload_n 2, (0, 0, 0), 0)) (by decide +kernel)) g2_z hm_z
  replace hm_z := rn_iconst (w := 5) (am_cur_of (i := (60, 1, .iconst 5, (0, 0, 0), 0)) (by decide +kernel)) (by decide) hm_z
  replace hm_z := rn_iadd (w := 5) (am_cur_of (i := (61, 1, .iadd, (0, 0, 0), 0)) (by decide +kernel)) (by decide) hm_z
  replace hm_z := rn_iload_n (am_cur_of (i := (62, 1, .iload_n 3, (0, 0, 0), 0)) (by decide +kernel)) g3_z hm_z
  replace hm_z := rn_iadd (w := 8) (am_cur_of (i := (63, 1, .iadd, (0, 0, 0), 0)) (by decide +kernel)) (by decide) hm_z
  replace hm_z := rn_aload_n (am_cur_of (i := (64, 1, .aload_n 0, (0, 0, 0), 0)) (by decide +kernel)) g0_z hm_z
  replace hm_z := rn_getR (x := 191) (am_cur_of (i := (65, 3, .getfield 94, (12, 53, 1437), 0)) (by decide +kernel)) (by decide +kernel) hm_z
  replace hm_z := rn_iload_n (am_cur_of (i := (68, 1, .iload_n 3, (0, 0, 0), 0)) (by decide +kernel)) g3_z hm_z
  replace hm_z := rn_iaload (N := 16) (q := 3) (v := rg_v g 191 3) (am_cur_of (i := (69, 1, .iaload, (0, 0, 0), 0)) (by decide +kernel)) (by decide +kernel) rfl ((rg_v_other (by omega)).trans ((rg_v_other (by omega)).trans ((rg_v_other (by omega)).trans ((rg_v_other (by omega)).trans ((rg_v_other (by omega)).trans ((rg_v_other (by omega)).trans ((rg_v_other (by omega)).trans ((rg_v_other (by omega)).trans ((rg_v_other (by omega)).trans ((rg_v_other (by omega)).trans ((rg_v_other (by omega)).trans ((rg_v_other (by omega)).trans ((rg_v_other (by omega)).trans ((rg_v_other (by omega)).trans (rfl))))))))))))))) hm_z
  obtain ⟨p269_z, hm_z⟩ := hm_z
  replace hm_z := rn_iastore (N := 17) (q := 8) (am_cur_of (i := (70, 1, .iastore, (0, 0, 0), 0)) (by decide +kernel)) (by decide +kernel) rfl hm_z
  obtain ⟨p270_z, hm_z⟩ := hm_z
  replace hm_z := rn_aload_n (am_cur_of (i := (71, 1, .aload_n 1, (0, 0, 0), 0)) (by decide +kernel)) g1_z hm_z
  replace hm_z := rn_iload_n (am_cur_of (i := (72, 1, .iload_n 2, (0, 0, 0), 0)) (by decide +kernel)) g2_z hm_z
  replace hm_z := rn_bipush (w := 9) (am_cur_of (i := (73, 2, .bipush 9, (0, 0, 0), 0)) (by decide +kernel)) (by decide) hm_z
  replace hm_z := rn_iadd (w := 9) (am_cur_of (i := (75, 1, .iadd, (0, 0, 0), 0)) (by decide +kernel)) (by decide) hm_z
  replace hm_z := rn_iload_n (am_cur_of (i := (76, 1, .iload_n 3, (0, 0, 0), 0)) (by decide +kernel)) g3_z hm_z
  replace hm_z := rn_iadd (w := 12) (am_cur_of (i := (77, 1, .iadd, (0, 0, 0), 0)) (by decide +kernel)) (by decide) hm_z
  replace hm_z := rn_aload_n (am_cur_of (i := (78, 1, .aload_n 0, (0, 0, 0), 0)) (by decide +kernel)) g0_z hm_z
  replace hm_z := rn_getR (x := 192) (am_cur_of (i := (79, 3, .getfield 97, (12, 54, 1438), 0)) (by decide +kernel)) (by decide +kernel) hm_z
  replace hm_z := rn_iload_n (am_cur_of (i := (82, 1, .iload_n 3, (0, 0, 0), 0)) (by decide +kernel)) g3_z hm_z
  replace hm_z := rn_iaload (N := 16) (q := 3) (v := rg_v g 192 3) (am_cur_of (i := (83, 1, .iaload, (0, 0, 0), 0)) (by decide +kernel)) (by decide +kernel) rfl ((rg_v_other (by omega)).trans ((rg_v_other (by omega)).trans ((rg_v_other (by omega)).trans ((rg_v_other (by omega)).trans ((rg_v_other (by omega)).trans ((rg_v_other (by omega)).trans ((rg_v_other (by omega)).trans ((rg_v_other (by omega)).trans ((rg_v_other (by omega)).trans ((rg_v_other (by omega)).trans ((rg_v_other (by omega)).trans ((rg_v_other (by omega)).trans ((rg_v_other (by omega)).trans ((rg_v_other (by omega)).trans ((rg_v_other (by omega)).trans (rfl)))))))))))))))) hm_z
  obtain ⟨p271_z, hm_z⟩ := hm_z
  replace hm_z := rn_iastore (N := 17) (q := 12) (am_cur_of (i := (84, 1, .iastore, (0, 0, 0), 0)) (by decide +kernel)) (by decide +kernel) rfl hm_z
  obtain ⟨p272_z, hm_z⟩ := hm_z
  replace hm_z := rn_aload_n (am_cur_of (i := (85, 1, .aload_n 1, (0, 0, 0), 0)) (by decide +kernel)) g1_z hm_z
  replace hm_z := rn_iload_n (am_cur_of (i := (86, 1, .iload_n 2, (0, 0, 0), 0)) (by decide +kernel)) g2_z hm_z
  replace hm_z := rn_bipush (w := 13) (am_cur_of (i := (87, 2, .bipush 13, (0, 0, 0), 0)) (by decide +kernel)) (by decide) hm_z
  replace hm_z := rn_iadd (w := 13) (am_cur_of (i := (89, 1, .iadd, (0, 0, 0), 0)) (by decide +kernel)) (by decide) hm_z
  replace hm_z := rn_iload_n (am_cur_of (i := (90, 1, .iload_n 3, (0, 0, 0), 0)) (by decide +kernel)) g3_z hm_z
  replace hm_z := rn_iadd (w := 16) (am_cur_of (i := (91, 1, .iadd, (0, 0, 0), 0)) (by decide +kernel)) (by decide) hm_z
  replace hm_z := rn_aload_n (am_cur_of (i := (92, 1, .aload_n 0, (0, 0, 0), 0)) (by decide +kernel)) g0_z hm_z
  replace hm_z := rn_getR (x := 193) (am_cur_of (i := (93, 3, .getfield 100, (12, 55, 1439), 0)) (by decide +kernel)) (by decide +kernel) hm_z
  replace hm_z := rn_iload_n (am_cur_of (i := (96, 1, .iload_n 3, (0, 0, 0), 0)) (by decide +kernel)) g3_z hm_z
  replace hm_z := rn_iaload (N := 16) (q := 3) (v := rg_v g 193 3) (am_cur_of (i := (97, 1, .iaload, (0, 0, 0), 0)) (by decide +kernel)) (by decide +kernel) rfl ((rg_v_other (by omega)).trans ((rg_v_other (by omega)).trans ((rg_v_other (by omega)).trans ((rg_v_other (by omega)).trans ((rg_v_other (by omega)).trans ((rg_v_other (by omega)).trans ((rg_v_other (by omega)).trans ((rg_v_other (by omega)).trans ((rg_v_other (by omega)).trans ((rg_v_other (by omega)).trans ((rg_v_other (by omega)).trans ((rg_v_other (by omega)).trans ((rg_v_other (by omega)).trans ((rg_v_other (by omega)).trans ((rg_v_other (by omega)).trans ((rg_v_other (by omega)).trans (rfl))))))))))))))))) hm_z
  obtain ⟨p273_z, hm_z⟩ := hm_z
  replace hm_z := rn_iastore (N := 17) (q := 16) (am_cur_of (i := (98, 1, .iastore, (0, 0, 0), 0)) (by decide +kernel)) (by decide +kernel) rfl hm_z
  obtain ⟨p274_z, hm_z⟩ := hm_z
  replace hm_z := rn_iinc (w := 4) (am_cur_of (i := (99, 3, .iinc 3 1, (0, 0, 0), 0)) (by decide +kernel)) g3_z (by decide) hm_z
  obtain ⟨_, s275_z, s276_z, g3_z, hm_z⟩ := hm_z
  replace g0_z := s275_z 0 _ (by decide) rfl g0_z
  replace g1_z := s275_z 1 _ (by decide) rfl g1_z
  replace g2_z := s275_z 2 _ (by decide) rfl g2_z
  clear s275_z s276_z
  replace hm_z := rn_goto (am_cur_of (i := (102, 3, .goto (-49), (43, 0, 0), 0)) (by decide +kernel)) hm_z
  replace hm_z := rn_iload_n (am_cur_of (i := (53, 1, .iload_n 3, (0, 0, 0), 0)) (by decide +kernel)) g3_z hm_z
  replace hm_z := rn_iconst (w := 4) (am_cur_of (i := (54, 1, .iconst 4, (0, 0, 0), 0)) (by decide +kernel)) (by decide) hm_z
  replace hm_z := rn_cmpT (am_cur_of (i := (55, 3, .if_icmp .ge 50, (81, 0, 0), 0)) (by decide +kernel)) (by decide) hm_z
  replace hm_z := rn_vret (am_cur_of (i := (105, 1, .return_, (0, 0, 0), 0)) (by decide +kernel)) hm_z
  obtain ⟨e277_z, e278_z⟩ := hm_z
  refine ⟨fun j hj_z => ?_, fun o k ho => ?_⟩
  · rw [e278_z]
    match j, hj_z with
    | 0, _ => rfl
    | 1, _ => rfl
    | 2, _ => rfl
    | 3, _ => rfl
    | 4, _ => rfl
    | 5, _ => rfl
    | 6, _ => rfl
    | 7, _ => rfl
    | 8, _ => rfl
    | 9, _ => rfl
    | 10, _ => rfl
    | 11, _ => rfl
    | 12, _ => rfl
    | 13, _ => rfl
    | 14, _ => rfl
    | 15, _ => rfl
    | 16, _ => rfl
    | j + 17, hj_z => omega
  · rw [e278_z]
    exact (up_ne (by omega)).trans ((up_ne (by omega)).trans ((up_ne (by omega)).trans ((up_ne (by omega)).trans ((up_ne (by omega)).trans ((up_ne (by omega)).trans ((up_ne (by omega)).trans ((up_ne (by omega)).trans ((up_ne (by omega)).trans ((up_ne (by omega)).trans ((up_ne (by omega)).trans ((up_ne (by omega)).trans ((up_ne (by omega)).trans ((up_ne (by omega)).trans ((up_ne (by omega)).trans ((up_ne (by omega)).trans ((up_ne (by omega)).trans (rfl)))))))))))))))))
theorem tk_250_201 {n : Nat} {r : Option Value} {g g' : am_H} (hm_z : rn n am_m250 0 (lv_args 0 [.ref 164, .ref 201, .int 0]) [] g r g') : (∀ j, j < 17 → mS g' 0 j = rg_v g 201 (j)) ∧ ∀ o k, bB 0 o k = false → ¬ (o = 164 ∧ k = 57) → g' o k = g o k := by
  have g0_z : am_get (lv_args 0 [.ref 164, .ref 201, .int 0]) 0 = some (.ref 164) := rfl
  have g1_z : am_get (lv_args 0 [.ref 164, .ref 201, .int 0]) 1 = some (.ref 201) := rfl
  have g2_z : am_get (lv_args 0 [.ref 164, .ref 201, .int 0]) 2 = some (.int 0) := rfl
  replace hm_z := rn_aload_n (am_cur_of (i := (0, 1, .aload_n 0, (0, 0, 0), 0)) (by decide +kernel)) g0_z hm_z
  replace hm_z := rn_getR (x := 188) (am_cur_of (i := (1, 3, .getfield 85, (12, 50, 1434), 0)) (by decide +kernel)) (by decide +kernel) hm_z
  replace hm_z := rn_iconst (w := 0) (am_cur_of (i := (4, 1, .iconst 0, (0, 0, 0), 0)) (by decide +kernel)) (by decide) hm_z
  replace hm_z := rn_aload_n (am_cur_of (i := (5, 1, .aload_n 1, (0, 0, 0), 0)) (by decide +kernel)) g1_z hm_z
  replace hm_z := rn_iload_n (am_cur_of (i := (6, 1, .iload_n 2, (0, 0, 0), 0)) (by decide +kernel)) g2_z hm_z
  replace hm_z := rn_iaload (N := 17) (q := 0) (v := rg_v g 201 0) (am_cur_of (i := (7, 1, .iaload, (0, 0, 0), 0)) (by decide +kernel)) (by decide +kernel) rfl rfl hm_z
  obtain ⟨p279_z, hm_z⟩ := hm_z
  replace hm_z := rn_iastore (N := 4) (q := 0) (am_cur_of (i := (8, 1, .iastore, (0, 0, 0), 0)) (by decide +kernel)) (by decide +kernel) rfl hm_z
  obtain ⟨p280_z, hm_z⟩ := hm_z
  replace hm_z := rn_aload_n (am_cur_of (i := (9, 1, .aload_n 0, (0, 0, 0), 0)) (by decide +kernel)) g0_z hm_z
  replace hm_z := rn_getR (x := 189) (am_cur_of (i := (10, 3, .getfield 88, (12, 51, 1435), 0)) (by decide +kernel)) (by decide +kernel) hm_z
  replace hm_z := rn_iconst (w := 0) (am_cur_of (i := (13, 1, .iconst 0, (0, 0, 0), 0)) (by decide +kernel)) (by decide) hm_z
  replace hm_z := rn_aload_n (am_cur_of (i := (14, 1, .aload_n 1, (0, 0, 0), 0)) (by decide +kernel)) g1_z hm_z
  replace hm_z := rn_iload_n (am_cur_of (i := (15, 1, .iload_n 2, (0, 0, 0), 0)) (by decide +kernel)) g2_z hm_z
  replace hm_z := rn_iconst (w := 1) (am_cur_of (i := (16, 1, .iconst 1, (0, 0, 0), 0)) (by decide +kernel)) (by decide) hm_z
  replace hm_z := rn_iadd (w := 1) (am_cur_of (i := (17, 1, .iadd, (0, 0, 0), 0)) (by decide +kernel)) (by decide) hm_z
  replace hm_z := rn_iaload (N := 17) (q := 1) (v := rg_v g 201 1) (am_cur_of (i := (18, 1, .iaload, (0, 0, 0), 0)) (by decide +kernel)) (by decide +kernel) rfl ((rg_v_other (by omega)).trans (rfl)) hm_z
  obtain ⟨p281_z, hm_z⟩ := hm_z
  replace hm_z := rn_iastore (N := 4) (q := 0) (am_cur_of (i := (19, 1, .iastore, (0, 0, 0), 0)) (by decide +kernel)) (by decide +kernel) rfl hm_z
  obtain ⟨p282_z, hm_z⟩ := hm_z
  replace hm_z := rn_aload_n (am_cur_of (i := (20, 1, .aload_n 0, (0, 0, 0), 0)) (by decide +kernel)) g0_z hm_z
  replace hm_z := rn_getR (x := 190) (am_cur_of (i := (21, 3, .getfield 91, (12, 52, 1436), 0)) (by decide +kernel)) (by decide +kernel) hm_z
  replace hm_z := rn_iconst (w := 0) (am_cur_of (i := (24, 1, .iconst 0, (0, 0, 0), 0)) (by decide +kernel)) (by decide) hm_z
  replace hm_z := rn_aload_n (am_cur_of (i := (25, 1, .aload_n 1, (0, 0, 0), 0)) (by decide +kernel)) g1_z hm_z
  replace hm_z := rn_iload_n (am_cur_of (i := (26, 1, .iload_n 2, (0, 0, 0), 0)) (by decide +kernel)) g2_z hm_z
  replace hm_z := rn_iconst (w := 2) (am_cur_of (i := (27, 1, .iconst 2, (0, 0, 0), 0)) (by decide +kernel)) (by decide) hm_z
  replace hm_z := rn_iadd (w := 2) (am_cur_of (i := (28, 1, .iadd, (0, 0, 0), 0)) (by decide +kernel)) (by decide) hm_z
  replace hm_z := rn_iaload (N := 17) (q := 2) (v := rg_v g 201 2) (am_cur_of (i := (29, 1, .iaload, (0, 0, 0), 0)) (by decide +kernel)) (by decide +kernel) rfl ((rg_v_other (by omega)).trans ((rg_v_other (by omega)).trans (rfl))) hm_z
  obtain ⟨p283_z, hm_z⟩ := hm_z
  replace hm_z := rn_iastore (N := 4) (q := 0) (am_cur_of (i := (30, 1, .iastore, (0, 0, 0), 0)) (by decide +kernel)) (by decide +kernel) rfl hm_z
  obtain ⟨p284_z, hm_z⟩ := hm_z
  replace hm_z := rn_aload_n (am_cur_of (i := (31, 1, .aload_n 0, (0, 0, 0), 0)) (by decide +kernel)) g0_z hm_z
  replace hm_z := rn_getR (x := 194) (am_cur_of (i := (32, 3, .getfield 103, (12, 56, 1440), 0)) (by decide +kernel)) (by decide +kernel) hm_z
  replace hm_z := rn_iconst (w := 0) (am_cur_of (i := (35, 1, .iconst 0, (0, 0, 0), 0)) (by decide +kernel)) (by decide) hm_z
  replace hm_z := rn_aload_n (am_cur_of (i := (36, 1, .aload_n 1, (0, 0, 0), 0)) (by decide +kernel)) g1_z hm_z
  replace hm_z := rn_iload_n (am_cur_of (i := (37, 1, .iload_n 2, (0, 0, 0), 0)) (by decide +kernel)) g2_z hm_z
  replace hm_z := rn_iconst (w := 3) (am_cur_of (i := (38, 1, .iconst 3, (0, 0, 0), 0)) (by decide +kernel)) (by decide) hm_z
  replace hm_z := rn_iadd (w := 3) (am_cur_of (i := (39, 1, .iadd, (0, 0, 0), 0)) (by decide +kernel)) (by decide) hm_z
  replace hm_z := rn_iaload (N := 17) (q := 3) (v := rg_v g 201 3) (am_cur_of (i := (40, 1, .iaload, (0, 0, 0), 0)) (by decide +kernel)) (by decide +kernel) rfl ((rg_v_other (by omega)).trans ((rg_v_other (by omega)).trans ((rg_v_other (by omega)).trans (rfl)))) hm_z
  obtain ⟨p285_z, hm_z⟩ := hm_z
  replace hm_z := rn_iastore (N := 4) (q := 0) (am_cur_of (i := (41, 1, .iastore, (0, 0, 0), 0)) (by decide +kernel)) (by decide +kernel) rfl hm_z
  obtain ⟨p286_z, hm_z⟩ := hm_z
  replace hm_z := rn_aload_n (am_cur_of (i := (42, 1, .aload_n 0, (0, 0, 0), 0)) (by decide +kernel)) g0_z hm_z
  replace hm_z := rn_aload_n (am_cur_of (i := (43, 1, .aload_n 1, (0, 0, 0), 0)) (by decide +kernel)) g1_z hm_z
  replace hm_z := rn_iload_n (am_cur_of (i := (44, 1, .iload_n 2, (0, 0, 0), 0)) (by decide +kernel)) g2_z hm_z
  replace hm_z := rn_iconst (w := 4) (am_cur_of (i := (45, 1, .iconst 4, (0, 0, 0), 0)) (by decide +kernel)) (by decide) hm_z
  replace hm_z := rn_iadd (w := 4) (am_cur_of (i := (46, 1, .iadd, (0, 0, 0), 0)) (by decide +kernel)) (by decide) hm_z
  replace hm_z := rn_iaload (N := 17) (q := 4) (v := rg_v g 201 4) (am_cur_of (i := (47, 1, .iaload, (0, 0, 0), 0)) (by decide +kernel)) (by decide +kernel) rfl ((rg_v_other (by omega)).trans ((rg_v_other (by omega)).trans ((rg_v_other (by omega)).trans ((rg_v_other (by omega)).trans (rfl))))) hm_z
  obtain ⟨p287_z, hm_z⟩ := hm_z
  replace hm_z := rn_put (am_cur_of (i := (48, 3, .putfield 349, (12, 57, 1441), 0)) (by decide +kernel)) (by decide +kernel) hm_z
  replace hm_z := rn_iconst (w := 0) (am_cur_of (i := (51, 1, .iconst 0, (0, 0, 0), 0)) (by decide +kernel)) (by decide) hm_z
  replace hm_z := rn_istore_n (am_cur_of (i := (52, 1, .istore_n 3, (0, 0, 0), 0)) (by decide +kernel)) hm_z
  obtain ⟨_, s288_z, s289_z, g3_z, hm_z⟩ := hm_z
  replace g0_z := s288_z 0 _ (by decide) rfl g0_z
  replace g1_z := s288_z 1 _ (by decide) rfl g1_z
  replace g2_z := s288_z 2 _ (by decide) rfl g2_z
  clear s288_z s289_z
  replace hm_z := rn_iload_n (am_cur_of (i := (53, 1, .iload_n 3, (0, 0, 0), 0)) (by decide +kernel)) g3_z hm_z
  replace hm_z := rn_iconst (w := 4) (am_cur_of (i := (54, 1, .iconst 4, (0, 0, 0), 0)) (by decide +kernel)) (by decide) hm_z
  replace hm_z := rn_cmpF (am_cur_of (i := (55, 3, .if_icmp .ge 50, (81, 0, 0), 0)) (by decide +kernel)) (by decide) hm_z
  replace hm_z := rn_aload_n (am_cur_of (i := (58, 1, .aload_n 0, (0, 0, 0), 0)) (by decide +kernel)) g0_z hm_z
  replace hm_z := rn_getR (x := 191) (am_cur_of (i := (59, 3, .getfield 94, (12, 53, 1437), 0)) (by decide +kernel)) (by decide +kernel) hm_z
  replace hm_z := rn_iload_n (am_cur_of (i := (62, 1, .iload_n 3, (0, 0, 0), 0)) (by decide +kernel)) g3_z hm_z
  replace hm_z := rn_aload_n (am_cur_of (i := (63, 1, .aload_n 1, (0, 0, 0), 0)) (by decide +kernel)) g1_z hm_z
  replace hm_z := rn_iload_n (am_cur_of (i := (64, 1, .iload_n 2, (0, 0, 0), 0)) (by decide +kernel)) g2_z hm_z
  replace hm_z := rn_iconst (w := 5) (am_cur_of (i := (65, 1, .iconst 5, (0, 0, 0), 0)) (by decide +kernel)) (by decide) hm_z
  replace hm_z := rn_iadd (w := 5) (am_cur_of (i := (66, 1, .iadd, (0, 0, 0), 0)) (by decide +kernel)) (by decide) hm_z
  replace hm_z := rn_iload_n (am_cur_of (i := (67, 1, .iload_n 3, (0, 0, 0), 0)) (by decide +kernel)) g3_z hm_z
  replace hm_z := rn_iadd (w := 5) (am_cur_of (i := (68, 1, .iadd, (0, 0, 0), 0)) (by decide +kernel)) (by decide) hm_z
  replace hm_z := rn_iaload (N := 17) (q := 5) (v := rg_v g 201 5) (am_cur_of (i := (69, 1, .iaload, (0, 0, 0), 0)) (by decide +kernel)) (by decide +kernel) rfl ((rg_v_other (by omega)).trans ((rg_v_other (by omega)).trans ((rg_v_other (by omega)).trans ((rg_v_other (by omega)).trans ((rg_v_other (by omega)).trans (rfl)))))) hm_z
  obtain ⟨p290_z, hm_z⟩ := hm_z
  replace hm_z := rn_iastore (N := 16) (q := 0) (am_cur_of (i := (70, 1, .iastore, (0, 0, 0), 0)) (by decide +kernel)) (by decide +kernel) rfl hm_z
  obtain ⟨p291_z, hm_z⟩ := hm_z
  replace hm_z := rn_aload_n (am_cur_of (i := (71, 1, .aload_n 0, (0, 0, 0), 0)) (by decide +kernel)) g0_z hm_z
  replace hm_z := rn_getR (x := 192) (am_cur_of (i := (72, 3, .getfield 97, (12, 54, 1438), 0)) (by decide +kernel)) (by decide +kernel) hm_z
  replace hm_z := rn_iload_n (am_cur_of (i := (75, 1, .iload_n 3, (0, 0, 0), 0)) (by decide +kernel)) g3_z hm_z
  replace hm_z := rn_aload_n (am_cur_of (i := (76, 1, .aload_n 1, (0, 0, 0), 0)) (by decide +kernel)) g1_z hm_z
  replace hm_z := rn_iload_n (am_cur_of (i := (77, 1, .iload_n 2, (0, 0, 0), 0)) (by decide +kernel)) g2_z hm_z
  replace hm_z := rn_bipush (w := 9) (am_cur_of (i := (78, 2, .bipush 9, (0, 0, 0), 0)) (by decide +kernel)) (by decide) hm_z
  replace hm_z := rn_iadd (w := 9) (am_cur_of (i := (80, 1, .iadd, (0, 0, 0), 0)) (by decide +kernel)) (by decide) hm_z
  replace hm_z := rn_iload_n (am_cur_of (i := (81, 1, .iload_n 3, (0, 0, 0), 0)) (by decide +kernel)) g3_z hm_z
  replace hm_z := rn_iadd (w := 9) (am_cur_of (i := (82, 1, .iadd, (0, 0, 0), 0)) (by decide +kernel)) (by decide) hm_z
  replace hm_z := rn_iaload (N := 17) (q := 9) (v := rg_v g 201 9) (am_cur_of (i := (83, 1, .iaload, (0, 0, 0), 0)) (by decide +kernel)) (by decide +kernel) rfl ((rg_v_other (by omega)).trans ((rg_v_other (by omega)).trans ((rg_v_other (by omega)).trans ((rg_v_other (by omega)).trans ((rg_v_other (by omega)).trans ((rg_v_other (by omega)).trans (rfl))))))) hm_z
  obtain ⟨p292_z, hm_z⟩ := hm_z
  replace hm_z := rn_iastore (N := 16) (q := 0) (am_cur_of (i := (84, 1, .iastore, (0, 0, 0), 0)) (by decide +kernel)) (by decide +kernel) rfl hm_z
  obtain ⟨p293_z, hm_z⟩ := hm_z
  replace hm_z := rn_aload_n (am_cur_of (i := (85, 1, .aload_n 0, (0, 0, 0), 0)) (by decide +kernel)) g0_z hm_z
  replace hm_z := rn_getR (x := 193) (am_cur_of (i := (86, 3, .getfield 100, (12, 55, 1439), 0)) (by decide +kernel)) (by decide +kernel) hm_z
  replace hm_z := rn_iload_n (am_cur_of (i := (89, 1, .iload_n 3, (0, 0, 0), 0)) (by decide +kernel)) g3_z hm_z
  replace hm_z := rn_aload_n (am_cur_of (i := (90, 1, .aload_n 1, (0, 0, 0), 0)) (by decide +kernel)) g1_z hm_z
  replace hm_z := rn_iload_n (am_cur_of (i := (91, 1, .iload_n 2, (0, 0, 0), 0)) (by decide +kernel)) g2_z hm_z
  replace hm_z := rn_bipush (w := 13) (am_cur_of (i := (92, 2, .bipush 13, (0, 0, 0), 0)) (by decide +kernel)) (by decide) hm_z
  replace hm_z := rn_iadd (w := 13) (am_cur_of (i := (94, 1, .iadd, (0, 0, 0), 0)) (by decide +kernel)) (by decide) hm_z
  replace hm_z := rn_iload_n (am_cur_of (i := (95, 1, .iload_n 3, (0, 0, 0), 0)) (by decide +kernel)) g3_z hm_z
  replace hm_z := rn_iadd (w := 13) (am_cur_of (i := (96, 1, .iadd, (0, 0, 0), 0)) (by decide +kernel)) (by decide) hm_z
  replace hm_z := rn_iaload (N := 17) (q := 13) (v := rg_v g 201 13) (am_cur_of (i := (97, 1, .iaload, (0, 0, 0), 0)) (by decide +kernel)) (by decide +kernel) rfl ((rg_v_other (by omega)).trans ((rg_v_other (by omega)).trans ((rg_v_other (by omega)).trans ((rg_v_other (by omega)).trans ((rg_v_other (by omega)).trans ((rg_v_other (by omega)).trans ((rg_v_other (by omega)).trans (rfl)))))))) hm_z
  obtain ⟨p294_z, hm_z⟩ := hm_z
  replace hm_z := rn_iastore (N := 16) (q := 0) (am_cur_of (i := (98, 1, .iastore, (0, 0, 0), 0)) (by decide +kernel)) (by decide +kernel) rfl hm_z
  obtain ⟨p295_z, hm_z⟩ := hm_z
  replace hm_z := rn_iinc (w := 1) (am_cur_of (i := (99, 3, .iinc 3 1, (0, 0, 0), 0)) (by decide +kernel)) g3_z (by decide) hm_z
  obtain ⟨_, s296_z, s297_z, g3_z, hm_z⟩ := hm_z
  replace g0_z := s296_z 0 _ (by decide) rfl g0_z
  replace g1_z := s296_z 1 _ (by decide) rfl g1_z
  replace g2_z := s296_z 2 _ (by decide) rfl g2_z
  clear s296_z s297_z
  replace hm_z := rn_goto (am_cur_of (i := (102, 3, .goto (-49), (43, 0, 0), 0)) (by decide +kernel)) hm_z
  replace hm_z := rn_iload_n (am_cur_of (i := (53, 1, .iload_n 3, (0, 0, 0), 0)) (by decide +kernel)) g3_z hm_z
  replace hm_z := rn_iconst (w := 4) (am_cur_of (i := (54, 1, .iconst 4, (0, 0, 0), 0)) (by decide +kernel)) (by decide) hm_z
  replace hm_z := rn_cmpF (am_cur_of (i := (55, 3, .if_icmp .ge 50, (81, 0, 0), 0)) (by decide +kernel)) (by decide) hm_z
  replace hm_z := rn_aload_n (am_cur_of (i := (58, 1, .aload_n 0, (0, 0, 0), 0)) (by decide +kernel)) g0_z hm_z
  replace hm_z := rn_getR (x := 191) (am_cur_of (i := (59, 3, .getfield 94, (12, 53, 1437), 0)) (by decide +kernel)) (by decide +kernel) hm_z
  replace hm_z := rn_iload_n (am_cur_of (i := (62, 1, .iload_n 3, (0, 0, 0), 0)) (by decide +kernel)) g3_z hm_z
  replace hm_z := rn_aload_n (am_cur_of (i := (63, 1, .aload_n 1, (0, 0, 0), 0)) (by decide +kernel)) g1_z hm_z
  replace hm_z := rn_iload_n (am_cur_of (i := (64, 1, .iload_n 2, (0, 0, 0), 0)) (by decide +kernel)) g2_z hm_z
  replace hm_z := rn_iconst (w := 5) (am_cur_of (i := (65, 1, .iconst 5, (0, 0, 0), 0)) (by decide +kernel)) (by decide) hm_z
  replace hm_z := rn_iadd (w := 5) (am_cur_of (i := (66, 1, .iadd, (0, 0, 0), 0)) (by decide +kernel)) (by decide) hm_z
  replace hm_z := rn_iload_n (am_cur_of (i := (67, 1, .iload_n 3, (0, 0, 0), 0)) (by decide +kernel)) g3_z hm_z
  replace hm_z := rn_iadd (w := 6) (am_cur_of (i := (68, 1, .iadd, (0, 0, 0), 0)) (by decide +kernel)) (by decide) hm_z
  replace hm_z := rn_iaload (N := 17) (q := 6) (v := rg_v g 201 6) (am_cur_of (i := (69, 1, .iaload, (0, 0, 0), 0)) (by decide +kernel)) (by decide +kernel) rfl ((rg_v_other (by omega)).trans ((rg_v_other (by omega)).trans ((rg_v_other (by omega)).trans ((rg_v_other (by omega)).trans ((rg_v_other (by omega)).trans ((rg_v_other (by omega)).trans ((rg_v_other (by omega)).trans ((rg_v_other (by omega)).trans (rfl))))))))) hm_z
  obtain ⟨p298_z, hm_z⟩ := hm_z
  replace hm_z := rn_iastore (N := 16) (q := 1) (am_cur_of (i := (70, 1, .iastore, (0, 0, 0), 0)) (by decide +kernel)) (by decide +kernel) rfl hm_z
  obtain ⟨p299_z, hm_z⟩ := hm_z
  replace hm_z := rn_aload_n (am_cur_of (i := (71, 1, .aload_n 0, (0, 0, 0), 0)) (by decide +kernel)) g0_z hm_z
  replace hm_z := rn_getR (x := 192) (am_cur_of (i := (72, 3, .getfield 97, (12, 54, 1438), 0)) (by decide +kernel)) (by decide +kernel) hm_z
  replace hm_z := rn_iload_n (am_cur_of (i := (75, 1, .iload_n 3, (0, 0, 0), 0)) (by decide +kernel)) g3_z hm_z
  replace hm_z := rn_aload_n (am_cur_of (i := (76, 1, .aload_n 1, (0, 0, 0), 0)) (by decide +kernel)) g1_z hm_z
  replace hm_z := rn_iload_n (am_cur_of (i := (77, 1, .iload_n 2, (0, 0, 0), 0)) (by decide +kernel)) g2_z hm_z
  replace hm_z := rn_bipush (w := 9) (am_cur_of (i := (78, 2, .bipush 9, (0, 0, 0), 0)) (by decide +kernel)) (by decide) hm_z
  replace hm_z := rn_iadd (w := 9) (am_cur_of (i := (80, 1, .iadd, (0, 0, 0), 0)) (by decide +kernel)) (by decide) hm_z
  replace hm_z := rn_iload_n (am_cur_of (i := (81, 1, .iload_n 3, (0, 0, 0), 0)) (by decide +kernel)) g3_z hm_z
  replace hm_z := rn_iadd (w := 10) (am_cur_of (i := (82, 1, .iadd, (0, 0, 0), 0)) (by decide +kernel)) (by decide) hm_z
  replace hm_z := rn_iaload (N := 17) (q := 10) (v := rg_v g 201 10) (am_cur_of (i := (83, 1, .iaload, (0, 0, 0), 0)) (by decide +kernel)) (by decide +kernel) rfl ((rg_v_other (by omega)).trans ((rg_v_other (by omega)).trans ((rg_v_other (by omega)).trans ((rg_v_other (by omega)).trans ((rg_v_other (by omega)).trans ((rg_v_other (by omega)).trans ((rg_v_other (by omega)).trans ((rg_v_other (by omega)).trans ((rg_v_other (by omega)).trans (rfl)))))))))) hm_z
  obtain ⟨p300_z, hm_z⟩ := hm_z
  replace hm_z := rn_iastore (N := 16) (q := 1) (am_cur_of (i := (84, 1, .iastore, (0, 0, 0), 0)) (by decide +kernel)) (by decide +kernel) rfl hm_z
  obtain ⟨p301_z, hm_z⟩ := hm_z
  replace hm_z := rn_aload_n (am_cur_of (i := (85, 1, .aload_n 0, (0, 0, 0), 0)) (by decide +kernel)) g0_z hm_z
  replace hm_z := rn_getR (x := 193) (am_cur_of (i := (86, 3, .getfield 100, (12, 55, 1439), 0)) (by decide +kernel)) (by decide +kernel) hm_z
  replace hm_z := rn_iload_n (am_cur_of (i := (89, 1, .iload_n 3, (0, 0, 0), 0)) (by decide +kernel)) g3_z hm_z
  replace hm_z := rn_aload_n (am_cur_of (i := (90, 1, .aload_n 1, (0, 0, 0), 0)) (by decide +kernel)) g1_z hm_z
  replace hm_z := rn_iload_n (am_cur_of (i := (91, 1, .iload_n 2, (0, 0, 0), 0)) (by decide +kernel)) g2_z hm_z
  replace hm_z := rn_bipush (w := 13) (am_cur_of (i := (92, 2, .bipush 13, (0, 0, 0), 0)) (by decide +kernel)) (by decide) hm_z
  replace hm_z := rn_iadd (w := 13) (am_cur_of (i := (94, 1, .iadd, (0, 0, 0), 0)) (by decide +kernel)) (by decide) hm_z
  replace hm_z := rn_iload_n (am_cur_of (i := (95, 1, .iload_n 3, (0, 0, 0), 0)) (by decide +kernel)) g3_z hm_z
  replace hm_z := rn_iadd (w := 14) (am_cur_of (i := (96, 1, .iadd, (0, 0, 0), 0)) (by decide +kernel)) (by decide) hm_z
  replace hm_z := rn_iaload (N := 17) (q := 14) (v := rg_v g 201 14) (am_cur_of (i := (97, 1, .iaload, (0, 0, 0), 0)) (by decide +kernel)) (by decide +kernel) rfl ((rg_v_other (by omega)).trans ((rg_v_other (by omega)).trans ((rg_v_other (by omega)).trans ((rg_v_other (by omega)).trans ((rg_v_other (by omega)).trans ((rg_v_other (by omega)).trans ((rg_v_other (by omega)).trans ((rg_v_other (by omega)).trans ((rg_v_other (by omega)).trans ((rg_v_other (by omega)).trans (rfl))))))))))) hm_z
  obtain ⟨p302_z, hm_z⟩ := hm_z
  replace hm_z := rn_iastore (N := 16) (q := 1) (am_cur_of (i := (98, 1, .iastore, (0, 0, 0), 0)) (by decide +kernel)) (by decide +kernel) rfl hm_z
  obtain ⟨p303_z, hm_z⟩ := hm_z
  replace hm_z := rn_iinc (w := 2) (am_cur_of (i := (99, 3, .iinc 3 1, (0, 0, 0), 0)) (by decide +kernel)) g3_z (by decide) hm_z
  obtain ⟨_, s304_z, s305_z, g3_z, hm_z⟩ := hm_z
  replace g0_z := s304_z 0 _ (by decide) rfl g0_z
  replace g1_z := s304_z 1 _ (by decide) rfl g1_z
  replace g2_z := s304_z 2 _ (by decide) rfl g2_z
  clear s304_z s305_z
  replace hm_z := rn_goto (am_cur_of (i := (102, 3, .goto (-49), (43, 0, 0), 0)) (by decide +kernel)) hm_z
  replace hm_z := rn_iload_n (am_cur_of (i := (53, 1, .iload_n 3, (0, 0, 0), 0)) (by decide +kernel)) g3_z hm_z
  replace hm_z := rn_iconst (w := 4) (am_cur_of (i := (54, 1, .iconst 4, (0, 0, 0), 0)) (by decide +kernel)) (by decide) hm_z
  replace hm_z := rn_cmpF (am_cur_of (i := (55, 3, .if_icmp .ge 50, (81, 0, 0), 0)) (by decide +kernel)) (by decide) hm_z
  replace hm_z := rn_aload_n (am_cur_of (i := (58, 1, .aload_n 0, (0, 0, 0), 0)) (by decide +kernel)) g0_z hm_z
  replace hm_z := rn_getR (x := 191) (am_cur_of (i := (59, 3, .getfield 94, (12, 53, 1437), 0)) (by decide +kernel)) (by decide +kernel) hm_z
  replace hm_z := rn_iload_n (am_cur_of (i := (62, 1, .iload_n 3, (0, 0, 0), 0)) (by decide +kernel)) g3_z hm_z
  replace hm_z := rn_aload_n (am_cur_of (i := (63, 1, .aload_n 1, (0, 0, 0), 0)) (by decide +kernel)) g1_z hm_z
  replace hm_z := rn_iload_n (am_cur_of (i := (64, 1, .iload_n 2, (0, 0, 0), 0)) (by decide +kernel)) g2_z hm_z
  replace hm_z := rn_iconst (w := 5) (am_cur_of (i := (65, 1, .iconst 5, (0, 0, 0), 0)) (by decide +kernel)) (by decide) hm_z
  replace hm_z := rn_iadd (w := 5) (am_cur_of (i := (66, 1, .iadd, (0, 0, 0), 0)) (by decide +kernel)) (by decide) hm_z
  replace hm_z := rn_iload_n (am_cur_of (i := (67, 1, .iload_n 3, (0, 0, 0), 0)) (by decide +kernel)) g3_z hm_z
  replace hm_z := rn_iadd (w := 7) (am_cur_of (i := (68, 1, .iadd, (0, 0, 0), 0)) (by decide +kernel)) (by decide) hm_z
  replace hm_z := rn_iaload (N := 17) (q := 7) (v := rg_v g 201 7) (am_cur_of (i := (69, 1, .iaload, (0, 0, 0), 0)) (by decide +kernel)) (by decide +kernel) rfl ((rg_v_other (by omega)).trans ((rg_v_other (by omega)).trans ((rg_v_other (by omega)).trans ((rg_v_other (by omega)).trans ((rg_v_other (by omega)).trans ((rg_v_other (by omega)).trans ((rg_v_other (by omega)).trans ((rg_v_other (by omega)).trans ((rg_v_other (by omega)).trans ((rg_v_other (by omega)).trans ((rg_v_other (by omega)).trans (rfl)))))))))))) hm_z
  obtain ⟨p306_z, hm_z⟩ := hm_z
  replace hm_z := rn_iastore (N := 16) (q := 2) (am_cur_of (i := (70, 1, .iastore, (0, 0, 0), 0)) (by decide +kernel)) (by decide +kernel) rfl hm_z
  obtain ⟨p307_z, hm_z⟩ := hm_z
  replace hm_z := rn_aload_n (am_cur_of (i := (71, 1, .aload_n 0, (0, 0, 0), 0)) (by decide +kernel)) g0_z hm_z
  replace hm_z := rn_getR (x := 192) (am_cur_of (i := (72, 3, .getfield 97, (12, 54, 1438), 0)) (by decide +kernel)) (by decide +kernel) hm_z
  replace hm_z := rn_iload_n (am_cur_of (i := (75, 1, .iload_n 3, (0, 0, 0), 0)) (by decide +kernel)) g3_z hm_z
  replace hm_z := rn_aload_n (am_cur_of (i := (76, 1, .aload_n 1, (0, 0, 0), 0)) (by decide +kernel)) g1_z hm_z
  replace hm_z := rn_iload_n (am_cur_of (i := (77, 1, .iload_n 2, (0, 0, 0), 0)) (by decide +kernel)) g2_z hm_z
  replace hm_z := rn_bipush (w := 9) (am_cur_of (i := (78, 2, .bipush 9, (0, 0, 0), 0)) (by decide +kernel)) (by decide) hm_z
  replace hm_z := rn_iadd (w := 9) (am_cur_of (i := (80, 1, .iadd, (0, 0, 0), 0)) (by decide +kernel)) (by decide) hm_z
  replace hm_z := rn_iload_n (am_cur_of (i := (81, 1, .iload_n 3, (0, 0, 0), 0)) (by decide +kernel)) g3_z hm_z
  replace hm_z := rn_iadd (w := 11) (am_cur_of (i := (82, 1, .iadd, (0, 0, 0), 0)) (by decide +kernel)) (by decide) hm_z
  replace hm_z := rn_iaload (N := 17) (q := 11) (v := rg_v g 201 11) (am_cur_of (i := (83, 1, .iaload, (0, 0, 0), 0)) (by decide +kernel)) (by decide +kernel) rfl ((rg_v_other (by omega)).trans ((rg_v_other (by omega)).trans ((rg_v_other (by omega)).trans ((rg_v_other (by omega)).trans ((rg_v_other (by omega)).trans ((rg_v_other (by omega)).trans ((rg_v_other (by omega)).trans ((rg_v_other (by omega)).trans ((rg_v_other (by omega)).trans ((rg_v_other (by omega)).trans ((rg_v_other (by omega)).trans ((rg_v_other (by omega)).trans (rfl))))))))))))) hm_z
  obtain ⟨p308_z, hm_z⟩ := hm_z
  replace hm_z := rn_iastore (N := 16) (q := 2) (am_cur_of (i := (84, 1, .iastore, (0, 0, 0), 0)) (by decide +kernel)) (by decide +kernel) rfl hm_z
  obtain ⟨p309_z, hm_z⟩ := hm_z
  replace hm_z := rn_aload_n (am_cur_of (i := (85, 1, .aload_n 0, (0, 0, 0), 0)) (by decide +kernel)) g0_z hm_z
  replace hm_z := rn_getR (x := 193) (am_cur_of (i := (86, 3, .getfield 100, (12, 55, 1439), 0)) (by decide +kernel)) (by decide +kernel) hm_z
  replace hm_z := rn_iload_n (am_cur_of (i := (89, 1, .iload_n 3, (0, 0, 0), 0)) (by decide +kernel)) g3_z hm_z
  replace hm_z := rn_aload_n (am_cur_of (i := (90, 1, .aload_n 1, (0, 0, 0), 0)) (by decide +kernel)) g1_z hm_z
  replace hm_z := rn_iload_n (am_cur_of (i := (91, 1, .iload_n 2, (0, 0, 0), 0)) (by decide +kernel)) g2_z hm_z
  replace hm_z := rn_bipush (w := 13) (am_cur_of (i := (92, 2, .bipush 13, (0, 0, 0), 0)) (by decide +kernel)) (by decide) hm_z
  replace hm_z := rn_iadd (w := 13) (am_cur_of (i := (94, 1, .iadd, (0, 0, 0), 0)) (by decide +kernel)) (by decide) hm_z
  replace hm_z := rn_iload_n (am_cur_of (i := (95, 1, .iload_n 3, (0, 0, 0), 0)) (by decide +kernel)) g3_z hm_z
  replace hm_z := rn_iadd (w := 15) (am_cur_of (i := (96, 1, .iadd, (0, 0, 0), 0)) (by decide +kernel)) (by decide) hm_z
  replace hm_z := rn_iaload (N := 17) (q := 15) (v := rg_v g 201 15) (am_cur_of (i := (97, 1, .iaload, (0, 0, 0), 0)) (by decide +kernel)) (by decide +kernel) rfl ((rg_v_other (by omega)).trans ((rg_v_other (by omega)).trans ((rg_v_other (by omega)).trans ((rg_v_other (by omega)).trans ((rg_v_other (by omega)).trans ((rg_v_other (by omega)).trans ((rg_v_other (by omega)).trans ((rg_v_other (by omega)).trans ((rg_v_other (by omega)).trans ((rg_v_other (by omega)).trans ((rg_v_other (by omega)).trans ((rg_v_other (by omega)).trans ((rg_v_other (by omega)).trans (rfl)))))))))))))) hm_z
  obtain ⟨p310_z, hm_z⟩ := hm_z
  replace hm_z := rn_iastore (N := 16) (q := 2) (am_cur_of (i := (98, 1, .iastore, (0, 0, 0), 0)) (by decide +kernel)) (by decide +kernel) rfl hm_z
  obtain ⟨p311_z, hm_z⟩ := hm_z
  replace hm_z := rn_iinc (w := 3) (am_cur_of (i := (99, 3, .iinc 3 1, (0, 0, 0), 0)) (by decide +kernel)) g3_z (by decide) hm_z
  obtain ⟨_, s312_z, s313_z, g3_z, hm_z⟩ := hm_z
  replace g0_z := s312_z 0 _ (by decide) rfl g0_z
  replace g1_z := s312_z 1 _ (by decide) rfl g1_z
  replace g2_z := s312_z 2 _ (by decide) rfl g2_z
  clear s312_z s313_z
  replace hm_z := rn_goto (am_cur_of (i := (102, 3, .goto (-49), (43, 0, 0), 0)) (by decide +kernel)) hm_z
  replace hm_z := rn_iload_n (am_cur_of (i := (53, 1, .iload_n 3, (0, 0, 0), 0)) (by decide +kernel)) g3_z hm_z
  replace hm_z := rn_iconst (w := 4) (am_cur_of (i := (54, 1, .iconst 4, (0, 0, 0), 0)) (by decide +kernel)) (by decide) hm_z
  replace hm_z := rn_cmpF (am_cur_of (i := (55, 3, .if_icmp .ge 50, (81, 0, 0), 0)) (by decide +kernel)) (by decide) hm_z
  replace hm_z := rn_aload_n (am_cur_of (i := (58, 1, .aload_n 0, (0, 0, 0), 0)) (by decide +kernel)) g0_z hm_z
  replace hm_z := rn_getR (x := 191) (am_cur_of (i := (59, 3, .getfield 94, (12, 53, 1437), 0)) (by decide +kernel)) (by decide +kernel) hm_z
  replace hm_z := rn_iload_n (am_cur_of (i := (62, 1, .iload_n 3, (0, 0, 0), 0)) (by decide +kernel)) g3_z hm_z
  replace hm_z := rn_aload_n (am_cur_of (i := (63, 1, .aload_n 1, (0, 0, 0), 0)) (by decide +kernel)) g1_z hm_z
  replace hm_z := rn_iload_n (am_cur_of (i := (64, 1, .iload_n 2, (0, 0, 0), 0)) (by decide +kernel)) g2_z hm_z
  replace hm_z := rn_iconst (w := 5) (am_cur_of (i := (65, 1, .iconst 5, (0, 0, 0), 0)) (by decide +kernel)) (by decide) hm_z
  replace hm_z := rn_iadd (w := 5) (am_cur_of (i := (66, 1, .iadd, (0, 0, 0), 0)) (by decide +kernel)) (by decide) hm_z
  replace hm_z := rn_iload_n (am_cur_of (i := (67, 1, .iload_n 3, (0, 0, 0), 0)) (by decide +kernel)) g3_z hm_z
  replace hm_z := rn_iadd (w := 8) (am_cur_of (i := (68, 1, .iadd, (0, 0, 0), 0)) (by decide +kernel)) (by decide) hm_z
  replace hm_z := rn_iaload (N := 17) (q := 8) (v := rg_v g 201 8) (am_cur_of (i := (69, 1, .iaload, (0, 0, 0), 0)) (by decide +kernel)) (by decide +kernel) rfl ((rg_v_other (by omega)).trans ((rg_v_other (by omega)).trans ((rg_v_other (by omega)).trans ((rg_v_other (by omega)).trans ((rg_v_other (by omega)).trans ((rg_v_other (by omega)).trans ((rg_v_other (by omega)).trans ((rg_v_other (by omega)).trans ((rg_v_other (by omega)).trans ((rg_v_other (by omega)).trans ((rg_v_other (by omega)).trans ((rg_v_other (by omega)).trans ((rg_v_other (by omega)).trans ((rg_v_other (by omega)).trans (rfl))))))))))))))) hm_z
  obtain ⟨p314_z, hm_z⟩ := hm_z
  replace hm_z := rn_iastore (N := 16) (q := 3) (am_cur_of (i := (70, 1, .iastore, (0, 0, 0), 0)) (by decide +kernel)) (by decide +kernel) rfl hm_z
  obtain ⟨p315_z, hm_z⟩ := hm_z
  replace hm_z := rn_aload_n (am_cur_of (i := (71, 1, .aload_n 0, (0, 0, 0), 0)) (by decide +kernel)) g0_z hm_z
  replace hm_z := rn_getR (x := 192) (am_cur_of (i := (72, 3, .getfield 97, (12, 54, 1438), 0)) (by decide +kernel)) (by decide +kernel) hm_z
  replace hm_z := rn_iload_n (am_cur_of (i := (75, 1, .iload_n 3, (0, 0, 0), 0)) (by decide +kernel)) g3_z hm_z
  replace hm_z := rn_aload_n (am_cur_of (i := (76, 1, .aload_n 1, (0, 0, 0), 0)) (by decide +kernel)) g1_z hm_z
  replace hm_z := rn_iload_n (am_cur_of (i := (77, 1, .iload_n 2, (0, 0, 0), 0)) (by decide +kernel)) g2_z hm_z
  replace hm_z := rn_bipush (w := 9) (am_cur_of (i := (78, 2, .bipush 9, (0, 0, 0), 0)) (by decide +kernel)) (by decide) hm_z
  replace hm_z := rn_iadd (w := 9) (am_cur_of (i := (80, 1, .iadd, (0, 0, 0), 0)) (by decide +kernel)) (by decide) hm_z
  replace hm_z := rn_iload_n (am_cur_of (i := (81, 1, .iload_n 3, (0, 0, 0), 0)) (by decide +kernel)) g3_z hm_z
  replace hm_z := rn_iadd (w := 12) (am_cur_of (i := (82, 1, .iadd, (0, 0, 0), 0)) (by decide +kernel)) (by decide) hm_z
  replace hm_z := rn_iaload (N := 17) (q := 12) (v := rg_v g 201 12) (am_cur_of (i := (83, 1, .iaload, (0, 0, 0), 0)) (by decide +kernel)) (by decide +kernel) rfl ((rg_v_other (by omega)).trans ((rg_v_other (by omega)).trans ((rg_v_other (by omega)).trans ((rg_v_other (by omega)).trans ((rg_v_other (by omega)).trans ((rg_v_other (by omega)).trans ((rg_v_other (by omega)).trans ((rg_v_other (by omega)).trans ((rg_v_other (by omega)).trans ((rg_v_other (by omega)).trans ((rg_v_other (by omega)).trans ((rg_v_other (by omega)).trans ((rg_v_other (by omega)).trans ((rg_v_other (by omega)).trans ((rg_v_other (by omega)).trans (rfl)))))))))))))))) hm_z
  obtain ⟨p316_z, hm_z⟩ := hm_z
  replace hm_z := rn_iastore (N := 16) (q := 3) (am_cur_of (i := (84, 1, .iastore, (0, 0, 0), 0)) (by decide +kernel)) (by decide +kernel) rfl hm_z
  obtain ⟨p317_z, hm_z⟩ := hm_z
  replace hm_z := rn_aload_n (am_cur_of (i := (85, 1, .aload_n 0, (0, 0, 0), 0)) (by decide +kernel)) g0_z hm_z
  replace hm_z := rn_getR (x := 193) (am_cur_of (i := (86, 3, .getfield 100, (12, 55, 1439), 0)) (by decide +kernel)) (by decide +kernel) hm_z
  replace hm_z := rn_iload_n (am_cur_of (i := (89, 1, .iload_n 3, (0, 0, 0), 0)) (by decide +kernel)) g3_z hm_z
  replace hm_z := rn_aload_n (am_cur_of (i := (90, 1, .aload_n 1, (0, 0, 0), 0)) (by decide +kernel)) g1_z hm_z
  replace hm_z := rn_iload_n (am_cur_of (i := (91, 1, .iload_n 2, (0, 0, 0), 0)) (by decide +kernel)) g2_z hm_z
  replace hm_z := rn_bipush (w := 13) (am_cur_of (i := (92, 2, .bipush 13, (0, 0, 0), 0)) (by decide +kernel)) (by decide) hm_z
  replace hm_z := rn_iadd (w := 13) (am_cur_of (i := (94, 1, .iadd, (0, 0, 0), 0)) (by decide +kernel)) (by decide) hm_z
  replace hm_z := rn_iload_n (am_cur_of (i := (95, 1, .iload_n 3, (0, 0, 0), 0)) (by decide +kernel)) g3_z hm_z
  replace hm_z := rn_iadd (w := 16) (am_cur_of (i := (96, 1, .iadd, (0, 0, 0), 0)) (by decide +kernel)) (by decide) hm_z
  replace hm_z := rn_iaload (N := 17) (q := 16) (v := rg_v g 201 16) (am_cur_of (i := (97, 1, .iaload, (0, 0, 0), 0)) (by decide +kernel)) (by decide +kernel) rfl ((rg_v_other (by omega)).trans ((rg_v_other (by omega)).trans ((rg_v_other (by omega)).trans ((rg_v_other (by omega)).trans ((rg_v_other (by omega)).trans ((rg_v_other (by omega)).trans ((rg_v_other (by omega)).trans ((rg_v_other (by omega)).trans ((rg_v_other (by omega)).trans ((rg_v_other (by omega)).trans ((rg_v_other (by omega)).trans ((rg_v_other (by omega)).trans ((rg_v_other (by omega)).trans ((rg_v_other (by omega)).trans ((rg_v_other (by omega)).trans ((rg_v_other (by omega)).trans (rfl))))))))))))))))) hm_z
  obtain ⟨p318_z, hm_z⟩ := hm_z
  replace hm_z := rn_iastore (N := 16) (q := 3) (am_cur_of (i := (98, 1, .iastore, (0, 0, 0), 0)) (by decide +kernel)) (by decide +kernel) rfl hm_z
  obtain ⟨p319_z, hm_z⟩ := hm_z
  replace hm_z := rn_iinc (w := 4) (am_cur_of (i := (99, 3, .iinc 3 1, (0, 0, 0), 0)) (by decide +kernel)) g3_z (by decide) hm_z
  obtain ⟨_, s320_z, s321_z, g3_z, hm_z⟩ := hm_z
  replace g0_z := s320_z 0 _ (by decide) rfl g0_z
  replace g1_z := s320_z 1 _ (by decide) rfl g1_z
  replace g2_z := s320_z 2 _ (by decide) rfl g2_z
  clear s320_z s321_z
  replace hm_z := rn_goto (am_cur_of (i := (102, 3, .goto (-49), (43, 0, 0), 0)) (by decide +kernel)) hm_z
  replace hm_z := rn_iload_n (am_cur_of (i := (53, 1, .iload_n 3, (0, 0, 0), 0)) (by decide +kernel)) g3_z hm_z
  replace hm_z := rn_iconst (w := 4) (am_cur_of (i := (54, 1, .iconst 4, (0, 0, 0), 0)) (by decide +kernel)) (by decide) hm_z
  replace hm_z := rn_cmpT (am_cur_of (i := (55, 3, .if_icmp .ge 50, (81, 0, 0), 0)) (by decide +kernel)) (by decide) hm_z
  replace hm_z := rn_vret (am_cur_of (i := (105, 1, .return_, (0, 0, 0), 0)) (by decide +kernel)) hm_z
  obtain ⟨e322_z, e323_z⟩ := hm_z
  refine ⟨fun j hj_z => ?_, fun o k ho hk_z => ?_⟩
  · rw [e323_z]
    match j, hj_z with
    | 0, _ => rfl
    | 1, _ => rfl
    | 2, _ => rfl
    | 3, _ => rfl
    | 4, _ => rfl
    | 5, _ => rfl
    | 6, _ => rfl
    | 7, _ => rfl
    | 8, _ => rfl
    | 9, _ => rfl
    | 10, _ => rfl
    | 11, _ => rfl
    | 12, _ => rfl
    | 13, _ => rfl
    | 14, _ => rfl
    | 15, _ => rfl
    | 16, _ => rfl
    | j + 17, hj_z => omega
  · rw [e323_z]
    exact (up_ne (bB_ne ho rfl)).trans ((up_ne (bB_ne ho rfl)).trans ((up_ne (bB_ne ho rfl)).trans ((up_ne (bB_ne ho rfl)).trans ((up_ne (bB_ne ho rfl)).trans ((up_ne (bB_ne ho rfl)).trans ((up_ne (bB_ne ho rfl)).trans ((up_ne (bB_ne ho rfl)).trans ((up_ne (bB_ne ho rfl)).trans ((up_ne (bB_ne ho rfl)).trans ((up_ne (bB_ne ho rfl)).trans ((up_ne (bB_ne ho rfl)).trans ((up_ne hk_z).trans ((up_ne (bB_ne ho rfl)).trans ((up_ne (bB_ne ho rfl)).trans ((up_ne (bB_ne ho rfl)).trans ((up_ne (bB_ne ho rfl)).trans (rfl)))))))))))))))))
theorem rm_l {r : Option Value} {g' : am_H} : ∀ (f : Nat) (k : Int32) (ls : am_L) (g : am_H), am_get ls 0 = some (.ref 164) → am_get ls 1 = some (.int k) → 0 ≤ k.toInt → k.toInt ≤ 323 → rn f am_m207 6 ls [] g r g' → ∃ l2_z g2_z, am_get l2_z 0 = some (.ref 164) ∧ (∀ t : Nat, k.toInt ≤ (t : Int) → t < 323 → rg_v g2_z 200 t = rg_v g 200 (t + 17)) ∧ (∀ o t : Nat, ¬ (o = 200 ∧ k.toInt ≤ (t : Int) ∧ t < 323) → g2_z o t = g o t) ∧ rn f am_m207 21 l2_z [] g2_z r g' := by
  intro f
  induction f with
  | zero => intro k ls g g0_z g1_z k0_z k9_z hm_z; exact absurd hm_z rn_0
  | succ f ih_z =>
    intro k ls g g0_z g1_z k0_z k9_z hm_z
    have z17_z : (17 : Int32).toInt = 17 := by decide
    have z323_z : (323 : Int32).toInt = 323 := by decide
    replace hm_z := rn_iload_n (am_cur_of (i := (11, 1, .iload_n 1, (0, 0, 0), 0)) (by decide +kernel)) g1_z hm_z
    replace hm_z := rn_sipush (w := 323) (am_cur_of (i := (12, 3, .sipush 323, (0, 0, 0), 0)) (by decide +kernel)) (by decide) hm_z
    replace hm_z := rn_cmp (am_cur_of (i := (15, 3, .if_icmp .ge 24, (21, 0, 0), 0)) (by decide +kernel)) hm_z
    rcases hm_z with ⟨b324_z, hm_z⟩ | ⟨b324_z, hm_z⟩
    · replace b324_z : (323 : Int32).toInt ≤ k.toInt := b324_z
      exact ⟨_, _, g0_z, fun t h1_z h2_z => absurd h1_z (by omega), fun _ _ _ => rfl, hm_z⟩
    · replace b324_z : k.toInt < (323 : Int32).toInt := b324_z
      have ck_z := rt_cl k0_z
      have e1_z := rt_c1 k0_z (by omega)
      have e17_z := ab_iadd (x := k) (y := 17) (by omega) (by omega)
      have c17_z := rt_cl (x := k + 17) (by omega)
      replace hm_z := rn_aload_n (am_cur_of (i := (18, 1, .aload_n 0, (0, 0, 0), 0)) (by decide +kernel)) g0_z hm_z
      replace hm_z := rn_getR (x := 200) (am_cur_of (i := (19, 3, .getfield 127, (12, 78, 1462), 0)) (by decide +kernel)) (by decide +kernel) hm_z
      replace hm_z := rn_iload_n (am_cur_of (i := (22, 1, .iload_n 1, (0, 0, 0), 0)) (by decide +kernel)) g1_z hm_z
      replace hm_z := rn_aload_n (am_cur_of (i := (23, 1, .aload_n 0, (0, 0, 0), 0)) (by decide +kernel)) g0_z hm_z
      replace hm_z := rn_getR (x := 200) (am_cur_of (i := (24, 3, .getfield 127, (12, 78, 1462), 0)) (by decide +kernel)) (by decide +kernel) hm_z
      replace hm_z := rn_iload_n (am_cur_of (i := (27, 1, .iload_n 1, (0, 0, 0), 0)) (by decide +kernel)) g1_z hm_z
      replace hm_z := rn_bipush (w := 17) (am_cur_of (i := (28, 2, .bipush 17, (0, 0, 0), 0)) (by decide +kernel)) (by decide) hm_z
      replace hm_z := rn_iadd (w := k + 17) (am_cur_of (i := (30, 1, .iadd, (0, 0, 0), 0)) (by decide +kernel)) rfl hm_z
      replace hm_z := rn_iaload (N := 340) (q := (k + 17).toNatClampNeg) (v := rg_v g 200 ((k + 17).toNatClampNeg)) (am_cur_of (i := (31, 1, .iaload, (0, 0, 0), 0)) (by decide +kernel)) (by decide +kernel) rfl rfl hm_z
      obtain ⟨p325_z, hm_z⟩ := hm_z
      replace hm_z := rn_iastore (N := 340) (q := k.toNatClampNeg) (am_cur_of (i := (32, 1, .iastore, (0, 0, 0), 0)) (by decide +kernel)) (by decide +kernel) rfl hm_z
      obtain ⟨p326_z, hm_z⟩ := hm_z
      replace hm_z := rn_iinc (w := k + 1) (am_cur_of (i := (33, 3, .iinc 1 1, (0, 0, 0), 0)) (by decide +kernel)) g1_z rfl hm_z
      obtain ⟨_, s327_z, s328_z, g1_z, hm_z⟩ := hm_z
      replace g0_z := s327_z 0 _ (by decide) rfl g0_z
      clear s327_z s328_z
      replace hm_z := rn_gotoL (am_cur_of (i := (36, 3, .goto (-25), (6, 0, 0), 0)) (by decide +kernel)) hm_z
      obtain ⟨l2_z, g2_z, f0_z, f1_z, f2_z, f3_z⟩ := ih_z (k + 1) _ _ g0_z g1_z (by omega) (by omega) hm_z
      refine ⟨l2_z, g2_z, f0_z, fun t h1_z h2_z => ?_, fun o t ho => ?_, rn_up (Nat.le_succ _) f3_z⟩
      · by_cases q : (t : Int) = k.toInt
        · unfold rg_v
          rw [f2_z 200 t (by omega), show t = k.toNatClampNeg by omega, am_up_self, show k.toNatClampNeg + 17 = (k + 17).toNatClampNeg by omega]
          rfl
        · exact (f1_z t (by omega) h2_z).trans (rg_v_other (by omega))
      · exact (f2_z o t (by omega)).trans (up_ne (by omega))
theorem mS_e {g g' : am_H} {b : Nat} (e : ∀ o k, ((188 ≤ o ∧ o ≤ 194) ∨ (o = 164 ∧ k = 57)) → g' o k = g o k) (j : Nat) : mS g' b j = mS g b j := by
  have ev_z : ∀ o k, ((188 ≤ o ∧ o ≤ 194) ∨ (o = 164 ∧ k = 57)) → rg_v g' o k = rg_v g o k := by
    intro o k h
    unfold rg_v
    rw [e o k h]
  match j with
  | 0 => exact ev_z 188 b (by omega)
  | 1 => exact ev_z 189 b (by omega)
  | 2 => exact ev_z 190 b (by omega)
  | 3 => exact ev_z 194 b (by omega)
  | 4 => exact ev_z 164 57 (by omega)
  | j + 5 =>
    show (if j < 4 then rg_v g' 191 (4 * b + j) else if j < 8 then rg_v g' 192 (4 * b + (j - 4)) else rg_v g' 193 (4 * b + (j - 8))) = (if j < 4 then rg_v g 191 (4 * b + j) else if j < 8 then rg_v g 192 (4 * b + (j - 4)) else rg_v g 193 (4 * b + (j - 8)))
    rw [ev_z 191 _ (by omega), ev_z 192 _ (by omega), ev_z 193 _ (by omega)]
theorem rm_207 {n : Nat} {r : Option Value} {g g' : am_H} {u : Int32} (eu : rg_v g 164 77 = u) (u0_z : 0 ≤ u.toInt) (u9_z : u.toInt ≤ 20) (hm_z : rn n am_m207 0 (lv_args 0 [.ref 164]) [] g r g') : (rg_v g' 164 77).toInt = min (u.toInt + 1) 20 ∧ (∀ j, j < 17 → rg_v g' 200 (17 * (min u.toInt 19).toNat + j) = mS g 0 j) ∧ (u.toInt < 20 → ∀ t : Nat, (t : Int) < 17 * u.toInt → rg_v g' 200 t = rg_v g 200 t) ∧ (u.toInt = 20 → ∀ t : Nat, t < 323 → rg_v g' 200 t = rg_v g 200 (t + 17)) ∧ ∀ o k, ¬ o = 200 → ¬ (o = 164 ∧ k = 77) → g' o k = g o k := by
  have z1_z : (1 : Int32).toInt = 1 := by decide
  have z17_z : (17 : Int32).toInt = 17 := by decide
  have z19_z : (19 : Int32).toInt = 19 := by decide
  have z20_z : (20 : Int32).toInt = 20 := by decide
  have g0_z : am_get (lv_args 0 [.ref 164]) 0 = some (.ref 164) := rfl
  replace hm_z := rn_aload_n (am_cur_of (i := (0, 1, .aload_n 0, (0, 0, 0), 0)) (by decide +kernel)) g0_z hm_z
  replace hm_z := rn_getI (v := u) (am_cur_of (i := (1, 3, .getfield 371, (12, 77, 1461), 0)) (by decide +kernel)) (by decide +kernel) eu hm_z
  replace hm_z := rn_bipush (w := 20) (am_cur_of (i := (4, 2, .bipush 20, (0, 0, 0), 0)) (by decide +kernel)) (by decide) hm_z
  replace hm_z := rn_cmp (am_cur_of (i := (6, 3, .if_icmp .ne 43, (27, 0, 0), 0)) (by decide +kernel)) hm_z
  rcases hm_z with ⟨b329_z, hm_z⟩ | ⟨b329_z, hm_z⟩
  · replace b329_z : ¬ u = (20 : Int32) ∧ ¬ u.toInt = (20 : Int32).toInt := b329_z
    replace hm_z := rn_aload_n (am_cur_of (i := (49, 1, .aload_n 0, (0, 0, 0), 0)) (by decide +kernel)) g0_z hm_z
    replace hm_z := rn_aload_n (am_cur_of (i := (50, 1, .aload_n 0, (0, 0, 0), 0)) (by decide +kernel)) g0_z hm_z
    replace hm_z := rn_getR (x := 200) (am_cur_of (i := (51, 3, .getfield 127, (12, 78, 1462), 0)) (by decide +kernel)) (by decide +kernel) hm_z
    replace hm_z := rn_bipush (w := 17) (am_cur_of (i := (54, 2, .bipush 17, (0, 0, 0), 0)) (by decide +kernel)) (by decide) hm_z
    replace hm_z := rn_aload_n (am_cur_of (i := (56, 1, .aload_n 0, (0, 0, 0), 0)) (by decide +kernel)) g0_z hm_z
    replace hm_z := rn_getI (v := u) (am_cur_of (i := (57, 3, .getfield 371, (12, 77, 1461), 0)) (by decide +kernel)) (by decide +kernel) eu hm_z
    replace hm_z := rn_imul (w := (17 : Int32) * u) (am_cur_of (i := (60, 1, .imul, (0, 0, 0), 0)) (by decide +kernel)) rfl hm_z
    replace hm_z := rn_callV (M' := am_m208) (o := 164) (ar := [.int ((17 : Int32) * u), .ref 200]) (rest := []) (L := lv_args 0 [.ref 164, .ref 200, .int ((17 : Int32) * u)]) (am_cur_of (i := (61, 3, .invokevirtual 530, (208, 1863, 3), 0)) (by decide +kernel)) rfl rfl rfl rfl hm_z
    obtain ⟨r330_z, h331_z, q332_z, hm_z⟩ := hm_z
    have ui := ab_imul (x := 17) (y := u) (by rw [z17_z]; omega) (by rw [z17_z]; omega)
    rw [z17_z] at ui
    have vo := rn_void rfl q332_z
    subst vo
    have cu := rt_cl (x := 17 * u) (by omega)
    obtain ⟨p1_z, p2_z⟩ := pt_208_200 (by omega) (by omega) q332_z
    have ep : rg_v h331_z 164 77 = u := by
      refine Eq.trans ?_ (show rg_v g 164 77 = u from eu)
      unfold rg_v
      rw [p2_z 164 77 (by omega)]
    replace hm_z : rn _ _ _ _ [] _ _ _ := hm_z
    replace hm_z := rn_aload_n (am_cur_of (i := (64, 1, .aload_n 0, (0, 0, 0), 0)) (by decide +kernel)) g0_z hm_z
    replace hm_z := rn_dup (am_cur_of (i := (65, 1, .dup, (0, 0, 0), 0)) (by decide +kernel)) hm_z
    replace hm_z := rn_getI (v := u) (am_cur_of (i := (66, 3, .getfield 371, (12, 77, 1461), 0)) (by decide +kernel)) (by decide +kernel) ep hm_z
    replace hm_z := rn_iconst (w := 1) (am_cur_of (i := (69, 1, .iconst 1, (0, 0, 0), 0)) (by decide +kernel)) (by decide) hm_z
    replace hm_z := rn_iadd (w := u + 1) (am_cur_of (i := (70, 1, .iadd, (0, 0, 0), 0)) (by decide +kernel)) rfl hm_z
    replace hm_z := rn_put (am_cur_of (i := (71, 3, .putfield 371, (12, 77, 1461), 0)) (by decide +kernel)) (by decide +kernel) hm_z
    replace hm_z := rn_vret (am_cur_of (i := (74, 1, .return_, (0, 0, 0), 0)) (by decide +kernel)) hm_z
    obtain ⟨e333_z, e334_z⟩ := hm_z
    have ua := ab_iadd (x := u) (y := 1) (by omega) (by omega)
    refine ⟨?_, fun j hj_z => ?_, fun hu t ht => ?_, fun hu t ht => ?_, fun o k ho hk_z => ?_⟩
    · rw [e334_z, rg_v_self]
      omega
    · rw [e334_z, rg_v_other (by omega), show 17 * (min u.toInt 19).toNat + j = (17 * u).toNatClampNeg + j by omega, p1_z j hj_z]
    · rw [e334_z, rg_v_other (by omega)]
      unfold rg_v
      rw [p2_z 200 t (by omega)]
    · exact absurd hu (by omega)
    · rw [e334_z]
      exact (up_ne (by omega)).trans (p2_z o k (by omega))
  · replace b329_z : u = (20 : Int32) ∧ u.toInt = (20 : Int32).toInt := b329_z
    replace hm_z := rn_iconst (w := 0) (am_cur_of (i := (9, 1, .iconst 0, (0, 0, 0), 0)) (by decide +kernel)) (by decide) hm_z
    replace hm_z := rn_istore_n (am_cur_of (i := (10, 1, .istore_n 1, (0, 0, 0), 0)) (by decide +kernel)) hm_z
    obtain ⟨_, s335_z, s336_z, g1_z, hm_z⟩ := hm_z
    replace g0_z := s335_z 0 _ (by decide) rfl g0_z
    clear s335_z s336_z
    obtain ⟨l2_z, g2_z, f0_z, f1_z, f2_z, f3_z⟩ := rm_l _ 0 _ _ g0_z g1_z (by decide) (by decide) hm_z
    have eu2_z : rg_v g2_z 164 77 = u := by
      unfold rg_v at eu ⊢
      rw [f2_z 164 77 (by omega)]
      exact eu
    clear hm_z g0_z g1_z
    have g0_z := f0_z
    have hm_z := f3_z
    replace hm_z := rn_aload_n (am_cur_of (i := (39, 1, .aload_n 0, (0, 0, 0), 0)) (by decide +kernel)) g0_z hm_z
    replace hm_z := rn_dup (am_cur_of (i := (40, 1, .dup, (0, 0, 0), 0)) (by decide +kernel)) hm_z
    replace hm_z := rn_getI (v := u) (am_cur_of (i := (41, 3, .getfield 371, (12, 77, 1461), 0)) (by decide +kernel)) (by decide +kernel) eu2_z hm_z
    replace hm_z := rn_iconst (w := 1) (am_cur_of (i := (44, 1, .iconst 1, (0, 0, 0), 0)) (by decide +kernel)) (by decide) hm_z
    replace hm_z := rn_isub (w := u - 1) (am_cur_of (i := (45, 1, .isub, (0, 0, 0), 0)) (by decide +kernel)) rfl hm_z
    replace hm_z := rn_put (am_cur_of (i := (46, 3, .putfield 371, (12, 77, 1461), 0)) (by decide +kernel)) (by decide +kernel) hm_z
    replace hm_z := rn_aload_n (am_cur_of (i := (49, 1, .aload_n 0, (0, 0, 0), 0)) (by decide +kernel)) g0_z hm_z
    replace hm_z := rn_aload_n (am_cur_of (i := (50, 1, .aload_n 0, (0, 0, 0), 0)) (by decide +kernel)) g0_z hm_z
    replace hm_z := rn_getR (x := 200) (am_cur_of (i := (51, 3, .getfield 127, (12, 78, 1462), 0)) (by decide +kernel)) (by decide +kernel) hm_z
    replace hm_z := rn_bipush (w := 17) (am_cur_of (i := (54, 2, .bipush 17, (0, 0, 0), 0)) (by decide +kernel)) (by decide) hm_z
    replace hm_z := rn_aload_n (am_cur_of (i := (56, 1, .aload_n 0, (0, 0, 0), 0)) (by decide +kernel)) g0_z hm_z
    replace hm_z := rn_getI (v := u - 1) (am_cur_of (i := (57, 3, .getfield 371, (12, 77, 1461), 0)) (by decide +kernel)) (by decide +kernel) rg_v_self hm_z
    replace hm_z := rn_imul (w := (17 : Int32) * (u - 1)) (am_cur_of (i := (60, 1, .imul, (0, 0, 0), 0)) (by decide +kernel)) rfl hm_z
    replace hm_z := rn_callV (M' := am_m208) (o := 164) (ar := [.int ((17 : Int32) * (u - 1)), .ref 200]) (rest := []) (L := lv_args 0 [.ref 164, .ref 200, .int ((17 : Int32) * (u - 1))]) (am_cur_of (i := (61, 3, .invokevirtual 530, (208, 1863, 3), 0)) (by decide +kernel)) rfl rfl rfl rfl hm_z
    obtain ⟨r337_z, h338_z, q339_z, hm_z⟩ := hm_z
    have us := ab_isub (x := u) (y := 1) (by omega) (by omega)
    have ui := ab_imul (x := 17) (y := (u - 1)) (by rw [z17_z]; omega) (by rw [z17_z]; omega)
    rw [z17_z] at ui
    have vo := rn_void rfl q339_z
    subst vo
    have cu := rt_cl (x := 17 * (u - 1)) (by omega)
    obtain ⟨p1_z, p2_z⟩ := pt_208_200 (by omega) (by omega) q339_z
    have ep : rg_v h338_z 164 77 = u - 1 := by
      refine Eq.trans ?_ (show rg_v (am_up g2_z 164 77 (.int (u - 1))) 164 77 = u - 1 from rg_v_self)
      unfold rg_v
      rw [p2_z 164 77 (by omega)]
    replace hm_z : rn _ _ _ _ [] _ _ _ := hm_z
    replace hm_z := rn_aload_n (am_cur_of (i := (64, 1, .aload_n 0, (0, 0, 0), 0)) (by decide +kernel)) g0_z hm_z
    replace hm_z := rn_dup (am_cur_of (i := (65, 1, .dup, (0, 0, 0), 0)) (by decide +kernel)) hm_z
    replace hm_z := rn_getI (v := u - 1) (am_cur_of (i := (66, 3, .getfield 371, (12, 77, 1461), 0)) (by decide +kernel)) (by decide +kernel) ep hm_z
    replace hm_z := rn_iconst (w := 1) (am_cur_of (i := (69, 1, .iconst 1, (0, 0, 0), 0)) (by decide +kernel)) (by decide) hm_z
    replace hm_z := rn_iadd (w := (u - 1) + 1) (am_cur_of (i := (70, 1, .iadd, (0, 0, 0), 0)) (by decide +kernel)) rfl hm_z
    replace hm_z := rn_put (am_cur_of (i := (71, 3, .putfield 371, (12, 77, 1461), 0)) (by decide +kernel)) (by decide +kernel) hm_z
    replace hm_z := rn_vret (am_cur_of (i := (74, 1, .return_, (0, 0, 0), 0)) (by decide +kernel)) hm_z
    obtain ⟨e340_z, e341_z⟩ := hm_z
    have ua := ab_iadd (x := u - 1) (y := 1) (by omega) (by omega)
    refine ⟨?_, fun j hj_z => ?_, fun hu t ht => ?_, fun hu t ht => ?_, fun o k ho hk_z => ?_⟩
    · rw [e341_z, rg_v_self]
      omega
    · rw [e341_z, rg_v_other (by omega), show 17 * (min u.toInt 19).toNat + j = (17 * (u - 1)).toNatClampNeg + j by omega, p1_z j hj_z]
      exact mS_e (fun o k h => (up_ne (by omega)).trans (f2_z o k (by omega))) j
    · exact absurd hu (by omega)
    · rw [e341_z, rg_v_other (by omega)]
      unfold rg_v
      rw [p2_z 200 t (by omega), up_ne (by omega)]
      exact f1_z t (by rw [show (0 : Int32).toInt = 0 by decide]; omega) ht
    · rw [e341_z]
      exact (up_ne (by omega)).trans ((p2_z o k (by omega)).trans ((up_ne (by omega)).trans (f2_z o k (by omega))))
