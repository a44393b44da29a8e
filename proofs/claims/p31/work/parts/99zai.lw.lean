set_option maxHeartbeats 400000
/-! ===== WHAT law ANSWERS (wip/r/gen99sm.py) ===== -/
/-- the asked law's value -/
def lawV (p : Nat) (h : am_H) (wh n F R S : Int32) : Option Int := if wh = 2 then lawX p h 2 (eC 0 F R 0 S 0) else if wh = 0 then lawX p h 0 (eC (ldX p h 0 F R n S) F R n S 0) else lawX p h 1 (eC (ldX p h 0 F R 0 S) F R 0 S n)
def lawG (wh n : Int32) : Prop := (wh.toInt = 0 ∧ 0 ≤ n.toInt ∧ n.toInt ≤ 1) ∨ (wh.toInt = 1 ∧ 0 ≤ n.toInt ∧ n.toInt ≤ 999) ∨ wh.toInt = 2
theorem lR_u {q : Option Int} {a b : Int64} (x : lR q a.toInt) (y : lR q b.toInt) : a = b := by
  match q, x, y with
  | none, x, y => exact Int64.toInt_inj.mp ((show a.toInt = -9223372036854775808 from x).trans (show b.toInt = -9223372036854775808 from y).symm)
  | some z, x, y => exact Int64.toInt_inj.mp ((show a.toInt = z from x).trans (show b.toInt = z from y).symm)
theorem le_191 {n p : Nat} {r : Option Value} {h g g' : am_H} {kd : Int32} {N : Nat → Int64} (told : ¬ rg_v g 178 kd.toNatClampNeg = 0) (L : lU kd.toNatClampNeg p h g ∨ ∃ f T, lT kd.toNatClampNeg p h g f T) (hMb : ∀ q, q < 6 → lB (rg_l g 186 q).toInt) (al0_z : rg_v h (p + 14) kd.toNatClampNeg = 0 ∨ (N (0 : Int32).toNatClampNeg).toInt = (rg_l g 186 (3 : Int32).toNatClampNeg).toInt) (al : ∀ v u, lq_n v u → ¬ v = 0 → (N v.toNatClampNeg).toInt = (rg_l g 186 u.toNatClampNeg).toInt) (hm_z : rn n am_m191 0 (lv_args 0 [.ref 164, .int kd]) [] g r g') : ∃ w : Int64, r = some (.long w) ∧ ((∃ z, lawX p h kd.toNatClampNeg N = some z ∧ rg_v g' 164 49 = 0 ∧ w.toInt = z) ∨ (lawX p h kd.toNatClampNeg N = none ∧ ¬ rg_v g' 164 49 = 0)) ∧ ∀ o q, ¬ (o = 164 ∧ q = 49) → ¬ o = 187 → g' o q = g o q := by
  rcases L with ⟨u1_z, -⟩ | ⟨f, T, t1_z, ⟨t2_z, t3_z⟩, ⟨t4_z, t5_z⟩, ⟨t6_z, t7_z⟩, t8_z, t9_z, t10_z⟩
  · exact absurd u1_z told
  have c1_z := rt_cl (x := rg_v h (p + 12) kd.toNatClampNeg) (by omega)
  have c2_z := rt_cl (x := rg_v h (p + 13) kd.toNatClampNeg) (by omega)
  have c3_z : (rg_v h (p + 12) kd.toNatClampNeg).toNatClampNeg = f := by omega
  have c4_z : (rg_v h (p + 13) kd.toNatClampNeg).toNatClampNeg = T := by omega
  have hP := lS_P (T - f) [T - 1] t8_z
  rw [show f + (T - f) = T by omega] at hP
  have hM : ∀ i, f ≤ i → i < T → rg_v g 181 i = 1 → lB (rg_l g 186 (rg_v g 182 i).toNatClampNeg).toInt := fun i a b k1_z => hMb _ (lq_n6 (lq_b1 (t9_z i a b) k1_z).2).2
  obtain ⟨wx, rr, fx, xx⟩ := lo_191 (K := fun q => rg_v g 181 q) (A := fun q => rg_v g 182 q) (B := fun q => rg_v g 183 q) (M := fun q => rg_l g 186 q) t5_z t6_z hM hP t4_z (fun _ => rfl) (fun _ => rfl) (fun _ => rfl) (fun _ => rfl) rfl hm_z
  have hNM : ∀ i, f ≤ i → i < T → rg_v h (p + 10) i = 1 → (N (rg_v h (p + 11) i).toNatClampNeg).toInt = (rg_l g 186 (rg_v g 182 i).toNatClampNeg).toInt := by
    intro i a b o1_z
    obtain ⟨-, n⟩ := lq_1 (t9_z i a b) o1_z
    by_cases v0_z : rg_v h (p + 11) i = 0
    · have u3_z : rg_v g 182 i = 3 := by
        rcases n with ⟨-, u⟩ | ⟨v, -⟩ | ⟨v, -⟩ | ⟨v, -⟩ | ⟨v, -⟩ | ⟨v, -⟩
        · exact u
        · exact absurd (v.symm.trans v0_z) (by decide)
        · exact absurd (v.symm.trans v0_z) (by decide)
        · exact absurd (v.symm.trans v0_z) (by decide)
        · exact absurd (v.symm.trans v0_z) (by decide)
        · exact absurd (v.symm.trans v0_z) (by decide)
      rcases al0_z with al0_z | al0_z
      · rcases t10_z with t | ⟨-, t⟩
        · exact absurd (t.symm.trans al0_z) (by decide)
        · exact absurd v0_z (t i a b o1_z)
      · rw [v0_z, u3_z]
        exact al0_z
    · exact al _ _ n v0_z
  have ev_z := ev_val (O := fun q => rg_v h (p + 10) q) (V := fun q => rg_v h (p + 11) q) (N := N) (M := fun q => rg_l g 186 q) (V0 := fun j => (rg_l g 187 j).toInt) t6_z t7_z t9_z hNM t8_z
  have eX : lawX p h kd.toNatClampNeg N = lvR (lvF (fun q => rg_v h (p + 10) q) (fun q => rg_v h (p + 11) q) N f (T - f)) := by
    unfold lawX
    rw [c3_z, c4_z]
  rw [← eX] at ev_z
  refine ⟨wx, rr, ?_, fx⟩
  rcases xx with ⟨W, x1_z, x2_z, x3_z⟩ | ⟨xn, x0_z⟩
  · rcases ev_z with ⟨-, v2_z⟩ | ⟨W2, v1_z, v2_z⟩
    · exact absurd (x1_z.symm.trans v2_z) (by intro z; cases z)
    · have eW : W = W2 := Option.some.inj (x1_z.symm.trans v2_z)
      exact Or.inl ⟨_, v1_z, x2_z, by rw [← eW]; exact x3_z⟩
  · rcases ev_z with ⟨v1_z, -⟩ | ⟨W, -, v2_z⟩
    · exact Or.inr ⟨v1_z, x0_z⟩
    · exact absurd (xn.symm.trans v2_z) (by intro z; cases z)
theorem sm_62 {n : Nat} {h h' : am_H} {r : Option Value} {x : Int32} {y : Int32} {z : Int32}  (hc_z : rn n am_m62 0 (lv_args 0 [.int x, .int y, .int z]) [] h r h') : ((x.toInt < y.toInt) ∧ r = some (.int 0) ∧ h' = h) ∨ ((y.toInt ≤ x.toInt) ∧ (z.toInt < x.toInt) ∧ r = some (.int 0) ∧ h' = h) ∨ ((y.toInt ≤ x.toInt) ∧ (x.toInt ≤ z.toInt) ∧ r = some (.int 1) ∧ h' = h) := by
  have g0_z : am_get (lv_args 0 [.int x, .int y, .int z]) 0 = some (.int x) := rfl
  have g1_z : am_get (lv_args 0 [.int x, .int y, .int z]) 1 = some (.int y) := rfl
  have g2_z : am_get (lv_args 0 [.int x, .int y, .int z]) 2 = some (.int z) := rfl
  replace hc_z := rn_iload_n (am_cur_of (i := (0, 1, .iload_n 0, (0, 0, 0), 0)) (by decide +kernel)) g0_z hc_z
  replace hc_z := rn_iload_n (am_cur_of (i := (1, 1, .iload_n 1, (0, 0, 0), 0)) (by decide +kernel)) g1_z hc_z
  replace hc_z := rn_cmp (am_cur_of (i := (2, 3, .if_icmp .lt 12, (8, 0, 0), 0)) (by decide +kernel)) hc_z
  rcases hc_z with ⟨b1_z, hc_z⟩ | ⟨b1_z, hc_z⟩
  · replace b1_z : x.toInt < y.toInt := b1_z
    replace hc_z := rn_iconst (w := 0) (am_cur_of (i := (14, 1, .iconst 0, (0, 0, 0), 0)) (by decide +kernel)) (by decide) hc_z
    replace hc_z := rn_iret (am_cur_of (i := (15, 1, .ireturn, (0, 0, 0), 0)) (by decide +kernel)) hc_z
    obtain ⟨e2_z, e3_z⟩ := hc_z
    exact Or.inl ⟨b1_z, e2_z, e3_z⟩
  · replace b1_z : y.toInt ≤ x.toInt := b1_z
    replace hc_z := rn_iload_n (am_cur_of (i := (5, 1, .iload_n 0, (0, 0, 0), 0)) (by decide +kernel)) g0_z hc_z
    replace hc_z := rn_iload_n (am_cur_of (i := (6, 1, .iload_n 2, (0, 0, 0), 0)) (by decide +kernel)) g2_z hc_z
    replace hc_z := rn_cmp (am_cur_of (i := (7, 3, .if_icmp .gt 7, (8, 0, 0), 0)) (by decide +kernel)) hc_z
    rcases hc_z with ⟨b4_z, hc_z⟩ | ⟨b4_z, hc_z⟩
    · replace b4_z : z.toInt < x.toInt := b4_z
      replace hc_z := rn_iconst (w := 0) (am_cur_of (i := (14, 1, .iconst 0, (0, 0, 0), 0)) (by decide +kernel)) (by decide) hc_z
      replace hc_z := rn_iret (am_cur_of (i := (15, 1, .ireturn, (0, 0, 0), 0)) (by decide +kernel)) hc_z
      obtain ⟨e5_z, e6_z⟩ := hc_z
      exact Or.inr (Or.inl ⟨b1_z, b4_z, e5_z, e6_z⟩)
    · replace b4_z : x.toInt ≤ z.toInt := b4_z
      replace hc_z := rn_iconst (w := 1) (am_cur_of (i := (10, 1, .iconst 1, (0, 0, 0), 0)) (by decide +kernel)) (by decide) hc_z
      replace hc_z := rn_goto (am_cur_of (i := (11, 3, .goto 4, (9, 0, 0), 0)) (by decide +kernel)) hc_z
      replace hc_z := rn_iret (am_cur_of (i := (15, 1, .ireturn, (0, 0, 0), 0)) (by decide +kernel)) hc_z
      obtain ⟨e7_z, e8_z⟩ := hc_z
      exact Or.inr (Or.inr (⟨b1_z, b4_z, e7_z, e8_z⟩))
theorem la_61_2 {n : Nat} {r : Option Value} {h g h' : am_H} {wh n0_z : Int32} (D : h 0 2 = .ref 2) (hL : LW 2 h g) (hc_z : rn n am_m61 0 (lv_args 0 [.ref 0, .int wh, .int n0_z]) [] h r h') : (¬ lawG wh n0_z ∧ r = some (.long (-9223372036854775808))) ∨ (lawG wh n0_z ∧ ∃ w : Int64, r = some (.long w) ∧ lR (lawV 2 h wh n0_z (rg_v h 48 0) (rg_v h 2 0 - rg_v h 48 0) (rg_v h 48 1)) w.toInt) := by
  have z0_z : (0 : Int32).toInt = 0 := by decide
  have z1_z : (1 : Int32).toInt = 1 := by decide
  have z2_z : (2 : Int32).toInt = 2 := by decide
  have z999_z : (999 : Int32).toInt = 999 := by decide
  have g0_z : am_get (lv_args 0 [.ref 0, .int wh, .int n0_z]) 0 = some (.ref 0) := rfl
  have g1_z : am_get (lv_args 0 [.ref 0, .int wh, .int n0_z]) 1 = some (.int wh) := rfl
  have g2_z : am_get (lv_args 0 [.ref 0, .int wh, .int n0_z]) 2 = some (.int n0_z) := rfl
  replace hc_z := rn_iload_n (am_cur_of (i := (0, 1, .iload_n 1, (0, 0, 0), 0)) (by decide +kernel)) g1_z hc_z
  replace hc_z := rn_if (am_cur_of (i := (1, 3, .ifCond .ne 12, (7, 0, 0), 0)) (by decide +kernel)) hc_z
  rcases hc_z with ⟨b9_z, hc_z⟩ | ⟨b9_z, hc_z⟩
  · replace b9_z : ¬ wh = (0 : Int32) ∧ ¬ wh.toInt = (0 : Int32).toInt := b9_z
    replace hc_z := rn_iload_n (am_cur_of (i := (13, 1, .iload_n 1, (0, 0, 0), 0)) (by decide +kernel)) g1_z hc_z
    replace hc_z := rn_iconst (w := 1) (am_cur_of (i := (14, 1, .iconst 1, (0, 0, 0), 0)) (by decide +kernel)) (by decide) hc_z
    replace hc_z := rn_cmp (am_cur_of (i := (15, 3, .if_icmp .ne 14, (15, 0, 0), 0)) (by decide +kernel)) hc_z
    rcases hc_z with ⟨b10_z, hc_z⟩ | ⟨b10_z, hc_z⟩
    · replace b10_z : ¬ wh = (1 : Int32) ∧ ¬ wh.toInt = (1 : Int32).toInt := b10_z
      replace hc_z := rn_iload_n (am_cur_of (i := (29, 1, .iload_n 1, (0, 0, 0), 0)) (by decide +kernel)) g1_z hc_z
      replace hc_z := rn_iconst (w := 2) (am_cur_of (i := (30, 1, .iconst 2, (0, 0, 0), 0)) (by decide +kernel)) (by decide) hc_z
      replace hc_z := rn_cmp (am_cur_of (i := (31, 3, .if_icmp .ne 7, (20, 0, 0), 0)) (by decide +kernel)) hc_z
      rcases hc_z with ⟨b11_z, hc_z⟩ | ⟨b11_z, hc_z⟩
      · replace b11_z : ¬ wh = (2 : Int32) ∧ ¬ wh.toInt = (2 : Int32).toInt := b11_z
        replace hc_z := rn_iconst (w := 0) (am_cur_of (i := (38, 1, .iconst 0, (0, 0, 0), 0)) (by decide +kernel)) (by decide) hc_z
        replace hc_z := rn_istore_n (am_cur_of (i := (39, 1, .istore_n 3, (0, 0, 0), 0)) (by decide +kernel)) hc_z
        obtain ⟨_, s12_z, s13_z, g3_z, hc_z⟩ := hc_z
        replace g0_z := s12_z 0 _ (by decide) rfl g0_z
        replace g1_z := s12_z 1 _ (by decide) rfl g1_z
        replace g2_z := s12_z 2 _ (by decide) rfl g2_z
        clear s12_z s13_z
        replace hc_z := rn_iload_n (am_cur_of (i := (40, 1, .iload_n 3, (0, 0, 0), 0)) (by decide +kernel)) g3_z hc_z
        replace hc_z := rn_ifF (am_cur_of (i := (41, 3, .ifCond .ne 7, (26, 0, 0), 0)) (by decide +kernel)) (by decide) hc_z
        replace hc_z := rn_ldc2 (w := (-9223372036854775808)) (am_cur_of (i := (44, 3, .ldc2_w 176, (0, 0, 911), (-9223372036854775808))) (by decide +kernel)) (by decide) hc_z
        replace hc_z := rn_lret (am_cur_of (i := (47, 1, .lreturn, (0, 0, 0), 0)) (by decide +kernel)) hc_z
        obtain ⟨e14_z, e15_z⟩ := hc_z
        exact Or.inl ⟨by unfold lawG; omega, e14_z⟩
      · replace b11_z : wh = (2 : Int32) ∧ wh.toInt = (2 : Int32).toInt := b11_z
        replace hc_z := rn_iconst (w := 1) (am_cur_of (i := (34, 1, .iconst 1, (0, 0, 0), 0)) (by decide +kernel)) (by decide) hc_z
        replace hc_z := rn_goto (am_cur_of (i := (35, 3, .goto 4, (21, 0, 0), 0)) (by decide +kernel)) hc_z
        replace hc_z := rn_istore_n (am_cur_of (i := (39, 1, .istore_n 3, (0, 0, 0), 0)) (by decide +kernel)) hc_z
        obtain ⟨_, s16_z, s17_z, g3_z, hc_z⟩ := hc_z
        replace g0_z := s16_z 0 _ (by decide) rfl g0_z
        replace g1_z := s16_z 1 _ (by decide) rfl g1_z
        replace g2_z := s16_z 2 _ (by decide) rfl g2_z
        clear s16_z s17_z
        replace hc_z := rn_iload_n (am_cur_of (i := (40, 1, .iload_n 3, (0, 0, 0), 0)) (by decide +kernel)) g3_z hc_z
        replace hc_z := rn_ifT (am_cur_of (i := (41, 3, .ifCond .ne 7, (26, 0, 0), 0)) (by decide +kernel)) (by decide) hc_z
        replace hc_z := rn_aload_n (am_cur_of (i := (48, 1, .aload_n 0, (0, 0, 0), 0)) (by decide +kernel)) g0_z hc_z
        replace hc_z := rn_getR (x := 148) (am_cur_of (i := (49, 3, .getfield 64, (0, 11, 672), 0)) (by decide +kernel)) (by decide +kernel) hc_z
        replace hc_z := rn_aload_n (am_cur_of (i := (52, 1, .aload_n 0, (0, 0, 0), 0)) (by decide +kernel)) g0_z hc_z
        replace hc_z := rn_getM (x := 2) (am_cur_of (i := (53, 3, .getfield 18, (0, 2, 663), 0)) (by decide +kernel)) D hc_z
        replace hc_z := rn_aload_n (am_cur_of (i := (56, 1, .aload_n 0, (0, 0, 0), 0)) (by decide +kernel)) g0_z hc_z
        replace hc_z := rn_getR (x := 48) (am_cur_of (i := (57, 3, .getfield 37, (0, 5, 666), 0)) (by decide +kernel)) (by decide +kernel) hc_z
        replace hc_z := rn_callV (M' := am_m63) (o := 148) (ar := [.ref 48, .ref 2]) (rest := []) (L := lv_args 0 [.ref 148, .ref 2, .ref 48]) (am_cur_of (i := (60, 3, .invokevirtual 146, (63, 912, 3), 0)) (by decide +kernel)) rfl rfl rfl rfl hc_z
        obtain ⟨r18_z, h19_z, q20_z, hc_z⟩ := hc_z
        have vo := rn_void rfl q20_z
        subst vo
        obtain ⟨b1_z, -, -, b3_z, -, bS, bf⟩ := se_63_2 q20_z
        have hC : ∀ o q, 2 + 10 ≤ o → o ≤ 2 + 14 → rg_v h19_z o q = rg_v h o q := fun o q a_ b_ => lw_v (bf o q (by omega))
        have eF : rg_v h19_z 149 0 = rg_v h 48 0 := bS 0 (by decide)
        have eS : rg_v h19_z 149 1 = rg_v h 48 1 := bS 1 (by decide)
        have eH : rg_v h19_z 2 0 = rg_v h 2 0 := lw_v (bf 2 0 (by decide))
        replace hc_z : rn _ _ _ _ [] _ _ _ := hc_z
        replace hc_z := rn_aload_n (am_cur_of (i := (63, 1, .aload_n 0, (0, 0, 0), 0)) (by decide +kernel)) g0_z hc_z
        replace hc_z := rn_getR (x := 148) (am_cur_of (i := (64, 3, .getfield 64, (0, 11, 672), 0)) (by decide +kernel)) (by decide +kernel) hc_z
        replace hc_z := rn_iload_n (am_cur_of (i := (67, 1, .iload_n 1, (0, 0, 0), 0)) (by decide +kernel)) g1_z hc_z
        replace hc_z := rn_iload_n (am_cur_of (i := (68, 1, .iload_n 1, (0, 0, 0), 0)) (by decide +kernel)) g1_z hc_z
        replace hc_z := ((rn_if (am_cur_of (i := (69, 3, .ifCond .ne 7, (40, 0, 0), 0)) (by decide +kernel)) hc_z).resolve_right (fun q => absurd q.1 (fun z => absurd (b11_z.1.symm.trans z.1) (by decide)))).2
        replace hc_z := rn_iconst (w := 0) (am_cur_of (i := (76, 1, .iconst 0, (0, 0, 0), 0)) (by decide +kernel)) (by decide) hc_z
        replace hc_z := rn_iload_n (am_cur_of (i := (77, 1, .iload_n 1, (0, 0, 0), 0)) (by decide +kernel)) g1_z hc_z
        replace hc_z := rn_iconst (w := 1) (am_cur_of (i := (78, 1, .iconst 1, (0, 0, 0), 0)) (by decide +kernel)) (by decide) hc_z
        replace hc_z := ((rn_cmp (am_cur_of (i := (79, 3, .if_icmp .ne 7, (46, 0, 0), 0)) (by decide +kernel)) hc_z).resolve_right (fun q => absurd q.1 (fun z => absurd (b11_z.1.symm.trans z.1) (by decide)))).2
        replace hc_z := rn_iconst (w := 0) (am_cur_of (i := (86, 1, .iconst 0, (0, 0, 0), 0)) (by decide +kernel)) (by decide) hc_z
        replace hc_z := rn_callV (M' := am_m65) (o := 148) (ar := [.int 0, .int 0, .int wh]) (rest := []) (L := lv_args 0 [.ref 148, .int wh, .int 0, .int 0]) (am_cur_of (i := (87, 3, .invokevirtual 178, (65, 921, 3), 0)) (by decide +kernel)) rfl rfl rfl rfl hc_z
        obtain ⟨r23_z, h24_z, q25_z, hc_z⟩ := hc_z
        obtain ⟨wx, rr, x1_z, x2_z, -⟩ := wo_65_148_2 b1_z (LW_e hC (fun _ _ _ => rfl) hL) eF eS eH b3_z (by rw [b11_z.1]; decide) q25_z
        subst rr
        rw [lawX_c hC] at x1_z
        rw [ldX_c hC, lawX_c hC] at x2_z
        replace hc_z : rn _ _ _ _ [.long wx] _ _ _ := hc_z
        replace hc_z := rn_lret (am_cur_of (i := (90, 1, .lreturn, (0, 0, 0), 0)) (by decide +kernel)) hc_z
        obtain ⟨e26_z, e27_z⟩ := hc_z
        refine Or.inr ⟨by unfold lawG; omega, _, e26_z, ?_⟩
        have e := b11_z.1
        subst e
        have x := x1_z rfl
        rw [show (2 : Int32).toNatClampNeg = 2 by decide] at x
        unfold lawV
        rw [if_pos rfl]
        exact x
    · replace b10_z : wh = (1 : Int32) ∧ wh.toInt = (1 : Int32).toInt := b10_z
      replace hc_z := rn_iload_n (am_cur_of (i := (18, 1, .iload_n 2, (0, 0, 0), 0)) (by decide +kernel)) g2_z hc_z
      replace hc_z := rn_iconst (w := 0) (am_cur_of (i := (19, 1, .iconst 0, (0, 0, 0), 0)) (by decide +kernel)) (by decide) hc_z
      replace hc_z := rn_sipush (w := 999) (am_cur_of (i := (20, 3, .sipush 999, (0, 0, 0), 0)) (by decide +kernel)) (by decide) hc_z
      replace hc_z := rn_callS (M' := am_m62) (ar := [.int 999, .int 0, .int n0_z]) (rest := []) (L := lv_args 0 [.int n0_z, .int 0, .int 999]) (am_cur_of (i := (23, 3, .invokestatic 172, (62, 908, 3), 0)) (by decide +kernel)) rfl rfl rfl rfl hc_z
      obtain ⟨r28_z, h29_z, q30_z, hc_z⟩ := hc_z
      rcases sm_62 q30_z with ⟨b31_z, rfl, y32_z⟩ | ⟨b33_z, b34_z, rfl, y35_z⟩ | ⟨b36_z, b37_z, rfl, y38_z⟩
      · replace y32_z := y32_z.symm
        subst y32_z
        replace b31_z : n0_z.toInt < (0 : Int32).toInt := b31_z
        replace hc_z : rn _ _ _ _ [.int 0] _ _ _ := hc_z
        replace hc_z := rn_ifF (am_cur_of (i := (26, 3, .ifCond .ne 8, (18, 0, 0), 0)) (by decide +kernel)) (by decide) hc_z
        replace hc_z := rn_iload_n (am_cur_of (i := (29, 1, .iload_n 1, (0, 0, 0), 0)) (by decide +kernel)) g1_z hc_z
        replace hc_z := rn_iconst (w := 2) (am_cur_of (i := (30, 1, .iconst 2, (0, 0, 0), 0)) (by decide +kernel)) (by decide) hc_z
        replace hc_z := ((rn_cmp (am_cur_of (i := (31, 3, .if_icmp .ne 7, (20, 0, 0), 0)) (by decide +kernel)) hc_z).resolve_right (fun q => absurd q.1 (fun z => absurd (b10_z.1.symm.trans z.1) (by decide)))).2
        replace hc_z := rn_iconst (w := 0) (am_cur_of (i := (38, 1, .iconst 0, (0, 0, 0), 0)) (by decide +kernel)) (by decide) hc_z
        replace hc_z := rn_istore_n (am_cur_of (i := (39, 1, .istore_n 3, (0, 0, 0), 0)) (by decide +kernel)) hc_z
        obtain ⟨_, s40_z, s41_z, g3_z, hc_z⟩ := hc_z
        replace g0_z := s40_z 0 _ (by decide) rfl g0_z
        replace g1_z := s40_z 1 _ (by decide) rfl g1_z
        replace g2_z := s40_z 2 _ (by decide) rfl g2_z
        clear s40_z s41_z
        replace hc_z := rn_iload_n (am_cur_of (i := (40, 1, .iload_n 3, (0, 0, 0), 0)) (by decide +kernel)) g3_z hc_z
        replace hc_z := rn_ifF (am_cur_of (i := (41, 3, .ifCond .ne 7, (26, 0, 0), 0)) (by decide +kernel)) (by decide) hc_z
        replace hc_z := rn_ldc2 (w := (-9223372036854775808)) (am_cur_of (i := (44, 3, .ldc2_w 176, (0, 0, 911), (-9223372036854775808))) (by decide +kernel)) (by decide) hc_z
        replace hc_z := rn_lret (am_cur_of (i := (47, 1, .lreturn, (0, 0, 0), 0)) (by decide +kernel)) hc_z
        obtain ⟨e42_z, e43_z⟩ := hc_z
        exact Or.inl ⟨by unfold lawG; omega, e42_z⟩
      · replace y35_z := y35_z.symm
        subst y35_z
        replace b33_z : (0 : Int32).toInt ≤ n0_z.toInt := b33_z
        replace b34_z : (999 : Int32).toInt < n0_z.toInt := b34_z
        replace hc_z : rn _ _ _ _ [.int 0] _ _ _ := hc_z
        replace hc_z := rn_ifF (am_cur_of (i := (26, 3, .ifCond .ne 8, (18, 0, 0), 0)) (by decide +kernel)) (by decide) hc_z
        replace hc_z := rn_iload_n (am_cur_of (i := (29, 1, .iload_n 1, (0, 0, 0), 0)) (by decide +kernel)) g1_z hc_z
        replace hc_z := rn_iconst (w := 2) (am_cur_of (i := (30, 1, .iconst 2, (0, 0, 0), 0)) (by decide +kernel)) (by decide) hc_z
        replace hc_z := ((rn_cmp (am_cur_of (i := (31, 3, .if_icmp .ne 7, (20, 0, 0), 0)) (by decide +kernel)) hc_z).resolve_right (fun q => absurd q.1 (fun z => absurd (b10_z.1.symm.trans z.1) (by decide)))).2
        replace hc_z := rn_iconst (w := 0) (am_cur_of (i := (38, 1, .iconst 0, (0, 0, 0), 0)) (by decide +kernel)) (by decide) hc_z
        replace hc_z := rn_istore_n (am_cur_of (i := (39, 1, .istore_n 3, (0, 0, 0), 0)) (by decide +kernel)) hc_z
        obtain ⟨_, s45_z, s46_z, g3_z, hc_z⟩ := hc_z
        replace g0_z := s45_z 0 _ (by decide) rfl g0_z
        replace g1_z := s45_z 1 _ (by decide) rfl g1_z
        replace g2_z := s45_z 2 _ (by decide) rfl g2_z
        clear s45_z s46_z
        replace hc_z := rn_iload_n (am_cur_of (i := (40, 1, .iload_n 3, (0, 0, 0), 0)) (by decide +kernel)) g3_z hc_z
        replace hc_z := rn_ifF (am_cur_of (i := (41, 3, .ifCond .ne 7, (26, 0, 0), 0)) (by decide +kernel)) (by decide) hc_z
        replace hc_z := rn_ldc2 (w := (-9223372036854775808)) (am_cur_of (i := (44, 3, .ldc2_w 176, (0, 0, 911), (-9223372036854775808))) (by decide +kernel)) (by decide) hc_z
        replace hc_z := rn_lret (am_cur_of (i := (47, 1, .lreturn, (0, 0, 0), 0)) (by decide +kernel)) hc_z
        obtain ⟨e47_z, e48_z⟩ := hc_z
        exact Or.inl ⟨by unfold lawG; omega, e47_z⟩
      · replace y38_z := y38_z.symm
        subst y38_z
        replace b36_z : (0 : Int32).toInt ≤ n0_z.toInt := b36_z
        replace b37_z : n0_z.toInt ≤ (999 : Int32).toInt := b37_z
        replace hc_z : rn _ _ _ _ [.int 1] _ _ _ := hc_z
        replace hc_z := rn_ifT (am_cur_of (i := (26, 3, .ifCond .ne 8, (18, 0, 0), 0)) (by decide +kernel)) (by decide) hc_z
        replace hc_z := rn_iconst (w := 1) (am_cur_of (i := (34, 1, .iconst 1, (0, 0, 0), 0)) (by decide +kernel)) (by decide) hc_z
        replace hc_z := rn_goto (am_cur_of (i := (35, 3, .goto 4, (21, 0, 0), 0)) (by decide +kernel)) hc_z
        replace hc_z := rn_istore_n (am_cur_of (i := (39, 1, .istore_n 3, (0, 0, 0), 0)) (by decide +kernel)) hc_z
        obtain ⟨_, s49_z, s50_z, g3_z, hc_z⟩ := hc_z
        replace g0_z := s49_z 0 _ (by decide) rfl g0_z
        replace g1_z := s49_z 1 _ (by decide) rfl g1_z
        replace g2_z := s49_z 2 _ (by decide) rfl g2_z
        clear s49_z s50_z
        replace hc_z := rn_iload_n (am_cur_of (i := (40, 1, .iload_n 3, (0, 0, 0), 0)) (by decide +kernel)) g3_z hc_z
        replace hc_z := rn_ifT (am_cur_of (i := (41, 3, .ifCond .ne 7, (26, 0, 0), 0)) (by decide +kernel)) (by decide) hc_z
        replace hc_z := rn_aload_n (am_cur_of (i := (48, 1, .aload_n 0, (0, 0, 0), 0)) (by decide +kernel)) g0_z hc_z
        replace hc_z := rn_getR (x := 148) (am_cur_of (i := (49, 3, .getfield 64, (0, 11, 672), 0)) (by decide +kernel)) (by decide +kernel) hc_z
        replace hc_z := rn_aload_n (am_cur_of (i := (52, 1, .aload_n 0, (0, 0, 0), 0)) (by decide +kernel)) g0_z hc_z
        replace hc_z := rn_getM (x := 2) (am_cur_of (i := (53, 3, .getfield 18, (0, 2, 663), 0)) (by decide +kernel)) D hc_z
        replace hc_z := rn_aload_n (am_cur_of (i := (56, 1, .aload_n 0, (0, 0, 0), 0)) (by decide +kernel)) g0_z hc_z
        replace hc_z := rn_getR (x := 48) (am_cur_of (i := (57, 3, .getfield 37, (0, 5, 666), 0)) (by decide +kernel)) (by decide +kernel) hc_z
        replace hc_z := rn_callV (M' := am_m63) (o := 148) (ar := [.ref 48, .ref 2]) (rest := []) (L := lv_args 0 [.ref 148, .ref 2, .ref 48]) (am_cur_of (i := (60, 3, .invokevirtual 146, (63, 912, 3), 0)) (by decide +kernel)) rfl rfl rfl rfl hc_z
        obtain ⟨r51_z, h52_z, q53_z, hc_z⟩ := hc_z
        have vo := rn_void rfl q53_z
        subst vo
        obtain ⟨b1_z, -, -, b3_z, -, bS, bf⟩ := se_63_2 q53_z
        have hC : ∀ o q, 2 + 10 ≤ o → o ≤ 2 + 14 → rg_v h52_z o q = rg_v h o q := fun o q a_ b_ => lw_v (bf o q (by omega))
        have eF : rg_v h52_z 149 0 = rg_v h 48 0 := bS 0 (by decide)
        have eS : rg_v h52_z 149 1 = rg_v h 48 1 := bS 1 (by decide)
        have eH : rg_v h52_z 2 0 = rg_v h 2 0 := lw_v (bf 2 0 (by decide))
        replace hc_z : rn _ _ _ _ [] _ _ _ := hc_z
        replace hc_z := rn_aload_n (am_cur_of (i := (63, 1, .aload_n 0, (0, 0, 0), 0)) (by decide +kernel)) g0_z hc_z
        replace hc_z := rn_getR (x := 148) (am_cur_of (i := (64, 3, .getfield 64, (0, 11, 672), 0)) (by decide +kernel)) (by decide +kernel) hc_z
        replace hc_z := rn_iload_n (am_cur_of (i := (67, 1, .iload_n 1, (0, 0, 0), 0)) (by decide +kernel)) g1_z hc_z
        replace hc_z := rn_iload_n (am_cur_of (i := (68, 1, .iload_n 1, (0, 0, 0), 0)) (by decide +kernel)) g1_z hc_z
        replace hc_z := ((rn_if (am_cur_of (i := (69, 3, .ifCond .ne 7, (40, 0, 0), 0)) (by decide +kernel)) hc_z).resolve_right (fun q => absurd q.1 (fun z => absurd (b10_z.1.symm.trans z.1) (by decide)))).2
        replace hc_z := rn_iconst (w := 0) (am_cur_of (i := (76, 1, .iconst 0, (0, 0, 0), 0)) (by decide +kernel)) (by decide) hc_z
        replace hc_z := rn_iload_n (am_cur_of (i := (77, 1, .iload_n 1, (0, 0, 0), 0)) (by decide +kernel)) g1_z hc_z
        replace hc_z := rn_iconst (w := 1) (am_cur_of (i := (78, 1, .iconst 1, (0, 0, 0), 0)) (by decide +kernel)) (by decide) hc_z
        replace hc_z := ((rn_cmp (am_cur_of (i := (79, 3, .if_icmp .ne 7, (46, 0, 0), 0)) (by decide +kernel)) hc_z).resolve_left (fun q => absurd q.1 (fun z => z.1 b10_z.1))).2
        replace hc_z := rn_iload_n (am_cur_of (i := (82, 1, .iload_n 2, (0, 0, 0), 0)) (by decide +kernel)) g2_z hc_z
        replace hc_z := rn_goto (am_cur_of (i := (83, 3, .goto 4, (47, 0, 0), 0)) (by decide +kernel)) hc_z
        replace hc_z := rn_callV (M' := am_m65) (o := 148) (ar := [.int n0_z, .int 0, .int wh]) (rest := []) (L := lv_args 0 [.ref 148, .int wh, .int 0, .int n0_z]) (am_cur_of (i := (87, 3, .invokevirtual 178, (65, 921, 3), 0)) (by decide +kernel)) rfl rfl rfl rfl hc_z
        obtain ⟨r56_z, h57_z, q58_z, hc_z⟩ := hc_z
        obtain ⟨wx, rr, x1_z, x2_z, -⟩ := wo_65_148_2 b1_z (LW_e hC (fun _ _ _ => rfl) hL) eF eS eH b3_z (by rw [b10_z.1]; decide) q58_z
        subst rr
        rw [lawX_c hC] at x1_z
        rw [ldX_c hC, lawX_c hC] at x2_z
        replace hc_z : rn _ _ _ _ [.long wx] _ _ _ := hc_z
        replace hc_z := rn_lret (am_cur_of (i := (90, 1, .lreturn, (0, 0, 0), 0)) (by decide +kernel)) hc_z
        obtain ⟨e59_z, e60_z⟩ := hc_z
        refine Or.inr ⟨by unfold lawG; omega, _, e59_z, ?_⟩
        have e := b10_z.1
        subst e
        have x := x2_z (by decide)
        rw [show (1 : Int32).toNatClampNeg = 1 by decide] at x
        unfold lawV
        rw [if_neg (by decide), if_neg (by decide)]
        exact x
  · replace b9_z : wh = (0 : Int32) ∧ wh.toInt = (0 : Int32).toInt := b9_z
    replace hc_z := rn_iload_n (am_cur_of (i := (4, 1, .iload_n 2, (0, 0, 0), 0)) (by decide +kernel)) g2_z hc_z
    replace hc_z := rn_iconst (w := 0) (am_cur_of (i := (5, 1, .iconst 0, (0, 0, 0), 0)) (by decide +kernel)) (by decide) hc_z
    replace hc_z := rn_iconst (w := 1) (am_cur_of (i := (6, 1, .iconst 1, (0, 0, 0), 0)) (by decide +kernel)) (by decide) hc_z
    replace hc_z := rn_callS (M' := am_m62) (ar := [.int 1, .int 0, .int n0_z]) (rest := []) (L := lv_args 0 [.int n0_z, .int 0, .int 1]) (am_cur_of (i := (7, 3, .invokestatic 172, (62, 908, 3), 0)) (by decide +kernel)) rfl rfl rfl rfl hc_z
    obtain ⟨r61_z, h62_z, q63_z, hc_z⟩ := hc_z
    rcases sm_62 q63_z with ⟨b64_z, rfl, y65_z⟩ | ⟨b66_z, b67_z, rfl, y68_z⟩ | ⟨b69_z, b70_z, rfl, y71_z⟩
    · replace y65_z := y65_z.symm
      subst y65_z
      replace b64_z : n0_z.toInt < (0 : Int32).toInt := b64_z
      replace hc_z : rn _ _ _ _ [.int 0] _ _ _ := hc_z
      replace hc_z := rn_ifF (am_cur_of (i := (10, 3, .ifCond .ne 24, (18, 0, 0), 0)) (by decide +kernel)) (by decide) hc_z
      replace hc_z := rn_iload_n (am_cur_of (i := (13, 1, .iload_n 1, (0, 0, 0), 0)) (by decide +kernel)) g1_z hc_z
      replace hc_z := rn_iconst (w := 1) (am_cur_of (i := (14, 1, .iconst 1, (0, 0, 0), 0)) (by decide +kernel)) (by decide) hc_z
      replace hc_z := ((rn_cmp (am_cur_of (i := (15, 3, .if_icmp .ne 14, (15, 0, 0), 0)) (by decide +kernel)) hc_z).resolve_right (fun q => absurd q.1 (fun z => absurd (b9_z.1.symm.trans z.1) (by decide)))).2
      replace hc_z := rn_iload_n (am_cur_of (i := (29, 1, .iload_n 1, (0, 0, 0), 0)) (by decide +kernel)) g1_z hc_z
      replace hc_z := rn_iconst (w := 2) (am_cur_of (i := (30, 1, .iconst 2, (0, 0, 0), 0)) (by decide +kernel)) (by decide) hc_z
      replace hc_z := ((rn_cmp (am_cur_of (i := (31, 3, .if_icmp .ne 7, (20, 0, 0), 0)) (by decide +kernel)) hc_z).resolve_right (fun q => absurd q.1 (fun z => absurd (b9_z.1.symm.trans z.1) (by decide)))).2
      replace hc_z := rn_iconst (w := 0) (am_cur_of (i := (38, 1, .iconst 0, (0, 0, 0), 0)) (by decide +kernel)) (by decide) hc_z
      replace hc_z := rn_istore_n (am_cur_of (i := (39, 1, .istore_n 3, (0, 0, 0), 0)) (by decide +kernel)) hc_z
      obtain ⟨_, s74_z, s75_z, g3_z, hc_z⟩ := hc_z
      replace g0_z := s74_z 0 _ (by decide) rfl g0_z
      replace g1_z := s74_z 1 _ (by decide) rfl g1_z
      replace g2_z := s74_z 2 _ (by decide) rfl g2_z
      clear s74_z s75_z
      replace hc_z := rn_iload_n (am_cur_of (i := (40, 1, .iload_n 3, (0, 0, 0), 0)) (by decide +kernel)) g3_z hc_z
      replace hc_z := rn_ifF (am_cur_of (i := (41, 3, .ifCond .ne 7, (26, 0, 0), 0)) (by decide +kernel)) (by decide) hc_z
      replace hc_z := rn_ldc2 (w := (-9223372036854775808)) (am_cur_of (i := (44, 3, .ldc2_w 176, (0, 0, 911), (-9223372036854775808))) (by decide +kernel)) (by decide) hc_z
      replace hc_z := rn_lret (am_cur_of (i := (47, 1, .lreturn, (0, 0, 0), 0)) (by decide +kernel)) hc_z
      obtain ⟨e76_z, e77_z⟩ := hc_z
      exact Or.inl ⟨by unfold lawG; omega, e76_z⟩
    · replace y68_z := y68_z.symm
      subst y68_z
      replace b66_z : (0 : Int32).toInt ≤ n0_z.toInt := b66_z
      replace b67_z : (1 : Int32).toInt < n0_z.toInt := b67_z
      replace hc_z : rn _ _ _ _ [.int 0] _ _ _ := hc_z
      replace hc_z := rn_ifF (am_cur_of (i := (10, 3, .ifCond .ne 24, (18, 0, 0), 0)) (by decide +kernel)) (by decide) hc_z
      replace hc_z := rn_iload_n (am_cur_of (i := (13, 1, .iload_n 1, (0, 0, 0), 0)) (by decide +kernel)) g1_z hc_z
      replace hc_z := rn_iconst (w := 1) (am_cur_of (i := (14, 1, .iconst 1, (0, 0, 0), 0)) (by decide +kernel)) (by decide) hc_z
      replace hc_z := ((rn_cmp (am_cur_of (i := (15, 3, .if_icmp .ne 14, (15, 0, 0), 0)) (by decide +kernel)) hc_z).resolve_right (fun q => absurd q.1 (fun z => absurd (b9_z.1.symm.trans z.1) (by decide)))).2
      replace hc_z := rn_iload_n (am_cur_of (i := (29, 1, .iload_n 1, (0, 0, 0), 0)) (by decide +kernel)) g1_z hc_z
      replace hc_z := rn_iconst (w := 2) (am_cur_of (i := (30, 1, .iconst 2, (0, 0, 0), 0)) (by decide +kernel)) (by decide) hc_z
      replace hc_z := ((rn_cmp (am_cur_of (i := (31, 3, .if_icmp .ne 7, (20, 0, 0), 0)) (by decide +kernel)) hc_z).resolve_right (fun q => absurd q.1 (fun z => absurd (b9_z.1.symm.trans z.1) (by decide)))).2
      replace hc_z := rn_iconst (w := 0) (am_cur_of (i := (38, 1, .iconst 0, (0, 0, 0), 0)) (by decide +kernel)) (by decide) hc_z
      replace hc_z := rn_istore_n (am_cur_of (i := (39, 1, .istore_n 3, (0, 0, 0), 0)) (by decide +kernel)) hc_z
      obtain ⟨_, s80_z, s81_z, g3_z, hc_z⟩ := hc_z
      replace g0_z := s80_z 0 _ (by decide) rfl g0_z
      replace g1_z := s80_z 1 _ (by decide) rfl g1_z
      replace g2_z := s80_z 2 _ (by decide) rfl g2_z
      clear s80_z s81_z
      replace hc_z := rn_iload_n (am_cur_of (i := (40, 1, .iload_n 3, (0, 0, 0), 0)) (by decide +kernel)) g3_z hc_z
      replace hc_z := rn_ifF (am_cur_of (i := (41, 3, .ifCond .ne 7, (26, 0, 0), 0)) (by decide +kernel)) (by decide) hc_z
      replace hc_z := rn_ldc2 (w := (-9223372036854775808)) (am_cur_of (i := (44, 3, .ldc2_w 176, (0, 0, 911), (-9223372036854775808))) (by decide +kernel)) (by decide) hc_z
      replace hc_z := rn_lret (am_cur_of (i := (47, 1, .lreturn, (0, 0, 0), 0)) (by decide +kernel)) hc_z
      obtain ⟨e82_z, e83_z⟩ := hc_z
      exact Or.inl ⟨by unfold lawG; omega, e82_z⟩
    · replace y71_z := y71_z.symm
      subst y71_z
      replace b69_z : (0 : Int32).toInt ≤ n0_z.toInt := b69_z
      replace b70_z : n0_z.toInt ≤ (1 : Int32).toInt := b70_z
      replace hc_z : rn _ _ _ _ [.int 1] _ _ _ := hc_z
      replace hc_z := rn_ifT (am_cur_of (i := (10, 3, .ifCond .ne 24, (18, 0, 0), 0)) (by decide +kernel)) (by decide) hc_z
      replace hc_z := rn_iconst (w := 1) (am_cur_of (i := (34, 1, .iconst 1, (0, 0, 0), 0)) (by decide +kernel)) (by decide) hc_z
      replace hc_z := rn_goto (am_cur_of (i := (35, 3, .goto 4, (21, 0, 0), 0)) (by decide +kernel)) hc_z
      replace hc_z := rn_istore_n (am_cur_of (i := (39, 1, .istore_n 3, (0, 0, 0), 0)) (by decide +kernel)) hc_z
      obtain ⟨_, s84_z, s85_z, g3_z, hc_z⟩ := hc_z
      replace g0_z := s84_z 0 _ (by decide) rfl g0_z
      replace g1_z := s84_z 1 _ (by decide) rfl g1_z
      replace g2_z := s84_z 2 _ (by decide) rfl g2_z
      clear s84_z s85_z
      replace hc_z := rn_iload_n (am_cur_of (i := (40, 1, .iload_n 3, (0, 0, 0), 0)) (by decide +kernel)) g3_z hc_z
      replace hc_z := rn_ifT (am_cur_of (i := (41, 3, .ifCond .ne 7, (26, 0, 0), 0)) (by decide +kernel)) (by decide) hc_z
      replace hc_z := rn_aload_n (am_cur_of (i := (48, 1, .aload_n 0, (0, 0, 0), 0)) (by decide +kernel)) g0_z hc_z
      replace hc_z := rn_getR (x := 148) (am_cur_of (i := (49, 3, .getfield 64, (0, 11, 672), 0)) (by decide +kernel)) (by decide +kernel) hc_z
      replace hc_z := rn_aload_n (am_cur_of (i := (52, 1, .aload_n 0, (0, 0, 0), 0)) (by decide +kernel)) g0_z hc_z
      replace hc_z := rn_getM (x := 2) (am_cur_of (i := (53, 3, .getfield 18, (0, 2, 663), 0)) (by decide +kernel)) D hc_z
      replace hc_z := rn_aload_n (am_cur_of (i := (56, 1, .aload_n 0, (0, 0, 0), 0)) (by decide +kernel)) g0_z hc_z
      replace hc_z := rn_getR (x := 48) (am_cur_of (i := (57, 3, .getfield 37, (0, 5, 666), 0)) (by decide +kernel)) (by decide +kernel) hc_z
      replace hc_z := rn_callV (M' := am_m63) (o := 148) (ar := [.ref 48, .ref 2]) (rest := []) (L := lv_args 0 [.ref 148, .ref 2, .ref 48]) (am_cur_of (i := (60, 3, .invokevirtual 146, (63, 912, 3), 0)) (by decide +kernel)) rfl rfl rfl rfl hc_z
      obtain ⟨r86_z, h87_z, q88_z, hc_z⟩ := hc_z
      have vo := rn_void rfl q88_z
      subst vo
      obtain ⟨b1_z, -, -, b3_z, -, bS, bf⟩ := se_63_2 q88_z
      have hC : ∀ o q, 2 + 10 ≤ o → o ≤ 2 + 14 → rg_v h87_z o q = rg_v h o q := fun o q a_ b_ => lw_v (bf o q (by omega))
      have eF : rg_v h87_z 149 0 = rg_v h 48 0 := bS 0 (by decide)
      have eS : rg_v h87_z 149 1 = rg_v h 48 1 := bS 1 (by decide)
      have eH : rg_v h87_z 2 0 = rg_v h 2 0 := lw_v (bf 2 0 (by decide))
      replace hc_z : rn _ _ _ _ [] _ _ _ := hc_z
      replace hc_z := rn_aload_n (am_cur_of (i := (63, 1, .aload_n 0, (0, 0, 0), 0)) (by decide +kernel)) g0_z hc_z
      replace hc_z := rn_getR (x := 148) (am_cur_of (i := (64, 3, .getfield 64, (0, 11, 672), 0)) (by decide +kernel)) (by decide +kernel) hc_z
      replace hc_z := rn_iload_n (am_cur_of (i := (67, 1, .iload_n 1, (0, 0, 0), 0)) (by decide +kernel)) g1_z hc_z
      replace hc_z := rn_iload_n (am_cur_of (i := (68, 1, .iload_n 1, (0, 0, 0), 0)) (by decide +kernel)) g1_z hc_z
      replace hc_z := ((rn_if (am_cur_of (i := (69, 3, .ifCond .ne 7, (40, 0, 0), 0)) (by decide +kernel)) hc_z).resolve_left (fun q => absurd q.1 (fun z => z.1 b9_z.1))).2
      replace hc_z := rn_iload_n (am_cur_of (i := (72, 1, .iload_n 2, (0, 0, 0), 0)) (by decide +kernel)) g2_z hc_z
      replace hc_z := rn_goto (am_cur_of (i := (73, 3, .goto 4, (41, 0, 0), 0)) (by decide +kernel)) hc_z
      replace hc_z := rn_iload_n (am_cur_of (i := (77, 1, .iload_n 1, (0, 0, 0), 0)) (by decide +kernel)) g1_z hc_z
      replace hc_z := rn_iconst (w := 1) (am_cur_of (i := (78, 1, .iconst 1, (0, 0, 0), 0)) (by decide +kernel)) (by decide) hc_z
      replace hc_z := ((rn_cmp (am_cur_of (i := (79, 3, .if_icmp .ne 7, (46, 0, 0), 0)) (by decide +kernel)) hc_z).resolve_right (fun q => absurd q.1 (fun z => absurd (b9_z.1.symm.trans z.1) (by decide)))).2
      replace hc_z := rn_iconst (w := 0) (am_cur_of (i := (86, 1, .iconst 0, (0, 0, 0), 0)) (by decide +kernel)) (by decide) hc_z
      replace hc_z := rn_callV (M' := am_m65) (o := 148) (ar := [.int 0, .int n0_z, .int wh]) (rest := []) (L := lv_args 0 [.ref 148, .int wh, .int n0_z, .int 0]) (am_cur_of (i := (87, 3, .invokevirtual 178, (65, 921, 3), 0)) (by decide +kernel)) rfl rfl rfl rfl hc_z
      obtain ⟨r91_z, h92_z, q93_z, hc_z⟩ := hc_z
      obtain ⟨wx, rr, x1_z, x2_z, -⟩ := wo_65_148_2 b1_z (LW_e hC (fun _ _ _ => rfl) hL) eF eS eH b3_z (by rw [b9_z.1]; decide) q93_z
      subst rr
      rw [lawX_c hC] at x1_z
      rw [ldX_c hC, lawX_c hC] at x2_z
      replace hc_z : rn _ _ _ _ [.long wx] _ _ _ := hc_z
      replace hc_z := rn_lret (am_cur_of (i := (90, 1, .lreturn, (0, 0, 0), 0)) (by decide +kernel)) hc_z
      obtain ⟨e94_z, e95_z⟩ := hc_z
      refine Or.inr ⟨by unfold lawG; omega, _, e94_z, ?_⟩
      have e := b9_z.1
      subst e
      have x := x2_z (by decide)
      rw [show (0 : Int32).toNatClampNeg = 0 by decide] at x
      unfold lawV
      rw [if_neg (by decide), if_pos rfl]
      exact x
theorem la_61_23 {n : Nat} {r : Option Value} {h g h' : am_H} {wh n0_z : Int32} (D : h 0 2 = .ref 23) (hL : LW 23 h g) (hc_z : rn n am_m61 0 (lv_args 0 [.ref 0, .int wh, .int n0_z]) [] h r h') : (¬ lawG wh n0_z ∧ r = some (.long (-9223372036854775808))) ∨ (lawG wh n0_z ∧ ∃ w : Int64, r = some (.long w) ∧ lR (lawV 23 h wh n0_z (rg_v h 48 0) (rg_v h 23 0 - rg_v h 48 0) (rg_v h 48 1)) w.toInt) := by
  have z0_z : (0 : Int32).toInt = 0 := by decide
  have z1_z : (1 : Int32).toInt = 1 := by decide
  have z2_z : (2 : Int32).toInt = 2 := by decide
  have z999_z : (999 : Int32).toInt = 999 := by decide
  have g0_z : am_get (lv_args 0 [.ref 0, .int wh, .int n0_z]) 0 = some (.ref 0) := rfl
  have g1_z : am_get (lv_args 0 [.ref 0, .int wh, .int n0_z]) 1 = some (.int wh) := rfl
  have g2_z : am_get (lv_args 0 [.ref 0, .int wh, .int n0_z]) 2 = some (.int n0_z) := rfl
  replace hc_z := rn_iload_n (am_cur_of (i := (0, 1, .iload_n 1, (0, 0, 0), 0)) (by decide +kernel)) g1_z hc_z
  replace hc_z := rn_if (am_cur_of (i := (1, 3, .ifCond .ne 12, (7, 0, 0), 0)) (by decide +kernel)) hc_z
  rcases hc_z with ⟨b96_z, hc_z⟩ | ⟨b96_z, hc_z⟩
  · replace b96_z : ¬ wh = (0 : Int32) ∧ ¬ wh.toInt = (0 : Int32).toInt := b96_z
    replace hc_z := rn_iload_n (am_cur_of (i := (13, 1, .iload_n 1, (0, 0, 0), 0)) (by decide +kernel)) g1_z hc_z
    replace hc_z := rn_iconst (w := 1) (am_cur_of (i := (14, 1, .iconst 1, (0, 0, 0), 0)) (by decide +kernel)) (by decide) hc_z
    replace hc_z := rn_cmp (am_cur_of (i := (15, 3, .if_icmp .ne 14, (15, 0, 0), 0)) (by decide +kernel)) hc_z
    rcases hc_z with ⟨b97_z, hc_z⟩ | ⟨b97_z, hc_z⟩
    · replace b97_z : ¬ wh = (1 : Int32) ∧ ¬ wh.toInt = (1 : Int32).toInt := b97_z
      replace hc_z := rn_iload_n (am_cur_of (i := (29, 1, .iload_n 1, (0, 0, 0), 0)) (by decide +kernel)) g1_z hc_z
      replace hc_z := rn_iconst (w := 2) (am_cur_of (i := (30, 1, .iconst 2, (0, 0, 0), 0)) (by decide +kernel)) (by decide) hc_z
      replace hc_z := rn_cmp (am_cur_of (i := (31, 3, .if_icmp .ne 7, (20, 0, 0), 0)) (by decide +kernel)) hc_z
      rcases hc_z with ⟨b98_z, hc_z⟩ | ⟨b98_z, hc_z⟩
      · replace b98_z : ¬ wh = (2 : Int32) ∧ ¬ wh.toInt = (2 : Int32).toInt := b98_z
        replace hc_z := rn_iconst (w := 0) (am_cur_of (i := (38, 1, .iconst 0, (0, 0, 0), 0)) (by decide +kernel)) (by decide) hc_z
        replace hc_z := rn_istore_n (am_cur_of (i := (39, 1, .istore_n 3, (0, 0, 0), 0)) (by decide +kernel)) hc_z
        obtain ⟨_, s99_z, s100_z, g3_z, hc_z⟩ := hc_z
        replace g0_z := s99_z 0 _ (by decide) rfl g0_z
        replace g1_z := s99_z 1 _ (by decide) rfl g1_z
        replace g2_z := s99_z 2 _ (by decide) rfl g2_z
        clear s99_z s100_z
        replace hc_z := rn_iload_n (am_cur_of (i := (40, 1, .iload_n 3, (0, 0, 0), 0)) (by decide +kernel)) g3_z hc_z
        replace hc_z := rn_ifF (am_cur_of (i := (41, 3, .ifCond .ne 7, (26, 0, 0), 0)) (by decide +kernel)) (by decide) hc_z
        replace hc_z := rn_ldc2 (w := (-9223372036854775808)) (am_cur_of (i := (44, 3, .ldc2_w 176, (0, 0, 911), (-9223372036854775808))) (by decide +kernel)) (by decide) hc_z
        replace hc_z := rn_lret (am_cur_of (i := (47, 1, .lreturn, (0, 0, 0), 0)) (by decide +kernel)) hc_z
        obtain ⟨e101_z, e102_z⟩ := hc_z
        exact Or.inl ⟨by unfold lawG; omega, e101_z⟩
      · replace b98_z : wh = (2 : Int32) ∧ wh.toInt = (2 : Int32).toInt := b98_z
        replace hc_z := rn_iconst (w := 1) (am_cur_of (i := (34, 1, .iconst 1, (0, 0, 0), 0)) (by decide +kernel)) (by decide) hc_z
        replace hc_z := rn_goto (am_cur_of (i := (35, 3, .goto 4, (21, 0, 0), 0)) (by decide +kernel)) hc_z
        replace hc_z := rn_istore_n (am_cur_of (i := (39, 1, .istore_n 3, (0, 0, 0), 0)) (by decide +kernel)) hc_z
        obtain ⟨_, s103_z, s104_z, g3_z, hc_z⟩ := hc_z
        replace g0_z := s103_z 0 _ (by decide) rfl g0_z
        replace g1_z := s103_z 1 _ (by decide) rfl g1_z
        replace g2_z := s103_z 2 _ (by decide) rfl g2_z
        clear s103_z s104_z
        replace hc_z := rn_iload_n (am_cur_of (i := (40, 1, .iload_n 3, (0, 0, 0), 0)) (by decide +kernel)) g3_z hc_z
        replace hc_z := rn_ifT (am_cur_of (i := (41, 3, .ifCond .ne 7, (26, 0, 0), 0)) (by decide +kernel)) (by decide) hc_z
        replace hc_z := rn_aload_n (am_cur_of (i := (48, 1, .aload_n 0, (0, 0, 0), 0)) (by decide +kernel)) g0_z hc_z
        replace hc_z := rn_getR (x := 148) (am_cur_of (i := (49, 3, .getfield 64, (0, 11, 672), 0)) (by decide +kernel)) (by decide +kernel) hc_z
        replace hc_z := rn_aload_n (am_cur_of (i := (52, 1, .aload_n 0, (0, 0, 0), 0)) (by decide +kernel)) g0_z hc_z
        replace hc_z := rn_getM (x := 23) (am_cur_of (i := (53, 3, .getfield 18, (0, 2, 663), 0)) (by decide +kernel)) D hc_z
        replace hc_z := rn_aload_n (am_cur_of (i := (56, 1, .aload_n 0, (0, 0, 0), 0)) (by decide +kernel)) g0_z hc_z
        replace hc_z := rn_getR (x := 48) (am_cur_of (i := (57, 3, .getfield 37, (0, 5, 666), 0)) (by decide +kernel)) (by decide +kernel) hc_z
        replace hc_z := rn_callV (M' := am_m63) (o := 148) (ar := [.ref 48, .ref 23]) (rest := []) (L := lv_args 0 [.ref 148, .ref 23, .ref 48]) (am_cur_of (i := (60, 3, .invokevirtual 146, (63, 912, 3), 0)) (by decide +kernel)) rfl rfl rfl rfl hc_z
        obtain ⟨r105_z, h106_z, q107_z, hc_z⟩ := hc_z
        have vo := rn_void rfl q107_z
        subst vo
        obtain ⟨b1_z, -, -, b3_z, -, bS, bf⟩ := se_63_23 q107_z
        have hC : ∀ o q, 23 + 10 ≤ o → o ≤ 23 + 14 → rg_v h106_z o q = rg_v h o q := fun o q a_ b_ => lw_v (bf o q (by omega))
        have eF : rg_v h106_z 149 0 = rg_v h 48 0 := bS 0 (by decide)
        have eS : rg_v h106_z 149 1 = rg_v h 48 1 := bS 1 (by decide)
        have eH : rg_v h106_z 23 0 = rg_v h 23 0 := lw_v (bf 23 0 (by decide))
        replace hc_z : rn _ _ _ _ [] _ _ _ := hc_z
        replace hc_z := rn_aload_n (am_cur_of (i := (63, 1, .aload_n 0, (0, 0, 0), 0)) (by decide +kernel)) g0_z hc_z
        replace hc_z := rn_getR (x := 148) (am_cur_of (i := (64, 3, .getfield 64, (0, 11, 672), 0)) (by decide +kernel)) (by decide +kernel) hc_z
        replace hc_z := rn_iload_n (am_cur_of (i := (67, 1, .iload_n 1, (0, 0, 0), 0)) (by decide +kernel)) g1_z hc_z
        replace hc_z := rn_iload_n (am_cur_of (i := (68, 1, .iload_n 1, (0, 0, 0), 0)) (by decide +kernel)) g1_z hc_z
        replace hc_z := ((rn_if (am_cur_of (i := (69, 3, .ifCond .ne 7, (40, 0, 0), 0)) (by decide +kernel)) hc_z).resolve_right (fun q => absurd q.1 (fun z => absurd (b98_z.1.symm.trans z.1) (by decide)))).2
        replace hc_z := rn_iconst (w := 0) (am_cur_of (i := (76, 1, .iconst 0, (0, 0, 0), 0)) (by decide +kernel)) (by decide) hc_z
        replace hc_z := rn_iload_n (am_cur_of (i := (77, 1, .iload_n 1, (0, 0, 0), 0)) (by decide +kernel)) g1_z hc_z
        replace hc_z := rn_iconst (w := 1) (am_cur_of (i := (78, 1, .iconst 1, (0, 0, 0), 0)) (by decide +kernel)) (by decide) hc_z
        replace hc_z := ((rn_cmp (am_cur_of (i := (79, 3, .if_icmp .ne 7, (46, 0, 0), 0)) (by decide +kernel)) hc_z).resolve_right (fun q => absurd q.1 (fun z => absurd (b98_z.1.symm.trans z.1) (by decide)))).2
        replace hc_z := rn_iconst (w := 0) (am_cur_of (i := (86, 1, .iconst 0, (0, 0, 0), 0)) (by decide +kernel)) (by decide) hc_z
        replace hc_z := rn_callV (M' := am_m65) (o := 148) (ar := [.int 0, .int 0, .int wh]) (rest := []) (L := lv_args 0 [.ref 148, .int wh, .int 0, .int 0]) (am_cur_of (i := (87, 3, .invokevirtual 178, (65, 921, 3), 0)) (by decide +kernel)) rfl rfl rfl rfl hc_z
        obtain ⟨r110_z, h111_z, q112_z, hc_z⟩ := hc_z
        obtain ⟨wx, rr, x1_z, x2_z, -⟩ := wo_65_148_23 b1_z (LW_e hC (fun _ _ _ => rfl) hL) eF eS eH b3_z (by rw [b98_z.1]; decide) q112_z
        subst rr
        rw [lawX_c hC] at x1_z
        rw [ldX_c hC, lawX_c hC] at x2_z
        replace hc_z : rn _ _ _ _ [.long wx] _ _ _ := hc_z
        replace hc_z := rn_lret (am_cur_of (i := (90, 1, .lreturn, (0, 0, 0), 0)) (by decide +kernel)) hc_z
        obtain ⟨e113_z, e114_z⟩ := hc_z
        refine Or.inr ⟨by unfold lawG; omega, _, e113_z, ?_⟩
        have e := b98_z.1
        subst e
        have x := x1_z rfl
        rw [show (2 : Int32).toNatClampNeg = 2 by decide] at x
        unfold lawV
        rw [if_pos rfl]
        exact x
    · replace b97_z : wh = (1 : Int32) ∧ wh.toInt = (1 : Int32).toInt := b97_z
      replace hc_z := rn_iload_n (am_cur_of (i := (18, 1, .iload_n 2, (0, 0, 0), 0)) (by decide +kernel)) g2_z hc_z
      replace hc_z := rn_iconst (w := 0) (am_cur_of (i := (19, 1, .iconst 0, (0, 0, 0), 0)) (by decide +kernel)) (by decide) hc_z
      replace hc_z := rn_sipush (w := 999) (am_cur_of (i := (20, 3, .sipush 999, (0, 0, 0), 0)) (by decide +kernel)) (by decide) hc_z
      replace hc_z := rn_callS (M' := am_m62) (ar := [.int 999, .int 0, .int n0_z]) (rest := []) (L := lv_args 0 [.int n0_z, .int 0, .int 999]) (am_cur_of (i := (23, 3, .invokestatic 172, (62, 908, 3), 0)) (by decide +kernel)) rfl rfl rfl rfl hc_z
      obtain ⟨r115_z, h116_z, q117_z, hc_z⟩ := hc_z
      rcases sm_62 q117_z with ⟨b118_z, rfl, y119_z⟩ | ⟨b120_z, b121_z, rfl, y122_z⟩ | ⟨b123_z, b124_z, rfl, y125_z⟩
      · replace y119_z := y119_z.symm
        subst y119_z
        replace b118_z : n0_z.toInt < (0 : Int32).toInt := b118_z
        replace hc_z : rn _ _ _ _ [.int 0] _ _ _ := hc_z
        replace hc_z := rn_ifF (am_cur_of (i := (26, 3, .ifCond .ne 8, (18, 0, 0), 0)) (by decide +kernel)) (by decide) hc_z
        replace hc_z := rn_iload_n (am_cur_of (i := (29, 1, .iload_n 1, (0, 0, 0), 0)) (by decide +kernel)) g1_z hc_z
        replace hc_z := rn_iconst (w := 2) (am_cur_of (i := (30, 1, .iconst 2, (0, 0, 0), 0)) (by decide +kernel)) (by decide) hc_z
        replace hc_z := ((rn_cmp (am_cur_of (i := (31, 3, .if_icmp .ne 7, (20, 0, 0), 0)) (by decide +kernel)) hc_z).resolve_right (fun q => absurd q.1 (fun z => absurd (b97_z.1.symm.trans z.1) (by decide)))).2
        replace hc_z := rn_iconst (w := 0) (am_cur_of (i := (38, 1, .iconst 0, (0, 0, 0), 0)) (by decide +kernel)) (by decide) hc_z
        replace hc_z := rn_istore_n (am_cur_of (i := (39, 1, .istore_n 3, (0, 0, 0), 0)) (by decide +kernel)) hc_z
        obtain ⟨_, s127_z, s128_z, g3_z, hc_z⟩ := hc_z
        replace g0_z := s127_z 0 _ (by decide) rfl g0_z
        replace g1_z := s127_z 1 _ (by decide) rfl g1_z
        replace g2_z := s127_z 2 _ (by decide) rfl g2_z
        clear s127_z s128_z
        replace hc_z := rn_iload_n (am_cur_of (i := (40, 1, .iload_n 3, (0, 0, 0), 0)) (by decide +kernel)) g3_z hc_z
        replace hc_z := rn_ifF (am_cur_of (i := (41, 3, .ifCond .ne 7, (26, 0, 0), 0)) (by decide +kernel)) (by decide) hc_z
        replace hc_z := rn_ldc2 (w := (-9223372036854775808)) (am_cur_of (i := (44, 3, .ldc2_w 176, (0, 0, 911), (-9223372036854775808))) (by decide +kernel)) (by decide) hc_z
        replace hc_z := rn_lret (am_cur_of (i := (47, 1, .lreturn, (0, 0, 0), 0)) (by decide +kernel)) hc_z
        obtain ⟨e129_z, e130_z⟩ := hc_z
        exact Or.inl ⟨by unfold lawG; omega, e129_z⟩
      · replace y122_z := y122_z.symm
        subst y122_z
        replace b120_z : (0 : Int32).toInt ≤ n0_z.toInt := b120_z
        replace b121_z : (999 : Int32).toInt < n0_z.toInt := b121_z
        replace hc_z : rn _ _ _ _ [.int 0] _ _ _ := hc_z
        replace hc_z := rn_ifF (am_cur_of (i := (26, 3, .ifCond .ne 8, (18, 0, 0), 0)) (by decide +kernel)) (by decide) hc_z
        replace hc_z := rn_iload_n (am_cur_of (i := (29, 1, .iload_n 1, (0, 0, 0), 0)) (by decide +kernel)) g1_z hc_z
        replace hc_z := rn_iconst (w := 2) (am_cur_of (i := (30, 1, .iconst 2, (0, 0, 0), 0)) (by decide +kernel)) (by decide) hc_z
        replace hc_z := ((rn_cmp (am_cur_of (i := (31, 3, .if_icmp .ne 7, (20, 0, 0), 0)) (by decide +kernel)) hc_z).resolve_right (fun q => absurd q.1 (fun z => absurd (b97_z.1.symm.trans z.1) (by decide)))).2
        replace hc_z := rn_iconst (w := 0) (am_cur_of (i := (38, 1, .iconst 0, (0, 0, 0), 0)) (by decide +kernel)) (by decide) hc_z
        replace hc_z := rn_istore_n (am_cur_of (i := (39, 1, .istore_n 3, (0, 0, 0), 0)) (by decide +kernel)) hc_z
        obtain ⟨_, s132_z, s133_z, g3_z, hc_z⟩ := hc_z
        replace g0_z := s132_z 0 _ (by decide) rfl g0_z
        replace g1_z := s132_z 1 _ (by decide) rfl g1_z
        replace g2_z := s132_z 2 _ (by decide) rfl g2_z
        clear s132_z s133_z
        replace hc_z := rn_iload_n (am_cur_of (i := (40, 1, .iload_n 3, (0, 0, 0), 0)) (by decide +kernel)) g3_z hc_z
        replace hc_z := rn_ifF (am_cur_of (i := (41, 3, .ifCond .ne 7, (26, 0, 0), 0)) (by decide +kernel)) (by decide) hc_z
        replace hc_z := rn_ldc2 (w := (-9223372036854775808)) (am_cur_of (i := (44, 3, .ldc2_w 176, (0, 0, 911), (-9223372036854775808))) (by decide +kernel)) (by decide) hc_z
        replace hc_z := rn_lret (am_cur_of (i := (47, 1, .lreturn, (0, 0, 0), 0)) (by decide +kernel)) hc_z
        obtain ⟨e134_z, e135_z⟩ := hc_z
        exact Or.inl ⟨by unfold lawG; omega, e134_z⟩
      · replace y125_z := y125_z.symm
        subst y125_z
        replace b123_z : (0 : Int32).toInt ≤ n0_z.toInt := b123_z
        replace b124_z : n0_z.toInt ≤ (999 : Int32).toInt := b124_z
        replace hc_z : rn _ _ _ _ [.int 1] _ _ _ := hc_z
        replace hc_z := rn_ifT (am_cur_of (i := (26, 3, .ifCond .ne 8, (18, 0, 0), 0)) (by decide +kernel)) (by decide) hc_z
        replace hc_z := rn_iconst (w := 1) (am_cur_of (i := (34, 1, .iconst 1, (0, 0, 0), 0)) (by decide +kernel)) (by decide) hc_z
        replace hc_z := rn_goto (am_cur_of (i := (35, 3, .goto 4, (21, 0, 0), 0)) (by decide +kernel)) hc_z
        replace hc_z := rn_istore_n (am_cur_of (i := (39, 1, .istore_n 3, (0, 0, 0), 0)) (by decide +kernel)) hc_z
        obtain ⟨_, s136_z, s137_z, g3_z, hc_z⟩ := hc_z
        replace g0_z := s136_z 0 _ (by decide) rfl g0_z
        replace g1_z := s136_z 1 _ (by decide) rfl g1_z
        replace g2_z := s136_z 2 _ (by decide) rfl g2_z
        clear s136_z s137_z
        replace hc_z := rn_iload_n (am_cur_of (i := (40, 1, .iload_n 3, (0, 0, 0), 0)) (by decide +kernel)) g3_z hc_z
        replace hc_z := rn_ifT (am_cur_of (i := (41, 3, .ifCond .ne 7, (26, 0, 0), 0)) (by decide +kernel)) (by decide) hc_z
        replace hc_z := rn_aload_n (am_cur_of (i := (48, 1, .aload_n 0, (0, 0, 0), 0)) (by decide +kernel)) g0_z hc_z
        replace hc_z := rn_getR (x := 148) (am_cur_of (i := (49, 3, .getfield 64, (0, 11, 672), 0)) (by decide +kernel)) (by decide +kernel) hc_z
        replace hc_z := rn_aload_n (am_cur_of (i := (52, 1, .aload_n 0, (0, 0, 0), 0)) (by decide +kernel)) g0_z hc_z
        replace hc_z := rn_getM (x := 23) (am_cur_of (i := (53, 3, .getfield 18, (0, 2, 663), 0)) (by decide +kernel)) D hc_z
        replace hc_z := rn_aload_n (am_cur_of (i := (56, 1, .aload_n 0, (0, 0, 0), 0)) (by decide +kernel)) g0_z hc_z
        replace hc_z := rn_getR (x := 48) (am_cur_of (i := (57, 3, .getfield 37, (0, 5, 666), 0)) (by decide +kernel)) (by decide +kernel) hc_z
        replace hc_z := rn_callV (M' := am_m63) (o := 148) (ar := [.ref 48, .ref 23]) (rest := []) (L := lv_args 0 [.ref 148, .ref 23, .ref 48]) (am_cur_of (i := (60, 3, .invokevirtual 146, (63, 912, 3), 0)) (by decide +kernel)) rfl rfl rfl rfl hc_z
        obtain ⟨r138_z, h139_z, q140_z, hc_z⟩ := hc_z
        have vo := rn_void rfl q140_z
        subst vo
        obtain ⟨b1_z, -, -, b3_z, -, bS, bf⟩ := se_63_23 q140_z
        have hC : ∀ o q, 23 + 10 ≤ o → o ≤ 23 + 14 → rg_v h139_z o q = rg_v h o q := fun o q a_ b_ => lw_v (bf o q (by omega))
        have eF : rg_v h139_z 149 0 = rg_v h 48 0 := bS 0 (by decide)
        have eS : rg_v h139_z 149 1 = rg_v h 48 1 := bS 1 (by decide)
        have eH : rg_v h139_z 23 0 = rg_v h 23 0 := lw_v (bf 23 0 (by decide))
        replace hc_z : rn _ _ _ _ [] _ _ _ := hc_z
        replace hc_z := rn_aload_n (am_cur_of (i := (63, 1, .aload_n 0, (0, 0, 0), 0)) (by decide +kernel)) g0_z hc_z
        replace hc_z := rn_getR (x := 148) (am_cur_of (i := (64, 3, .getfield 64, (0, 11, 672), 0)) (by decide +kernel)) (by decide +kernel) hc_z
        replace hc_z := rn_iload_n (am_cur_of (i := (67, 1, .iload_n 1, (0, 0, 0), 0)) (by decide +kernel)) g1_z hc_z
        replace hc_z := rn_iload_n (am_cur_of (i := (68, 1, .iload_n 1, (0, 0, 0), 0)) (by decide +kernel)) g1_z hc_z
        replace hc_z := ((rn_if (am_cur_of (i := (69, 3, .ifCond .ne 7, (40, 0, 0), 0)) (by decide +kernel)) hc_z).resolve_right (fun q => absurd q.1 (fun z => absurd (b97_z.1.symm.trans z.1) (by decide)))).2
        replace hc_z := rn_iconst (w := 0) (am_cur_of (i := (76, 1, .iconst 0, (0, 0, 0), 0)) (by decide +kernel)) (by decide) hc_z
        replace hc_z := rn_iload_n (am_cur_of (i := (77, 1, .iload_n 1, (0, 0, 0), 0)) (by decide +kernel)) g1_z hc_z
        replace hc_z := rn_iconst (w := 1) (am_cur_of (i := (78, 1, .iconst 1, (0, 0, 0), 0)) (by decide +kernel)) (by decide) hc_z
        replace hc_z := ((rn_cmp (am_cur_of (i := (79, 3, .if_icmp .ne 7, (46, 0, 0), 0)) (by decide +kernel)) hc_z).resolve_left (fun q => absurd q.1 (fun z => z.1 b97_z.1))).2
        replace hc_z := rn_iload_n (am_cur_of (i := (82, 1, .iload_n 2, (0, 0, 0), 0)) (by decide +kernel)) g2_z hc_z
        replace hc_z := rn_goto (am_cur_of (i := (83, 3, .goto 4, (47, 0, 0), 0)) (by decide +kernel)) hc_z
        replace hc_z := rn_callV (M' := am_m65) (o := 148) (ar := [.int n0_z, .int 0, .int wh]) (rest := []) (L := lv_args 0 [.ref 148, .int wh, .int 0, .int n0_z]) (am_cur_of (i := (87, 3, .invokevirtual 178, (65, 921, 3), 0)) (by decide +kernel)) rfl rfl rfl rfl hc_z
        obtain ⟨r143_z, h144_z, q145_z, hc_z⟩ := hc_z
        obtain ⟨wx, rr, x1_z, x2_z, -⟩ := wo_65_148_23 b1_z (LW_e hC (fun _ _ _ => rfl) hL) eF eS eH b3_z (by rw [b97_z.1]; decide) q145_z
        subst rr
        rw [lawX_c hC] at x1_z
        rw [ldX_c hC, lawX_c hC] at x2_z
        replace hc_z : rn _ _ _ _ [.long wx] _ _ _ := hc_z
        replace hc_z := rn_lret (am_cur_of (i := (90, 1, .lreturn, (0, 0, 0), 0)) (by decide +kernel)) hc_z
        obtain ⟨e146_z, e147_z⟩ := hc_z
        refine Or.inr ⟨by unfold lawG; omega, _, e146_z, ?_⟩
        have e := b97_z.1
        subst e
        have x := x2_z (by decide)
        rw [show (1 : Int32).toNatClampNeg = 1 by decide] at x
        unfold lawV
        rw [if_neg (by decide), if_neg (by decide)]
        exact x
  · replace b96_z : wh = (0 : Int32) ∧ wh.toInt = (0 : Int32).toInt := b96_z
    replace hc_z := rn_iload_n (am_cur_of (i := (4, 1, .iload_n 2, (0, 0, 0), 0)) (by decide +kernel)) g2_z hc_z
    replace hc_z := rn_iconst (w := 0) (am_cur_of (i := (5, 1, .iconst 0, (0, 0, 0), 0)) (by decide +kernel)) (by decide) hc_z
    replace hc_z := rn_iconst (w := 1) (am_cur_of (i := (6, 1, .iconst 1, (0, 0, 0), 0)) (by decide +kernel)) (by decide) hc_z
    replace hc_z := rn_callS (M' := am_m62) (ar := [.int 1, .int 0, .int n0_z]) (rest := []) (L := lv_args 0 [.int n0_z, .int 0, .int 1]) (am_cur_of (i := (7, 3, .invokestatic 172, (62, 908, 3), 0)) (by decide +kernel)) rfl rfl rfl rfl hc_z
    obtain ⟨r148_z, h149_z, q150_z, hc_z⟩ := hc_z
    rcases sm_62 q150_z with ⟨b151_z, rfl, y152_z⟩ | ⟨b153_z, b154_z, rfl, y155_z⟩ | ⟨b156_z, b157_z, rfl, y158_z⟩
    · replace y152_z := y152_z.symm
      subst y152_z
      replace b151_z : n0_z.toInt < (0 : Int32).toInt := b151_z
      replace hc_z : rn _ _ _ _ [.int 0] _ _ _ := hc_z
      replace hc_z := rn_ifF (am_cur_of (i := (10, 3, .ifCond .ne 24, (18, 0, 0), 0)) (by decide +kernel)) (by decide) hc_z
      replace hc_z := rn_iload_n (am_cur_of (i := (13, 1, .iload_n 1, (0, 0, 0), 0)) (by decide +kernel)) g1_z hc_z
      replace hc_z := rn_iconst (w := 1) (am_cur_of (i := (14, 1, .iconst 1, (0, 0, 0), 0)) (by decide +kernel)) (by decide) hc_z
      replace hc_z := ((rn_cmp (am_cur_of (i := (15, 3, .if_icmp .ne 14, (15, 0, 0), 0)) (by decide +kernel)) hc_z).resolve_right (fun q => absurd q.1 (fun z => absurd (b96_z.1.symm.trans z.1) (by decide)))).2
      replace hc_z := rn_iload_n (am_cur_of (i := (29, 1, .iload_n 1, (0, 0, 0), 0)) (by decide +kernel)) g1_z hc_z
      replace hc_z := rn_iconst (w := 2) (am_cur_of (i := (30, 1, .iconst 2, (0, 0, 0), 0)) (by decide +kernel)) (by decide) hc_z
      replace hc_z := ((rn_cmp (am_cur_of (i := (31, 3, .if_icmp .ne 7, (20, 0, 0), 0)) (by decide +kernel)) hc_z).resolve_right (fun q => absurd q.1 (fun z => absurd (b96_z.1.symm.trans z.1) (by decide)))).2
      replace hc_z := rn_iconst (w := 0) (am_cur_of (i := (38, 1, .iconst 0, (0, 0, 0), 0)) (by decide +kernel)) (by decide) hc_z
      replace hc_z := rn_istore_n (am_cur_of (i := (39, 1, .istore_n 3, (0, 0, 0), 0)) (by decide +kernel)) hc_z
      obtain ⟨_, s161_z, s162_z, g3_z, hc_z⟩ := hc_z
      replace g0_z := s161_z 0 _ (by decide) rfl g0_z
      replace g1_z := s161_z 1 _ (by decide) rfl g1_z
      replace g2_z := s161_z 2 _ (by decide) rfl g2_z
      clear s161_z s162_z
      replace hc_z := rn_iload_n (am_cur_of (i := (40, 1, .iload_n 3, (0, 0, 0), 0)) (by decide +kernel)) g3_z hc_z
      replace hc_z := rn_ifF (am_cur_of (i := (41, 3, .ifCond .ne 7, (26, 0, 0), 0)) (by decide +kernel)) (by decide) hc_z
      replace hc_z := rn_ldc2 (w := (-9223372036854775808)) (am_cur_of (i := (44, 3, .ldc2_w 176, (0, 0, 911), (-9223372036854775808))) (by decide +kernel)) (by decide) hc_z
      replace hc_z := rn_lret (am_cur_of (i := (47, 1, .lreturn, (0, 0, 0), 0)) (by decide +kernel)) hc_z
      obtain ⟨e163_z, e164_z⟩ := hc_z
      exact Or.inl ⟨by unfold lawG; omega, e163_z⟩
    · replace y155_z := y155_z.symm
      subst y155_z
      replace b153_z : (0 : Int32).toInt ≤ n0_z.toInt := b153_z
      replace b154_z : (1 : Int32).toInt < n0_z.toInt := b154_z
      replace hc_z : rn _ _ _ _ [.int 0] _ _ _ := hc_z
      replace hc_z := rn_ifF (am_cur_of (i := (10, 3, .ifCond .ne 24, (18, 0, 0), 0)) (by decide +kernel)) (by decide) hc_z
      replace hc_z := rn_iload_n (am_cur_of (i := (13, 1, .iload_n 1, (0, 0, 0), 0)) (by decide +kernel)) g1_z hc_z
      replace hc_z := rn_iconst (w := 1) (am_cur_of (i := (14, 1, .iconst 1, (0, 0, 0), 0)) (by decide +kernel)) (by decide) hc_z
      replace hc_z := ((rn_cmp (am_cur_of (i := (15, 3, .if_icmp .ne 14, (15, 0, 0), 0)) (by decide +kernel)) hc_z).resolve_right (fun q => absurd q.1 (fun z => absurd (b96_z.1.symm.trans z.1) (by decide)))).2
      replace hc_z := rn_iload_n (am_cur_of (i := (29, 1, .iload_n 1, (0, 0, 0), 0)) (by decide +kernel)) g1_z hc_z
      replace hc_z := rn_iconst (w := 2) (am_cur_of (i := (30, 1, .iconst 2, (0, 0, 0), 0)) (by decide +kernel)) (by decide) hc_z
      replace hc_z := ((rn_cmp (am_cur_of (i := (31, 3, .if_icmp .ne 7, (20, 0, 0), 0)) (by decide +kernel)) hc_z).resolve_right (fun q => absurd q.1 (fun z => absurd (b96_z.1.symm.trans z.1) (by decide)))).2
      replace hc_z := rn_iconst (w := 0) (am_cur_of (i := (38, 1, .iconst 0, (0, 0, 0), 0)) (by decide +kernel)) (by decide) hc_z
      replace hc_z := rn_istore_n (am_cur_of (i := (39, 1, .istore_n 3, (0, 0, 0), 0)) (by decide +kernel)) hc_z
      obtain ⟨_, s167_z, s168_z, g3_z, hc_z⟩ := hc_z
      replace g0_z := s167_z 0 _ (by decide) rfl g0_z
      replace g1_z := s167_z 1 _ (by decide) rfl g1_z
      replace g2_z := s167_z 2 _ (by decide) rfl g2_z
      clear s167_z s168_z
      replace hc_z := rn_iload_n (am_cur_of (i := (40, 1, .iload_n 3, (0, 0, 0), 0)) (by decide +kernel)) g3_z hc_z
      replace hc_z := rn_ifF (am_cur_of (i := (41, 3, .ifCond .ne 7, (26, 0, 0), 0)) (by decide +kernel)) (by decide) hc_z
      replace hc_z := rn_ldc2 (w := (-9223372036854775808)) (am_cur_of (i := (44, 3, .ldc2_w 176, (0, 0, 911), (-9223372036854775808))) (by decide +kernel)) (by decide) hc_z
      replace hc_z := rn_lret (am_cur_of (i := (47, 1, .lreturn, (0, 0, 0), 0)) (by decide +kernel)) hc_z
      obtain ⟨e169_z, e170_z⟩ := hc_z
      exact Or.inl ⟨by unfold lawG; omega, e169_z⟩
    · replace y158_z := y158_z.symm
      subst y158_z
      replace b156_z : (0 : Int32).toInt ≤ n0_z.toInt := b156_z
      replace b157_z : n0_z.toInt ≤ (1 : Int32).toInt := b157_z
      replace hc_z : rn _ _ _ _ [.int 1] _ _ _ := hc_z
      replace hc_z := rn_ifT (am_cur_of (i := (10, 3, .ifCond .ne 24, (18, 0, 0), 0)) (by decide +kernel)) (by decide) hc_z
      replace hc_z := rn_iconst (w := 1) (am_cur_of (i := (34, 1, .iconst 1, (0, 0, 0), 0)) (by decide +kernel)) (by decide) hc_z
      replace hc_z := rn_goto (am_cur_of (i := (35, 3, .goto 4, (21, 0, 0), 0)) (by decide +kernel)) hc_z
      replace hc_z := rn_istore_n (am_cur_of (i := (39, 1, .istore_n 3, (0, 0, 0), 0)) (by decide +kernel)) hc_z
      obtain ⟨_, s171_z, s172_z, g3_z, hc_z⟩ := hc_z
      replace g0_z := s171_z 0 _ (by decide) rfl g0_z
      replace g1_z := s171_z 1 _ (by decide) rfl g1_z
      replace g2_z := s171_z 2 _ (by decide) rfl g2_z
      clear s171_z s172_z
      replace hc_z := rn_iload_n (am_cur_of (i := (40, 1, .iload_n 3, (0, 0, 0), 0)) (by decide +kernel)) g3_z hc_z
      replace hc_z := rn_ifT (am_cur_of (i := (41, 3, .ifCond .ne 7, (26, 0, 0), 0)) (by decide +kernel)) (by decide) hc_z
      replace hc_z := rn_aload_n (am_cur_of (i := (48, 1, .aload_n 0, (0, 0, 0), 0)) (by decide +kernel)) g0_z hc_z
      replace hc_z := rn_getR (x := 148) (am_cur_of (i := (49, 3, .getfield 64, (0, 11, 672), 0)) (by decide +kernel)) (by decide +kernel) hc_z
      replace hc_z := rn_aload_n (am_cur_of (i := (52, 1, .aload_n 0, (0, 0, 0), 0)) (by decide +kernel)) g0_z hc_z
      replace hc_z := rn_getM (x := 23) (am_cur_of (i := (53, 3, .getfield 18, (0, 2, 663), 0)) (by decide +kernel)) D hc_z
      replace hc_z := rn_aload_n (am_cur_of (i := (56, 1, .aload_n 0, (0, 0, 0), 0)) (by decide +kernel)) g0_z hc_z
      replace hc_z := rn_getR (x := 48) (am_cur_of (i := (57, 3, .getfield 37, (0, 5, 666), 0)) (by decide +kernel)) (by decide +kernel) hc_z
      replace hc_z := rn_callV (M' := am_m63) (o := 148) (ar := [.ref 48, .ref 23]) (rest := []) (L := lv_args 0 [.ref 148, .ref 23, .ref 48]) (am_cur_of (i := (60, 3, .invokevirtual 146, (63, 912, 3), 0)) (by decide +kernel)) rfl rfl rfl rfl hc_z
      obtain ⟨r173_z, h174_z, q175_z, hc_z⟩ := hc_z
      have vo := rn_void rfl q175_z
      subst vo
      obtain ⟨b1_z, -, -, b3_z, -, bS, bf⟩ := se_63_23 q175_z
      have hC : ∀ o q, 23 + 10 ≤ o → o ≤ 23 + 14 → rg_v h174_z o q = rg_v h o q := fun o q a_ b_ => lw_v (bf o q (by omega))
      have eF : rg_v h174_z 149 0 = rg_v h 48 0 := bS 0 (by decide)
      have eS : rg_v h174_z 149 1 = rg_v h 48 1 := bS 1 (by decide)
      have eH : rg_v h174_z 23 0 = rg_v h 23 0 := lw_v (bf 23 0 (by decide))
      replace hc_z : rn _ _ _ _ [] _ _ _ := hc_z
      replace hc_z := rn_aload_n (am_cur_of (i := (63, 1, .aload_n 0, (0, 0, 0), 0)) (by decide +kernel)) g0_z hc_z
      replace hc_z := rn_getR (x := 148) (am_cur_of (i := (64, 3, .getfield 64, (0, 11, 672), 0)) (by decide +kernel)) (by decide +kernel) hc_z
      replace hc_z := rn_iload_n (am_cur_of (i := (67, 1, .iload_n 1, (0, 0, 0), 0)) (by decide +kernel)) g1_z hc_z
      replace hc_z := rn_iload_n (am_cur_of (i := (68, 1, .iload_n 1, (0, 0, 0), 0)) (by decide +kernel)) g1_z hc_z
      replace hc_z := ((rn_if (am_cur_of (i := (69, 3, .ifCond .ne 7, (40, 0, 0), 0)) (by decide +kernel)) hc_z).resolve_left (fun q => absurd q.1 (fun z => z.1 b96_z.1))).2
      replace hc_z := rn_iload_n (am_cur_of (i := (72, 1, .iload_n 2, (0, 0, 0), 0)) (by decide +kernel)) g2_z hc_z
      replace hc_z := rn_goto (am_cur_of (i := (73, 3, .goto 4, (41, 0, 0), 0)) (by decide +kernel)) hc_z
      replace hc_z := rn_iload_n (am_cur_of (i := (77, 1, .iload_n 1, (0, 0, 0), 0)) (by decide +kernel)) g1_z hc_z
      replace hc_z := rn_iconst (w := 1) (am_cur_of (i := (78, 1, .iconst 1, (0, 0, 0), 0)) (by decide +kernel)) (by decide) hc_z
      replace hc_z := ((rn_cmp (am_cur_of (i := (79, 3, .if_icmp .ne 7, (46, 0, 0), 0)) (by decide +kernel)) hc_z).resolve_right (fun q => absurd q.1 (fun z => absurd (b96_z.1.symm.trans z.1) (by decide)))).2
      replace hc_z := rn_iconst (w := 0) (am_cur_of (i := (86, 1, .iconst 0, (0, 0, 0), 0)) (by decide +kernel)) (by decide) hc_z
      replace hc_z := rn_callV (M' := am_m65) (o := 148) (ar := [.int 0, .int n0_z, .int wh]) (rest := []) (L := lv_args 0 [.ref 148, .int wh, .int n0_z, .int 0]) (am_cur_of (i := (87, 3, .invokevirtual 178, (65, 921, 3), 0)) (by decide +kernel)) rfl rfl rfl rfl hc_z
      obtain ⟨r178_z, h179_z, q180_z, hc_z⟩ := hc_z
      obtain ⟨wx, rr, x1_z, x2_z, -⟩ := wo_65_148_23 b1_z (LW_e hC (fun _ _ _ => rfl) hL) eF eS eH b3_z (by rw [b96_z.1]; decide) q180_z
      subst rr
      rw [lawX_c hC] at x1_z
      rw [ldX_c hC, lawX_c hC] at x2_z
      replace hc_z : rn _ _ _ _ [.long wx] _ _ _ := hc_z
      replace hc_z := rn_lret (am_cur_of (i := (90, 1, .lreturn, (0, 0, 0), 0)) (by decide +kernel)) hc_z
      obtain ⟨e181_z, e182_z⟩ := hc_z
      refine Or.inr ⟨by unfold lawG; omega, _, e181_z, ?_⟩
      have e := b96_z.1
      subst e
      have x := x2_z (by decide)
      rw [show (0 : Int32).toNatClampNeg = 0 by decide] at x
      unfold lawV
      rw [if_neg (by decide), if_pos rfl]
      exact x
theorem sm_162 {n : Nat} {h h' : am_H} {r : Option Value} {x : Int32} {y : Int32} {z : Int32}  (hc_z : rn n am_m162 0 (lv_args 0 [.int x, .int y, .int z]) [] h r h') : ((x.toInt < y.toInt) ∧ r = some (.int 0) ∧ h' = h) ∨ ((y.toInt ≤ x.toInt) ∧ (z.toInt < x.toInt) ∧ r = some (.int 0) ∧ h' = h) ∨ ((y.toInt ≤ x.toInt) ∧ (x.toInt ≤ z.toInt) ∧ r = some (.int 1) ∧ h' = h) := by
  have g0_z : am_get (lv_args 0 [.int x, .int y, .int z]) 0 = some (.int x) := rfl
  have g1_z : am_get (lv_args 0 [.int x, .int y, .int z]) 1 = some (.int y) := rfl
  have g2_z : am_get (lv_args 0 [.int x, .int y, .int z]) 2 = some (.int z) := rfl
  replace hc_z := rn_iload_n (am_cur_of (i := (0, 1, .iload_n 0, (0, 0, 0), 0)) (by decide +kernel)) g0_z hc_z
  replace hc_z := rn_iload_n (am_cur_of (i := (1, 1, .iload_n 1, (0, 0, 0), 0)) (by decide +kernel)) g1_z hc_z
  replace hc_z := rn_cmp (am_cur_of (i := (2, 3, .if_icmp .lt 12, (8, 0, 0), 0)) (by decide +kernel)) hc_z
  rcases hc_z with ⟨b183_z, hc_z⟩ | ⟨b183_z, hc_z⟩
  · replace b183_z : x.toInt < y.toInt := b183_z
    replace hc_z := rn_iconst (w := 0) (am_cur_of (i := (14, 1, .iconst 0, (0, 0, 0), 0)) (by decide +kernel)) (by decide) hc_z
    replace hc_z := rn_iret (am_cur_of (i := (15, 1, .ireturn, (0, 0, 0), 0)) (by decide +kernel)) hc_z
    obtain ⟨e184_z, e185_z⟩ := hc_z
    exact Or.inl ⟨b183_z, e184_z, e185_z⟩
  · replace b183_z : y.toInt ≤ x.toInt := b183_z
    replace hc_z := rn_iload_n (am_cur_of (i := (5, 1, .iload_n 0, (0, 0, 0), 0)) (by decide +kernel)) g0_z hc_z
    replace hc_z := rn_iload_n (am_cur_of (i := (6, 1, .iload_n 2, (0, 0, 0), 0)) (by decide +kernel)) g2_z hc_z
    replace hc_z := rn_cmp (am_cur_of (i := (7, 3, .if_icmp .gt 7, (8, 0, 0), 0)) (by decide +kernel)) hc_z
    rcases hc_z with ⟨b186_z, hc_z⟩ | ⟨b186_z, hc_z⟩
    · replace b186_z : z.toInt < x.toInt := b186_z
      replace hc_z := rn_iconst (w := 0) (am_cur_of (i := (14, 1, .iconst 0, (0, 0, 0), 0)) (by decide +kernel)) (by decide) hc_z
      replace hc_z := rn_iret (am_cur_of (i := (15, 1, .ireturn, (0, 0, 0), 0)) (by decide +kernel)) hc_z
      obtain ⟨e187_z, e188_z⟩ := hc_z
      exact Or.inr (Or.inl ⟨b183_z, b186_z, e187_z, e188_z⟩)
    · replace b186_z : x.toInt ≤ z.toInt := b186_z
      replace hc_z := rn_iconst (w := 1) (am_cur_of (i := (10, 1, .iconst 1, (0, 0, 0), 0)) (by decide +kernel)) (by decide) hc_z
      replace hc_z := rn_goto (am_cur_of (i := (11, 3, .goto 4, (9, 0, 0), 0)) (by decide +kernel)) hc_z
      replace hc_z := rn_iret (am_cur_of (i := (15, 1, .ireturn, (0, 0, 0), 0)) (by decide +kernel)) hc_z
      obtain ⟨e189_z, e190_z⟩ := hc_z
      exact Or.inr (Or.inr (⟨b183_z, b186_z, e189_z, e190_z⟩))
theorem lm_187_0 {n p : Nat} {r : Option Value} {h0_z g g' : am_H} {n0_z : Int32} (hL : LW p h0_z g) (eU : rg_v g 164 61 = 0) (hm_z : rn n am_m187 0 (lv_args 0 [.ref 164, .int 0, .int n0_z]) [] g r g') : (¬ lawG 0 n0_z ∧ r = some (.long (-9223372036854775808))) ∨ (lawG 0 n0_z ∧ ∃ w : Int64, r = some (.long w) ∧ lR (lawV p h0_z 0 n0_z (rg_v g 188 0) (rg_v g 168 0 - rg_v g 188 0) (rg_v g 189 0)) w.toInt) := by
  have z0_z : (0 : Int32).toInt = 0 := by decide
  have z1_z : (1 : Int32).toInt = 1 := by decide
  have z2_z : (2 : Int32).toInt = 2 := by decide
  have z999_z : (999 : Int32).toInt = 999 := by decide
  have n0e : (0 : Int32).toNatClampNeg = 0 := by decide
  have kw : (0 : Int32).toNatClampNeg = 0 := by decide
  have g0_z : am_get (lv_args 0 [.ref 164, .int 0, .int n0_z]) 0 = some (.ref 164) := rfl
  have g1_z : am_get (lv_args 0 [.ref 164, .int 0, .int n0_z]) 1 = some (.int 0) := rfl
  have g2_z : am_get (lv_args 0 [.ref 164, .int 0, .int n0_z]) 2 = some (.int n0_z) := rfl
  replace hm_z := rn_aload_n (am_cur_of (i := (0, 1, .aload_n 0, (0, 0, 0), 0)) (by decide +kernel)) g0_z hm_z
  replace hm_z := rn_iconst (w := 0) (am_cur_of (i := (1, 1, .iconst 0, (0, 0, 0), 0)) (by decide +kernel)) (by decide) hm_z
  replace hm_z := rn_put (am_cur_of (i := (2, 3, .putfield 139, (12, 2, 1386), 0)) (by decide +kernel)) (by decide +kernel) hm_z
  replace hm_z := rn_iload_n (am_cur_of (i := (5, 1, .iload_n 1, (0, 0, 0), 0)) (by decide +kernel)) g1_z hm_z
  replace hm_z := rn_iconst (w := 0) (am_cur_of (i := (6, 1, .iconst 0, (0, 0, 0), 0)) (by decide +kernel)) (by decide) hm_z
  replace hm_z := rn_iconst (w := 2) (am_cur_of (i := (7, 1, .iconst 2, (0, 0, 0), 0)) (by decide +kernel)) (by decide) hm_z
  replace hm_z := rn_callS (M' := am_m162) (ar := [.int 2, .int 0, .int 0]) (rest := []) (L := lv_args 0 [.int 0, .int 0, .int 2]) (am_cur_of (i := (8, 3, .invokestatic 184, (162, 1681, 3), 0)) (by decide +kernel)) rfl rfl rfl rfl hm_z
  obtain ⟨r191_z, h192_z, q193_z, hm_z⟩ := hm_z
  rcases sm_162 q193_z with ⟨b194_z, rfl, y195_z⟩ | ⟨b196_z, b197_z, rfl, y198_z⟩ | ⟨b199_z, b200_z, rfl, y201_z⟩
  · replace y195_z := y195_z.symm
    subst y195_z
    replace b194_z : (0 : Int32).toInt < (0 : Int32).toInt := b194_z
    replace hm_z : rn _ _ _ _ [.int 0] _ _ _ := hm_z
    replace hm_z := rn_ifT (am_cur_of (i := (11, 3, .ifCond .eq 32, (23, 0, 0), 0)) (by decide +kernel)) (by decide) hm_z
    replace hm_z := rn_ldc2 (w := (-9223372036854775808)) (am_cur_of (i := (43, 3, .ldc2_w 426, (0, 0, 1782), (-9223372036854775808))) (by decide +kernel)) (by decide) hm_z
    replace hm_z := rn_lret (am_cur_of (i := (46, 1, .lreturn, (0, 0, 0), 0)) (by decide +kernel)) hm_z
    obtain ⟨e202_z, e203_z⟩ := hm_z
    exact Or.inl ⟨by unfold lawG; omega, e202_z⟩
  · replace y198_z := y198_z.symm
    subst y198_z
    replace b196_z : (0 : Int32).toInt ≤ (0 : Int32).toInt := b196_z
    replace b197_z : (2 : Int32).toInt < (0 : Int32).toInt := b197_z
    replace hm_z : rn _ _ _ _ [.int 0] _ _ _ := hm_z
    replace hm_z := rn_ifT (am_cur_of (i := (11, 3, .ifCond .eq 32, (23, 0, 0), 0)) (by decide +kernel)) (by decide) hm_z
    replace hm_z := rn_ldc2 (w := (-9223372036854775808)) (am_cur_of (i := (43, 3, .ldc2_w 426, (0, 0, 1782), (-9223372036854775808))) (by decide +kernel)) (by decide) hm_z
    replace hm_z := rn_lret (am_cur_of (i := (46, 1, .lreturn, (0, 0, 0), 0)) (by decide +kernel)) hm_z
    obtain ⟨e204_z, e205_z⟩ := hm_z
    exact Or.inl ⟨by unfold lawG; omega, e204_z⟩
  · replace y201_z := y201_z.symm
    subst y201_z
    replace b199_z : (0 : Int32).toInt ≤ (0 : Int32).toInt := b199_z
    replace b200_z : (0 : Int32).toInt ≤ (2 : Int32).toInt := b200_z
    replace hm_z : rn _ _ _ _ [.int 1] _ _ _ := hm_z
    replace hm_z := rn_ifF (am_cur_of (i := (11, 3, .ifCond .eq 32, (23, 0, 0), 0)) (by decide +kernel)) (by decide) hm_z
    replace hm_z := rn_iload_n (am_cur_of (i := (14, 1, .iload_n 1, (0, 0, 0), 0)) (by decide +kernel)) g1_z hm_z
    replace hm_z := rn_ifF (am_cur_of (i := (15, 3, .ifCond .ne 12, (15, 0, 0), 0)) (by decide +kernel)) (by decide) hm_z
    replace hm_z := rn_iload_n (am_cur_of (i := (18, 1, .iload_n 2, (0, 0, 0), 0)) (by decide +kernel)) g2_z hm_z
    replace hm_z := rn_iconst (w := 0) (am_cur_of (i := (19, 1, .iconst 0, (0, 0, 0), 0)) (by decide +kernel)) (by decide) hm_z
    replace hm_z := rn_iconst (w := 1) (am_cur_of (i := (20, 1, .iconst 1, (0, 0, 0), 0)) (by decide +kernel)) (by decide) hm_z
    replace hm_z := rn_callS (M' := am_m162) (ar := [.int 1, .int 0, .int n0_z]) (rest := []) (L := lv_args 0 [.int n0_z, .int 0, .int 1]) (am_cur_of (i := (21, 3, .invokestatic 184, (162, 1681, 3), 0)) (by decide +kernel)) rfl rfl rfl rfl hm_z
    obtain ⟨r206_z, h207_z, q208_z, hm_z⟩ := hm_z
    rcases sm_162 q208_z with ⟨b209_z, rfl, y210_z⟩ | ⟨b211_z, b212_z, rfl, y213_z⟩ | ⟨b214_z, b215_z, rfl, y216_z⟩
    · replace y210_z := y210_z.symm
      subst y210_z
      replace b209_z : n0_z.toInt < (0 : Int32).toInt := b209_z
      replace hm_z : rn _ _ _ _ [.int 0] _ _ _ := hm_z
      replace hm_z := rn_ifT (am_cur_of (i := (24, 3, .ifCond .eq 19, (23, 0, 0), 0)) (by decide +kernel)) (by decide) hm_z
      replace hm_z := rn_ldc2 (w := (-9223372036854775808)) (am_cur_of (i := (43, 3, .ldc2_w 426, (0, 0, 1782), (-9223372036854775808))) (by decide +kernel)) (by decide) hm_z
      replace hm_z := rn_lret (am_cur_of (i := (46, 1, .lreturn, (0, 0, 0), 0)) (by decide +kernel)) hm_z
      obtain ⟨e217_z, e218_z⟩ := hm_z
      exact Or.inl ⟨by unfold lawG; omega, e217_z⟩
    · replace y213_z := y213_z.symm
      subst y213_z
      replace b211_z : (0 : Int32).toInt ≤ n0_z.toInt := b211_z
      replace b212_z : (1 : Int32).toInt < n0_z.toInt := b212_z
      replace hm_z : rn _ _ _ _ [.int 0] _ _ _ := hm_z
      replace hm_z := rn_ifT (am_cur_of (i := (24, 3, .ifCond .eq 19, (23, 0, 0), 0)) (by decide +kernel)) (by decide) hm_z
      replace hm_z := rn_ldc2 (w := (-9223372036854775808)) (am_cur_of (i := (43, 3, .ldc2_w 426, (0, 0, 1782), (-9223372036854775808))) (by decide +kernel)) (by decide) hm_z
      replace hm_z := rn_lret (am_cur_of (i := (46, 1, .lreturn, (0, 0, 0), 0)) (by decide +kernel)) hm_z
      obtain ⟨e219_z, e220_z⟩ := hm_z
      exact Or.inl ⟨by unfold lawG; omega, e219_z⟩
    · replace y216_z := y216_z.symm
      subst y216_z
      replace b214_z : (0 : Int32).toInt ≤ n0_z.toInt := b214_z
      replace b215_z : n0_z.toInt ≤ (1 : Int32).toInt := b215_z
      replace hm_z : rn _ _ _ _ [.int 1] _ _ _ := hm_z
      replace hm_z := rn_ifF (am_cur_of (i := (24, 3, .ifCond .eq 19, (23, 0, 0), 0)) (by decide +kernel)) (by decide) hm_z
      replace hm_z := rn_iload_n (am_cur_of (i := (27, 1, .iload_n 1, (0, 0, 0), 0)) (by decide +kernel)) g1_z hm_z
      replace hm_z := rn_iconst (w := 1) (am_cur_of (i := (28, 1, .iconst 1, (0, 0, 0), 0)) (by decide +kernel)) (by decide) hm_z
      replace hm_z := rn_cmpT (am_cur_of (i := (29, 3, .if_icmp .ne 18, (25, 0, 0), 0)) (by decide +kernel)) (by decide) hm_z
      replace hm_z := rn_iload_n (am_cur_of (i := (47, 1, .iload_n 1, (0, 0, 0), 0)) (by decide +kernel)) g1_z hm_z
      replace hm_z := rn_istore_n (am_cur_of (i := (48, 1, .istore_n 3, (0, 0, 0), 0)) (by decide +kernel)) hm_z
      obtain ⟨_, s221_z, s222_z, g3_z, hm_z⟩ := hm_z
      replace g0_z := s221_z 0 _ (by decide) rfl g0_z
      replace g1_z := s221_z 1 _ (by decide) rfl g1_z
      replace g2_z := s221_z 2 _ (by decide) rfl g2_z
      clear s221_z s222_z
      replace hm_z := rn_aload_n (am_cur_of (i := (49, 1, .aload_n 0, (0, 0, 0), 0)) (by decide +kernel)) g0_z hm_z
      replace hm_z := rn_getR (x := 178) (am_cur_of (i := (50, 3, .getfield 54, (12, 33, 1417), 0)) (by decide +kernel)) (by decide +kernel) hm_z
      replace hm_z := rn_iload_n (am_cur_of (i := (53, 1, .iload_n 3, (0, 0, 0), 0)) (by decide +kernel)) g3_z hm_z
      replace hm_z := rn_baload (N := 6) (q := 0) (v := rg_v g 178 0) (am_cur_of (i := (54, 1, .baload, (0, 0, 0), 0)) (by decide +kernel)) (by decide +kernel) rfl ((rg_v_other (by omega)).trans (rfl)) hm_z
      obtain ⟨p223_z, hm_z⟩ := hm_z
      replace hm_z := rn_if (am_cur_of (i := (55, 3, .ifCond .ne 7, (34, 0, 0), 0)) (by decide +kernel)) hm_z
      rcases hm_z with ⟨b224_z, hm_z⟩ | ⟨b224_z, hm_z⟩
      · replace b224_z : ¬ (rg_v g 178 0) = (0 : Int32) ∧ ¬ (rg_v g 178 0).toInt = (0 : Int32).toInt := b224_z
        replace hm_z := rn_iload_n (am_cur_of (i := (62, 1, .iload_n 1, (0, 0, 0), 0)) (by decide +kernel)) g1_z hm_z
        replace hm_z := rn_ifF (am_cur_of (i := (63, 3, .ifCond .ne 7, (38, 0, 0), 0)) (by decide +kernel)) (by decide) hm_z
        replace hm_z := rn_iload_n (am_cur_of (i := (66, 1, .iload_n 2, (0, 0, 0), 0)) (by decide +kernel)) g2_z hm_z
        replace hm_z := rn_goto (am_cur_of (i := (67, 3, .goto 4, (39, 0, 0), 0)) (by decide +kernel)) hm_z
        replace hm_z := rn_istore (am_cur_of (i := (71, 2, .istore 4, (0, 0, 0), 0)) (by decide +kernel)) hm_z
        obtain ⟨_, s225_z, s226_z, g4_z, hm_z⟩ := hm_z
        replace g0_z := s225_z 0 _ (by decide) rfl g0_z
        replace g1_z := s225_z 1 _ (by decide) rfl g1_z
        replace g2_z := s225_z 2 _ (by decide) rfl g2_z
        replace g3_z := s225_z 3 _ (by decide) rfl g3_z
        clear s225_z s226_z
        replace hm_z := rn_iload_n (am_cur_of (i := (73, 1, .iload_n 1, (0, 0, 0), 0)) (by decide +kernel)) g1_z hm_z
        replace hm_z := rn_iconst (w := 2) (am_cur_of (i := (74, 1, .iconst 2, (0, 0, 0), 0)) (by decide +kernel)) (by decide) hm_z
        replace hm_z := rn_cmpT (am_cur_of (i := (75, 3, .if_icmp .ne 7, (45, 0, 0), 0)) (by decide +kernel)) (by decide) hm_z
        replace hm_z := rn_aload_n (am_cur_of (i := (82, 1, .aload_n 0, (0, 0, 0), 0)) (by decide +kernel)) g0_z hm_z
        replace hm_z := rn_iconst (w := 0) (am_cur_of (i := (83, 1, .iconst 0, (0, 0, 0), 0)) (by decide +kernel)) (by decide) hm_z
        replace hm_z := rn_iload (am_cur_of (i := (84, 2, .iload 4, (0, 0, 0), 0)) (by decide +kernel)) g4_z hm_z
        replace hm_z := rn_callV (M' := am_m188) (o := 164) (ar := [.int n0_z, .int 0]) (rest := []) (L := lv_args 0 [.ref 164, .int 0, .int n0_z]) (am_cur_of (i := (86, 3, .invokevirtual 403, (188, 1783, 3), 0)) (by decide +kernel)) rfl rfl rfl rfl hm_z
        obtain ⟨r227_z, h228_z, q229_z, hm_z⟩ := hm_z
        obtain ⟨l, rr, le, k1_z⟩ := lo_188 (LW_e (fun _ _ _ _ => rfl) (fun o q e => rg_v_other (by unfold lwQ at e; omega)) hL) (bd := 0) (by first | (rw [n0e]; done) | (rw [n0e]; exact rfl)) (by first | (rw [n0e]; done) | (rw [n0e]; exact rfl)) rfl (show rg_v (am_up g 164 2 (.int 0)) 164 61 = 0 from eU) q229_z
        subst rr
        have el : l = ldX p h0_z 0 (rg_v g 188 0) (rg_v g 168 0 - rg_v g 188 0) _ (rg_v g 189 0) := ldX_e le
        replace k1_z : mk (am_up g 164 2 (.int 0)) h228_z := k1_z
        replace hm_z : rn _ _ _ _ [.int l] _ _ _ := hm_z
        replace hm_z := rn_istore (am_cur_of (i := (89, 2, .istore 5, (0, 0, 0), 0)) (by decide +kernel)) hm_z
        obtain ⟨_, s230_z, s231_z, g5_z, hm_z⟩ := hm_z
        replace g0_z := s230_z 0 _ (by decide) rfl g0_z
        replace g1_z := s230_z 1 _ (by decide) rfl g1_z
        replace g2_z := s230_z 2 _ (by decide) rfl g2_z
        replace g3_z := s230_z 3 _ (by decide) rfl g3_z
        replace g4_z := s230_z 4 _ (by decide) rfl g4_z
        clear s230_z s231_z
        replace hm_z := rn_aload_n (am_cur_of (i := (91, 1, .aload_n 0, (0, 0, 0), 0)) (by decide +kernel)) g0_z hm_z
        replace hm_z := rn_iconst (w := 0) (am_cur_of (i := (92, 1, .iconst 0, (0, 0, 0), 0)) (by decide +kernel)) (by decide) hm_z
        replace hm_z := rn_iload (am_cur_of (i := (93, 2, .iload 4, (0, 0, 0), 0)) (by decide +kernel)) g4_z hm_z
        replace hm_z := rn_iload (am_cur_of (i := (95, 2, .iload 5, (0, 0, 0), 0)) (by decide +kernel)) g5_z hm_z
        replace hm_z := rn_iload_n (am_cur_of (i := (97, 1, .iload_n 1, (0, 0, 0), 0)) (by decide +kernel)) g1_z hm_z
        replace hm_z := rn_iconst (w := 1) (am_cur_of (i := (98, 1, .iconst 1, (0, 0, 0), 0)) (by decide +kernel)) (by decide) hm_z
        replace hm_z := rn_cmpT (am_cur_of (i := (99, 3, .if_icmp .ne 7, (59, 0, 0), 0)) (by decide +kernel)) (by decide) hm_z
        replace hm_z := rn_iconst (w := 0) (am_cur_of (i := (106, 1, .iconst 0, (0, 0, 0), 0)) (by decide +kernel)) (by decide) hm_z
        replace hm_z := rn_callV (M' := am_m189) (o := 164) (ar := [.int 0, .int l, .int n0_z, .int 0]) (rest := []) (L := lv_args 0 [.ref 164, .int 0, .int n0_z, .int l, .int 0]) (am_cur_of (i := (107, 3, .invokevirtual 392, (189, 1787, 3), 0)) (by decide +kernel)) rfl rfl rfl rfl hm_z
        obtain ⟨r232_z, h233_z, q234_z, hm_z⟩ := hm_z
        have vo := rn_void rfl q234_z
        subst vo
        have k0_z : mk (am_up g 164 2 (.int 0)) h228_z := k1_z
        obtain ⟨yf, yn⟩ := ly_189 (F := rg_v g 188 0) (S := rg_v g 189 0) (Hd := rg_v g 168 0) (by rw [n0e]; exact (mk_v k0_z (by omega) (by decide) (by decide)).trans rfl) (by rw [n0e]; exact (mk_v k0_z (by omega) (by decide) (by decide)).trans rfl) ((mk_v k0_z (by omega) (by decide) (by decide)).trans rfl) q234_z
        have k2_z : mk (am_up g 164 2 (.int 0)) h233_z := mk_t k0_z (fun o q _ _ c => yf o q c)
        have L2 : LW p h0_z h233_z := LW_m k2_z (LW_e (fun _ _ _ _ => rfl) (fun o q e => rg_v_other (by unfold lwQ at e; omega)) hL)
        obtain ⟨n1_z, n2_z, n3_z⟩ := nm_al yn
        replace hm_z : rn _ _ _ _ [] _ _ _ := hm_z
        replace hm_z := rn_aload_n (am_cur_of (i := (110, 1, .aload_n 0, (0, 0, 0), 0)) (by decide +kernel)) g0_z hm_z
        replace hm_z := rn_iload_n (am_cur_of (i := (111, 1, .iload_n 3, (0, 0, 0), 0)) (by decide +kernel)) g3_z hm_z
        replace hm_z := rn_callV (M' := am_m191) (o := 164) (ar := [.int 0]) (rest := []) (L := lv_args 0 [.ref 164, .int 0]) (am_cur_of (i := (112, 3, .invokevirtual 389, (191, 1795, 3), 0)) (by decide +kernel)) rfl rfl rfl rfl hm_z
        obtain ⟨r235_z, h236_z, q237_z, hm_z⟩ := hm_z
        have tl : ¬ rg_v h233_z 178 (0 : Int32).toNatClampNeg = 0 := by
          rw [mk_v k2_z (by omega) (by decide) (by decide), kw]
          exact b224_z.1
        obtain ⟨wx, rr, xx, -⟩ := le_191 (N := eC l (rg_v g 188 0) (rg_v g 168 0 - rg_v g 188 0) n0_z (rg_v g 189 0) 0) tl (by rw [kw]; exact L2 0 (by decide)) n1_z (Or.inr n2_z) n3_z q237_z
        subst rr
        rw [kw] at xx
        replace hm_z : rn _ _ _ _ [.long wx] _ _ _ := hm_z
        replace hm_z := rn_lstore (am_cur_of (i := (115, 2, .lstore 6, (0, 0, 0), 0)) (by decide +kernel)) hm_z
        obtain ⟨_, s238_z, s239_z, g6_z, hm_z⟩ := hm_z
        replace g0_z := s238_z 0 _ (by decide) (by decide) rfl g0_z
        replace g1_z := s238_z 1 _ (by decide) (by decide) rfl g1_z
        replace g2_z := s238_z 2 _ (by decide) (by decide) rfl g2_z
        replace g3_z := s238_z 3 _ (by decide) (by decide) rfl g3_z
        replace g4_z := s238_z 4 _ (by decide) (by decide) rfl g4_z
        replace g5_z := s238_z 5 _ (by decide) (by decide) rfl g5_z
        clear s238_z s239_z
        replace hm_z := rn_aload_n (am_cur_of (i := (117, 1, .aload_n 0, (0, 0, 0), 0)) (by decide +kernel)) g0_z hm_z
        replace hm_z := rn_getI (v := rg_v h236_z 164 49) (am_cur_of (i := (118, 3, .getfield 327, (12, 49, 1433), 0)) (by decide +kernel)) (by decide +kernel) rfl hm_z
        replace hm_z := rn_if (am_cur_of (i := (121, 3, .ifCond .eq 9, (70, 0, 0), 0)) (by decide +kernel)) hm_z
        rcases hm_z with ⟨b240_z, hm_z⟩ | ⟨b240_z, hm_z⟩
        · replace b240_z : (rg_v h236_z 164 49) = (0 : Int32) ∧ (rg_v h236_z 164 49).toInt = (0 : Int32).toInt := b240_z
          replace hm_z := rn_lload (am_cur_of (i := (130, 2, .lload 6, (0, 0, 0), 0)) (by decide +kernel)) g6_z hm_z
          replace hm_z := rn_lret (am_cur_of (i := (132, 1, .lreturn, (0, 0, 0), 0)) (by decide +kernel)) hm_z
          obtain ⟨e241_z, e242_z⟩ := hm_z
          refine Or.inr ⟨by unfold lawG; omega, _, e241_z, ?_⟩
          unfold lawV
          rw [if_neg (by decide), if_pos rfl]
          rw [← el]
          rcases xx with ⟨z, x1_z, -, x3_z⟩ | ⟨-, x2_z⟩
          · rw [x1_z]
            exact x3_z
          · exact absurd b240_z.1 x2_z
        · replace b240_z : ¬ (rg_v h236_z 164 49) = (0 : Int32) ∧ ¬ (rg_v h236_z 164 49).toInt = (0 : Int32).toInt := b240_z
          replace hm_z := rn_ldc2 (w := (-9223372036854775808)) (am_cur_of (i := (124, 3, .ldc2_w 426, (0, 0, 1782), (-9223372036854775808))) (by decide +kernel)) (by decide) hm_z
          replace hm_z := rn_goto (am_cur_of (i := (127, 3, .goto 5, (71, 0, 0), 0)) (by decide +kernel)) hm_z
          replace hm_z := rn_lret (am_cur_of (i := (132, 1, .lreturn, (0, 0, 0), 0)) (by decide +kernel)) hm_z
          obtain ⟨e243_z, e244_z⟩ := hm_z
          refine Or.inr ⟨by unfold lawG; omega, _, e243_z, ?_⟩
          unfold lawV
          rw [if_neg (by decide), if_pos rfl]
          rw [← el]
          rcases xx with ⟨z, -, x2_z, -⟩ | ⟨x1_z, -⟩
          · exact absurd x2_z b240_z.1
          · rw [x1_z]
            exact lw_E
      · replace b224_z : (rg_v g 178 0) = (0 : Int32) ∧ (rg_v g 178 0).toInt = (0 : Int32).toInt := b224_z
        replace hm_z := rn_ldc2 (w := (-9223372036854775808)) (am_cur_of (i := (58, 3, .ldc2_w 426, (0, 0, 1782), (-9223372036854775808))) (by decide +kernel)) (by decide) hm_z
        replace hm_z := rn_lret (am_cur_of (i := (61, 1, .lreturn, (0, 0, 0), 0)) (by decide +kernel)) hm_z
        obtain ⟨e245_z, e246_z⟩ := hm_z
        refine Or.inr ⟨by unfold lawG; omega, _, e245_z, ?_⟩
        unfold lawV
        rw [if_neg (by decide), if_pos rfl]
        have eX : ∀ N, lawX p h0_z 0 N = none := by
          intro N
          rcases hL 0 (by decide) with ⟨-, u2_z, u3_z, -⟩ | ⟨f, T, t1_z, -⟩
          · have c1_z := rt_cl (x := rg_v h0_z (p + 12) 0) (by omega)
            have c2_z := rt_cl (x := rg_v h0_z (p + 13) 0) (by omega)
            unfold lawX
            rw [show (rg_v h0_z (p + 12) 0).toNatClampNeg = 0 by omega, show (rg_v h0_z (p + 13) 0).toNatClampNeg = 0 by omega]
            rfl
          · exact absurd (t1_z.symm.trans b224_z.1) (by decide)
        rw [eX]
        exact lw_E
theorem lm_187_1 {n p : Nat} {r : Option Value} {h0_z g g' : am_H} {n0_z : Int32} (hL : LW p h0_z g) (eU : rg_v g 164 61 = 0) (hm_z : rn n am_m187 0 (lv_args 0 [.ref 164, .int 1, .int n0_z]) [] g r g') : (¬ lawG 1 n0_z ∧ r = some (.long (-9223372036854775808))) ∨ (lawG 1 n0_z ∧ ∃ w : Int64, r = some (.long w) ∧ lR (lawV p h0_z 1 n0_z (rg_v g 188 0) (rg_v g 168 0 - rg_v g 188 0) (rg_v g 189 0)) w.toInt) := by
  have z0_z : (0 : Int32).toInt = 0 := by decide
  have z1_z : (1 : Int32).toInt = 1 := by decide
  have z2_z : (2 : Int32).toInt = 2 := by decide
  have z999_z : (999 : Int32).toInt = 999 := by decide
  have n0e : (0 : Int32).toNatClampNeg = 0 := by decide
  have kw : (1 : Int32).toNatClampNeg = 1 := by decide
  have g0_z : am_get (lv_args 0 [.ref 164, .int 1, .int n0_z]) 0 = some (.ref 164) := rfl
  have g1_z : am_get (lv_args 0 [.ref 164, .int 1, .int n0_z]) 1 = some (.int 1) := rfl
  have g2_z : am_get (lv_args 0 [.ref 164, .int 1, .int n0_z]) 2 = some (.int n0_z) := rfl
  replace hm_z := rn_aload_n (am_cur_of (i := (0, 1, .aload_n 0, (0, 0, 0), 0)) (by decide +kernel)) g0_z hm_z
  replace hm_z := rn_iconst (w := 0) (am_cur_of (i := (1, 1, .iconst 0, (0, 0, 0), 0)) (by decide +kernel)) (by decide) hm_z
  replace hm_z := rn_put (am_cur_of (i := (2, 3, .putfield 139, (12, 2, 1386), 0)) (by decide +kernel)) (by decide +kernel) hm_z
  replace hm_z := rn_iload_n (am_cur_of (i := (5, 1, .iload_n 1, (0, 0, 0), 0)) (by decide +kernel)) g1_z hm_z
  replace hm_z := rn_iconst (w := 0) (am_cur_of (i := (6, 1, .iconst 0, (0, 0, 0), 0)) (by decide +kernel)) (by decide) hm_z
  replace hm_z := rn_iconst (w := 2) (am_cur_of (i := (7, 1, .iconst 2, (0, 0, 0), 0)) (by decide +kernel)) (by decide) hm_z
  replace hm_z := rn_callS (M' := am_m162) (ar := [.int 2, .int 0, .int 1]) (rest := []) (L := lv_args 0 [.int 1, .int 0, .int 2]) (am_cur_of (i := (8, 3, .invokestatic 184, (162, 1681, 3), 0)) (by decide +kernel)) rfl rfl rfl rfl hm_z
  obtain ⟨r247_z, h248_z, q249_z, hm_z⟩ := hm_z
  rcases sm_162 q249_z with ⟨b250_z, rfl, y251_z⟩ | ⟨b252_z, b253_z, rfl, y254_z⟩ | ⟨b255_z, b256_z, rfl, y257_z⟩
  · replace y251_z := y251_z.symm
    subst y251_z
    replace b250_z : (1 : Int32).toInt < (0 : Int32).toInt := b250_z
    replace hm_z : rn _ _ _ _ [.int 0] _ _ _ := hm_z
    replace hm_z := rn_ifT (am_cur_of (i := (11, 3, .ifCond .eq 32, (23, 0, 0), 0)) (by decide +kernel)) (by decide) hm_z
    replace hm_z := rn_ldc2 (w := (-9223372036854775808)) (am_cur_of (i := (43, 3, .ldc2_w 426, (0, 0, 1782), (-9223372036854775808))) (by decide +kernel)) (by decide) hm_z
    replace hm_z := rn_lret (am_cur_of (i := (46, 1, .lreturn, (0, 0, 0), 0)) (by decide +kernel)) hm_z
    obtain ⟨e258_z, e259_z⟩ := hm_z
    exact Or.inl ⟨by unfold lawG; omega, e258_z⟩
  · replace y254_z := y254_z.symm
    subst y254_z
    replace b252_z : (0 : Int32).toInt ≤ (1 : Int32).toInt := b252_z
    replace b253_z : (2 : Int32).toInt < (1 : Int32).toInt := b253_z
    replace hm_z : rn _ _ _ _ [.int 0] _ _ _ := hm_z
    replace hm_z := rn_ifT (am_cur_of (i := (11, 3, .ifCond .eq 32, (23, 0, 0), 0)) (by decide +kernel)) (by decide) hm_z
    replace hm_z := rn_ldc2 (w := (-9223372036854775808)) (am_cur_of (i := (43, 3, .ldc2_w 426, (0, 0, 1782), (-9223372036854775808))) (by decide +kernel)) (by decide) hm_z
    replace hm_z := rn_lret (am_cur_of (i := (46, 1, .lreturn, (0, 0, 0), 0)) (by decide +kernel)) hm_z
    obtain ⟨e260_z, e261_z⟩ := hm_z
    exact Or.inl ⟨by unfold lawG; omega, e260_z⟩
  · replace y257_z := y257_z.symm
    subst y257_z
    replace b255_z : (0 : Int32).toInt ≤ (1 : Int32).toInt := b255_z
    replace b256_z : (1 : Int32).toInt ≤ (2 : Int32).toInt := b256_z
    replace hm_z : rn _ _ _ _ [.int 1] _ _ _ := hm_z
    replace hm_z := rn_ifF (am_cur_of (i := (11, 3, .ifCond .eq 32, (23, 0, 0), 0)) (by decide +kernel)) (by decide) hm_z
    replace hm_z := rn_iload_n (am_cur_of (i := (14, 1, .iload_n 1, (0, 0, 0), 0)) (by decide +kernel)) g1_z hm_z
    replace hm_z := rn_ifT (am_cur_of (i := (15, 3, .ifCond .ne 12, (15, 0, 0), 0)) (by decide +kernel)) (by decide) hm_z
    replace hm_z := rn_iload_n (am_cur_of (i := (27, 1, .iload_n 1, (0, 0, 0), 0)) (by decide +kernel)) g1_z hm_z
    replace hm_z := rn_iconst (w := 1) (am_cur_of (i := (28, 1, .iconst 1, (0, 0, 0), 0)) (by decide +kernel)) (by decide) hm_z
    replace hm_z := rn_cmpF (am_cur_of (i := (29, 3, .if_icmp .ne 18, (25, 0, 0), 0)) (by decide +kernel)) (by decide) hm_z
    replace hm_z := rn_iload_n (am_cur_of (i := (32, 1, .iload_n 2, (0, 0, 0), 0)) (by decide +kernel)) g2_z hm_z
    replace hm_z := rn_iconst (w := 0) (am_cur_of (i := (33, 1, .iconst 0, (0, 0, 0), 0)) (by decide +kernel)) (by decide) hm_z
    replace hm_z := rn_sipush (w := 999) (am_cur_of (i := (34, 3, .sipush 999, (0, 0, 0), 0)) (by decide +kernel)) (by decide) hm_z
    replace hm_z := rn_callS (M' := am_m162) (ar := [.int 999, .int 0, .int n0_z]) (rest := []) (L := lv_args 0 [.int n0_z, .int 0, .int 999]) (am_cur_of (i := (37, 3, .invokestatic 184, (162, 1681, 3), 0)) (by decide +kernel)) rfl rfl rfl rfl hm_z
    obtain ⟨r262_z, h263_z, q264_z, hm_z⟩ := hm_z
    rcases sm_162 q264_z with ⟨b265_z, rfl, y266_z⟩ | ⟨b267_z, b268_z, rfl, y269_z⟩ | ⟨b270_z, b271_z, rfl, y272_z⟩
    · replace y266_z := y266_z.symm
      subst y266_z
      replace b265_z : n0_z.toInt < (0 : Int32).toInt := b265_z
      replace hm_z : rn _ _ _ _ [.int 0] _ _ _ := hm_z
      replace hm_z := rn_ifF (am_cur_of (i := (40, 3, .ifCond .ne 7, (25, 0, 0), 0)) (by decide +kernel)) (by decide) hm_z
      replace hm_z := rn_ldc2 (w := (-9223372036854775808)) (am_cur_of (i := (43, 3, .ldc2_w 426, (0, 0, 1782), (-9223372036854775808))) (by decide +kernel)) (by decide) hm_z
      replace hm_z := rn_lret (am_cur_of (i := (46, 1, .lreturn, (0, 0, 0), 0)) (by decide +kernel)) hm_z
      obtain ⟨e273_z, e274_z⟩ := hm_z
      exact Or.inl ⟨by unfold lawG; omega, e273_z⟩
    · replace y269_z := y269_z.symm
      subst y269_z
      replace b267_z : (0 : Int32).toInt ≤ n0_z.toInt := b267_z
      replace b268_z : (999 : Int32).toInt < n0_z.toInt := b268_z
      replace hm_z : rn _ _ _ _ [.int 0] _ _ _ := hm_z
      replace hm_z := rn_ifF (am_cur_of (i := (40, 3, .ifCond .ne 7, (25, 0, 0), 0)) (by decide +kernel)) (by decide) hm_z
      replace hm_z := rn_ldc2 (w := (-9223372036854775808)) (am_cur_of (i := (43, 3, .ldc2_w 426, (0, 0, 1782), (-9223372036854775808))) (by decide +kernel)) (by decide) hm_z
      replace hm_z := rn_lret (am_cur_of (i := (46, 1, .lreturn, (0, 0, 0), 0)) (by decide +kernel)) hm_z
      obtain ⟨e275_z, e276_z⟩ := hm_z
      exact Or.inl ⟨by unfold lawG; omega, e275_z⟩
    · replace y272_z := y272_z.symm
      subst y272_z
      replace b270_z : (0 : Int32).toInt ≤ n0_z.toInt := b270_z
      replace b271_z : n0_z.toInt ≤ (999 : Int32).toInt := b271_z
      replace hm_z : rn _ _ _ _ [.int 1] _ _ _ := hm_z
      replace hm_z := rn_ifT (am_cur_of (i := (40, 3, .ifCond .ne 7, (25, 0, 0), 0)) (by decide +kernel)) (by decide) hm_z
      replace hm_z := rn_iload_n (am_cur_of (i := (47, 1, .iload_n 1, (0, 0, 0), 0)) (by decide +kernel)) g1_z hm_z
      replace hm_z := rn_istore_n (am_cur_of (i := (48, 1, .istore_n 3, (0, 0, 0), 0)) (by decide +kernel)) hm_z
      obtain ⟨_, s277_z, s278_z, g3_z, hm_z⟩ := hm_z
      replace g0_z := s277_z 0 _ (by decide) rfl g0_z
      replace g1_z := s277_z 1 _ (by decide) rfl g1_z
      replace g2_z := s277_z 2 _ (by decide) rfl g2_z
      clear s277_z s278_z
      replace hm_z := rn_aload_n (am_cur_of (i := (49, 1, .aload_n 0, (0, 0, 0), 0)) (by decide +kernel)) g0_z hm_z
      replace hm_z := rn_getR (x := 178) (am_cur_of (i := (50, 3, .getfield 54, (12, 33, 1417), 0)) (by decide +kernel)) (by decide +kernel) hm_z
      replace hm_z := rn_iload_n (am_cur_of (i := (53, 1, .iload_n 3, (0, 0, 0), 0)) (by decide +kernel)) g3_z hm_z
      replace hm_z := rn_baload (N := 6) (q := 1) (v := rg_v g 178 1) (am_cur_of (i := (54, 1, .baload, (0, 0, 0), 0)) (by decide +kernel)) (by decide +kernel) rfl ((rg_v_other (by omega)).trans (rfl)) hm_z
      obtain ⟨p279_z, hm_z⟩ := hm_z
      replace hm_z := rn_if (am_cur_of (i := (55, 3, .ifCond .ne 7, (34, 0, 0), 0)) (by decide +kernel)) hm_z
      rcases hm_z with ⟨b280_z, hm_z⟩ | ⟨b280_z, hm_z⟩
      · replace b280_z : ¬ (rg_v g 178 1) = (0 : Int32) ∧ ¬ (rg_v g 178 1).toInt = (0 : Int32).toInt := b280_z
        replace hm_z := rn_iload_n (am_cur_of (i := (62, 1, .iload_n 1, (0, 0, 0), 0)) (by decide +kernel)) g1_z hm_z
        replace hm_z := rn_ifT (am_cur_of (i := (63, 3, .ifCond .ne 7, (38, 0, 0), 0)) (by decide +kernel)) (by decide) hm_z
        replace hm_z := rn_iconst (w := 0) (am_cur_of (i := (70, 1, .iconst 0, (0, 0, 0), 0)) (by decide +kernel)) (by decide) hm_z
        replace hm_z := rn_istore (am_cur_of (i := (71, 2, .istore 4, (0, 0, 0), 0)) (by decide +kernel)) hm_z
        obtain ⟨_, s281_z, s282_z, g4_z, hm_z⟩ := hm_z
        replace g0_z := s281_z 0 _ (by decide) rfl g0_z
        replace g1_z := s281_z 1 _ (by decide) rfl g1_z
        replace g2_z := s281_z 2 _ (by decide) rfl g2_z
        replace g3_z := s281_z 3 _ (by decide) rfl g3_z
        clear s281_z s282_z
        replace hm_z := rn_iload_n (am_cur_of (i := (73, 1, .iload_n 1, (0, 0, 0), 0)) (by decide +kernel)) g1_z hm_z
        replace hm_z := rn_iconst (w := 2) (am_cur_of (i := (74, 1, .iconst 2, (0, 0, 0), 0)) (by decide +kernel)) (by decide) hm_z
        replace hm_z := rn_cmpT (am_cur_of (i := (75, 3, .if_icmp .ne 7, (45, 0, 0), 0)) (by decide +kernel)) (by decide) hm_z
        replace hm_z := rn_aload_n (am_cur_of (i := (82, 1, .aload_n 0, (0, 0, 0), 0)) (by decide +kernel)) g0_z hm_z
        replace hm_z := rn_iconst (w := 0) (am_cur_of (i := (83, 1, .iconst 0, (0, 0, 0), 0)) (by decide +kernel)) (by decide) hm_z
        replace hm_z := rn_iload (am_cur_of (i := (84, 2, .iload 4, (0, 0, 0), 0)) (by decide +kernel)) g4_z hm_z
        replace hm_z := rn_callV (M' := am_m188) (o := 164) (ar := [.int 0, .int 0]) (rest := []) (L := lv_args 0 [.ref 164, .int 0, .int 0]) (am_cur_of (i := (86, 3, .invokevirtual 403, (188, 1783, 3), 0)) (by decide +kernel)) rfl rfl rfl rfl hm_z
        obtain ⟨r283_z, h284_z, q285_z, hm_z⟩ := hm_z
        obtain ⟨l, rr, le, k1_z⟩ := lo_188 (LW_e (fun _ _ _ _ => rfl) (fun o q e => rg_v_other (by unfold lwQ at e; omega)) hL) (bd := 0) (by first | (rw [n0e]; done) | (rw [n0e]; exact rfl)) (by first | (rw [n0e]; done) | (rw [n0e]; exact rfl)) rfl (show rg_v (am_up g 164 2 (.int 0)) 164 61 = 0 from eU) q285_z
        subst rr
        have el : l = ldX p h0_z 0 (rg_v g 188 0) (rg_v g 168 0 - rg_v g 188 0) _ (rg_v g 189 0) := ldX_e le
        replace k1_z : mk (am_up g 164 2 (.int 0)) h284_z := k1_z
        replace hm_z : rn _ _ _ _ [.int l] _ _ _ := hm_z
        replace hm_z := rn_istore (am_cur_of (i := (89, 2, .istore 5, (0, 0, 0), 0)) (by decide +kernel)) hm_z
        obtain ⟨_, s286_z, s287_z, g5_z, hm_z⟩ := hm_z
        replace g0_z := s286_z 0 _ (by decide) rfl g0_z
        replace g1_z := s286_z 1 _ (by decide) rfl g1_z
        replace g2_z := s286_z 2 _ (by decide) rfl g2_z
        replace g3_z := s286_z 3 _ (by decide) rfl g3_z
        replace g4_z := s286_z 4 _ (by decide) rfl g4_z
        clear s286_z s287_z
        replace hm_z := rn_aload_n (am_cur_of (i := (91, 1, .aload_n 0, (0, 0, 0), 0)) (by decide +kernel)) g0_z hm_z
        replace hm_z := rn_iconst (w := 0) (am_cur_of (i := (92, 1, .iconst 0, (0, 0, 0), 0)) (by decide +kernel)) (by decide) hm_z
        replace hm_z := rn_iload (am_cur_of (i := (93, 2, .iload 4, (0, 0, 0), 0)) (by decide +kernel)) g4_z hm_z
        replace hm_z := rn_iload (am_cur_of (i := (95, 2, .iload 5, (0, 0, 0), 0)) (by decide +kernel)) g5_z hm_z
        replace hm_z := rn_iload_n (am_cur_of (i := (97, 1, .iload_n 1, (0, 0, 0), 0)) (by decide +kernel)) g1_z hm_z
        replace hm_z := rn_iconst (w := 1) (am_cur_of (i := (98, 1, .iconst 1, (0, 0, 0), 0)) (by decide +kernel)) (by decide) hm_z
        replace hm_z := rn_cmpF (am_cur_of (i := (99, 3, .if_icmp .ne 7, (59, 0, 0), 0)) (by decide +kernel)) (by decide) hm_z
        replace hm_z := rn_iload_n (am_cur_of (i := (102, 1, .iload_n 2, (0, 0, 0), 0)) (by decide +kernel)) g2_z hm_z
        replace hm_z := rn_goto (am_cur_of (i := (103, 3, .goto 4, (60, 0, 0), 0)) (by decide +kernel)) hm_z
        replace hm_z := rn_callV (M' := am_m189) (o := 164) (ar := [.int n0_z, .int l, .int 0, .int 0]) (rest := []) (L := lv_args 0 [.ref 164, .int 0, .int 0, .int l, .int n0_z]) (am_cur_of (i := (107, 3, .invokevirtual 392, (189, 1787, 3), 0)) (by decide +kernel)) rfl rfl rfl rfl hm_z
        obtain ⟨r288_z, h289_z, q290_z, hm_z⟩ := hm_z
        have vo := rn_void rfl q290_z
        subst vo
        have k0_z : mk (am_up g 164 2 (.int 0)) h284_z := k1_z
        obtain ⟨yf, yn⟩ := ly_189 (F := rg_v g 188 0) (S := rg_v g 189 0) (Hd := rg_v g 168 0) (by rw [n0e]; exact (mk_v k0_z (by omega) (by decide) (by decide)).trans rfl) (by rw [n0e]; exact (mk_v k0_z (by omega) (by decide) (by decide)).trans rfl) ((mk_v k0_z (by omega) (by decide) (by decide)).trans rfl) q290_z
        have k2_z : mk (am_up g 164 2 (.int 0)) h289_z := mk_t k0_z (fun o q _ _ c => yf o q c)
        have L2 : LW p h0_z h289_z := LW_m k2_z (LW_e (fun _ _ _ _ => rfl) (fun o q e => rg_v_other (by unfold lwQ at e; omega)) hL)
        obtain ⟨n1_z, n2_z, n3_z⟩ := nm_al yn
        replace hm_z : rn _ _ _ _ [] _ _ _ := hm_z
        replace hm_z := rn_aload_n (am_cur_of (i := (110, 1, .aload_n 0, (0, 0, 0), 0)) (by decide +kernel)) g0_z hm_z
        replace hm_z := rn_iload_n (am_cur_of (i := (111, 1, .iload_n 3, (0, 0, 0), 0)) (by decide +kernel)) g3_z hm_z
        replace hm_z := rn_callV (M' := am_m191) (o := 164) (ar := [.int 1]) (rest := []) (L := lv_args 0 [.ref 164, .int 1]) (am_cur_of (i := (112, 3, .invokevirtual 389, (191, 1795, 3), 0)) (by decide +kernel)) rfl rfl rfl rfl hm_z
        obtain ⟨r291_z, h292_z, q293_z, hm_z⟩ := hm_z
        have tl : ¬ rg_v h289_z 178 (1 : Int32).toNatClampNeg = 0 := by
          rw [mk_v k2_z (by omega) (by decide) (by decide), kw]
          exact b280_z.1
        obtain ⟨wx, rr, xx, -⟩ := le_191 (N := eC l (rg_v g 188 0) (rg_v g 168 0 - rg_v g 188 0) 0 (rg_v g 189 0) n0_z) tl (by rw [kw]; exact L2 1 (by decide)) n1_z (Or.inr n2_z) n3_z q293_z
        subst rr
        rw [kw] at xx
        replace hm_z : rn _ _ _ _ [.long wx] _ _ _ := hm_z
        replace hm_z := rn_lstore (am_cur_of (i := (115, 2, .lstore 6, (0, 0, 0), 0)) (by decide +kernel)) hm_z
        obtain ⟨_, s294_z, s295_z, g6_z, hm_z⟩ := hm_z
        replace g0_z := s294_z 0 _ (by decide) (by decide) rfl g0_z
        replace g1_z := s294_z 1 _ (by decide) (by decide) rfl g1_z
        replace g2_z := s294_z 2 _ (by decide) (by decide) rfl g2_z
        replace g3_z := s294_z 3 _ (by decide) (by decide) rfl g3_z
        replace g4_z := s294_z 4 _ (by decide) (by decide) rfl g4_z
        replace g5_z := s294_z 5 _ (by decide) (by decide) rfl g5_z
        clear s294_z s295_z
        replace hm_z := rn_aload_n (am_cur_of (i := (117, 1, .aload_n 0, (0, 0, 0), 0)) (by decide +kernel)) g0_z hm_z
        replace hm_z := rn_getI (v := rg_v h292_z 164 49) (am_cur_of (i := (118, 3, .getfield 327, (12, 49, 1433), 0)) (by decide +kernel)) (by decide +kernel) rfl hm_z
        replace hm_z := rn_if (am_cur_of (i := (121, 3, .ifCond .eq 9, (70, 0, 0), 0)) (by decide +kernel)) hm_z
        rcases hm_z with ⟨b296_z, hm_z⟩ | ⟨b296_z, hm_z⟩
        · replace b296_z : (rg_v h292_z 164 49) = (0 : Int32) ∧ (rg_v h292_z 164 49).toInt = (0 : Int32).toInt := b296_z
          replace hm_z := rn_lload (am_cur_of (i := (130, 2, .lload 6, (0, 0, 0), 0)) (by decide +kernel)) g6_z hm_z
          replace hm_z := rn_lret (am_cur_of (i := (132, 1, .lreturn, (0, 0, 0), 0)) (by decide +kernel)) hm_z
          obtain ⟨e297_z, e298_z⟩ := hm_z
          refine Or.inr ⟨by unfold lawG; omega, _, e297_z, ?_⟩
          unfold lawV
          rw [if_neg (by decide), if_neg (by decide)]
          rw [← el]
          rcases xx with ⟨z, x1_z, -, x3_z⟩ | ⟨-, x2_z⟩
          · rw [x1_z]
            exact x3_z
          · exact absurd b296_z.1 x2_z
        · replace b296_z : ¬ (rg_v h292_z 164 49) = (0 : Int32) ∧ ¬ (rg_v h292_z 164 49).toInt = (0 : Int32).toInt := b296_z
          replace hm_z := rn_ldc2 (w := (-9223372036854775808)) (am_cur_of (i := (124, 3, .ldc2_w 426, (0, 0, 1782), (-9223372036854775808))) (by decide +kernel)) (by decide) hm_z
          replace hm_z := rn_goto (am_cur_of (i := (127, 3, .goto 5, (71, 0, 0), 0)) (by decide +kernel)) hm_z
          replace hm_z := rn_lret (am_cur_of (i := (132, 1, .lreturn, (0, 0, 0), 0)) (by decide +kernel)) hm_z
          obtain ⟨e299_z, e300_z⟩ := hm_z
          refine Or.inr ⟨by unfold lawG; omega, _, e299_z, ?_⟩
          unfold lawV
          rw [if_neg (by decide), if_neg (by decide)]
          rw [← el]
          rcases xx with ⟨z, -, x2_z, -⟩ | ⟨x1_z, -⟩
          · exact absurd x2_z b296_z.1
          · rw [x1_z]
            exact lw_E
      · replace b280_z : (rg_v g 178 1) = (0 : Int32) ∧ (rg_v g 178 1).toInt = (0 : Int32).toInt := b280_z
        replace hm_z := rn_ldc2 (w := (-9223372036854775808)) (am_cur_of (i := (58, 3, .ldc2_w 426, (0, 0, 1782), (-9223372036854775808))) (by decide +kernel)) (by decide) hm_z
        replace hm_z := rn_lret (am_cur_of (i := (61, 1, .lreturn, (0, 0, 0), 0)) (by decide +kernel)) hm_z
        obtain ⟨e301_z, e302_z⟩ := hm_z
        refine Or.inr ⟨by unfold lawG; omega, _, e301_z, ?_⟩
        unfold lawV
        rw [if_neg (by decide), if_neg (by decide)]
        have eX : ∀ N, lawX p h0_z 1 N = none := by
          intro N
          rcases hL 1 (by decide) with ⟨-, u2_z, u3_z, -⟩ | ⟨f, T, t1_z, -⟩
          · have c1_z := rt_cl (x := rg_v h0_z (p + 12) 1) (by omega)
            have c2_z := rt_cl (x := rg_v h0_z (p + 13) 1) (by omega)
            unfold lawX
            rw [show (rg_v h0_z (p + 12) 1).toNatClampNeg = 0 by omega, show (rg_v h0_z (p + 13) 1).toNatClampNeg = 0 by omega]
            rfl
          · exact absurd (t1_z.symm.trans b280_z.1) (by decide)
        rw [eX]
        exact lw_E
theorem lm_187_2 {n p : Nat} {r : Option Value} {h0_z g g' : am_H} {n0_z : Int32} (hL : LW p h0_z g) (eU : rg_v g 164 61 = 0) (hm_z : rn n am_m187 0 (lv_args 0 [.ref 164, .int 2, .int n0_z]) [] g r g') : (¬ lawG 2 n0_z ∧ r = some (.long (-9223372036854775808))) ∨ (lawG 2 n0_z ∧ ∃ w : Int64, r = some (.long w) ∧ lR (lawV p h0_z 2 n0_z (rg_v g 188 0) (rg_v g 168 0 - rg_v g 188 0) (rg_v g 189 0)) w.toInt) := by
  have z0_z : (0 : Int32).toInt = 0 := by decide
  have z1_z : (1 : Int32).toInt = 1 := by decide
  have z2_z : (2 : Int32).toInt = 2 := by decide
  have z999_z : (999 : Int32).toInt = 999 := by decide
  have n0e : (0 : Int32).toNatClampNeg = 0 := by decide
  have kw : (2 : Int32).toNatClampNeg = 2 := by decide
  have g0_z : am_get (lv_args 0 [.ref 164, .int 2, .int n0_z]) 0 = some (.ref 164) := rfl
  have g1_z : am_get (lv_args 0 [.ref 164, .int 2, .int n0_z]) 1 = some (.int 2) := rfl
  have g2_z : am_get (lv_args 0 [.ref 164, .int 2, .int n0_z]) 2 = some (.int n0_z) := rfl
  replace hm_z := rn_aload_n (am_cur_of (i := (0, 1, .aload_n 0, (0, 0, 0), 0)) (by decide +kernel)) g0_z hm_z
  replace hm_z := rn_iconst (w := 0) (am_cur_of (i := (1, 1, .iconst 0, (0, 0, 0), 0)) (by decide +kernel)) (by decide) hm_z
  replace hm_z := rn_put (am_cur_of (i := (2, 3, .putfield 139, (12, 2, 1386), 0)) (by decide +kernel)) (by decide +kernel) hm_z
  replace hm_z := rn_iload_n (am_cur_of (i := (5, 1, .iload_n 1, (0, 0, 0), 0)) (by decide +kernel)) g1_z hm_z
  replace hm_z := rn_iconst (w := 0) (am_cur_of (i := (6, 1, .iconst 0, (0, 0, 0), 0)) (by decide +kernel)) (by decide) hm_z
  replace hm_z := rn_iconst (w := 2) (am_cur_of (i := (7, 1, .iconst 2, (0, 0, 0), 0)) (by decide +kernel)) (by decide) hm_z
  replace hm_z := rn_callS (M' := am_m162) (ar := [.int 2, .int 0, .int 2]) (rest := []) (L := lv_args 0 [.int 2, .int 0, .int 2]) (am_cur_of (i := (8, 3, .invokestatic 184, (162, 1681, 3), 0)) (by decide +kernel)) rfl rfl rfl rfl hm_z
  obtain ⟨r303_z, h304_z, q305_z, hm_z⟩ := hm_z
  rcases sm_162 q305_z with ⟨b306_z, rfl, y307_z⟩ | ⟨b308_z, b309_z, rfl, y310_z⟩ | ⟨b311_z, b312_z, rfl, y313_z⟩
  · replace y307_z := y307_z.symm
    subst y307_z
    replace b306_z : (2 : Int32).toInt < (0 : Int32).toInt := b306_z
    replace hm_z : rn _ _ _ _ [.int 0] _ _ _ := hm_z
    replace hm_z := rn_ifT (am_cur_of (i := (11, 3, .ifCond .eq 32, (23, 0, 0), 0)) (by decide +kernel)) (by decide) hm_z
    replace hm_z := rn_ldc2 (w := (-9223372036854775808)) (am_cur_of (i := (43, 3, .ldc2_w 426, (0, 0, 1782), (-9223372036854775808))) (by decide +kernel)) (by decide) hm_z
    replace hm_z := rn_lret (am_cur_of (i := (46, 1, .lreturn, (0, 0, 0), 0)) (by decide +kernel)) hm_z
    obtain ⟨e314_z, e315_z⟩ := hm_z
    exact Or.inl ⟨by unfold lawG; omega, e314_z⟩
  · replace y310_z := y310_z.symm
    subst y310_z
    replace b308_z : (0 : Int32).toInt ≤ (2 : Int32).toInt := b308_z
    replace b309_z : (2 : Int32).toInt < (2 : Int32).toInt := b309_z
    replace hm_z : rn _ _ _ _ [.int 0] _ _ _ := hm_z
    replace hm_z := rn_ifT (am_cur_of (i := (11, 3, .ifCond .eq 32, (23, 0, 0), 0)) (by decide +kernel)) (by decide) hm_z
    replace hm_z := rn_ldc2 (w := (-9223372036854775808)) (am_cur_of (i := (43, 3, .ldc2_w 426, (0, 0, 1782), (-9223372036854775808))) (by decide +kernel)) (by decide) hm_z
    replace hm_z := rn_lret (am_cur_of (i := (46, 1, .lreturn, (0, 0, 0), 0)) (by decide +kernel)) hm_z
    obtain ⟨e316_z, e317_z⟩ := hm_z
    exact Or.inl ⟨by unfold lawG; omega, e316_z⟩
  · replace y313_z := y313_z.symm
    subst y313_z
    replace b311_z : (0 : Int32).toInt ≤ (2 : Int32).toInt := b311_z
    replace b312_z : (2 : Int32).toInt ≤ (2 : Int32).toInt := b312_z
    replace hm_z : rn _ _ _ _ [.int 1] _ _ _ := hm_z
    replace hm_z := rn_ifF (am_cur_of (i := (11, 3, .ifCond .eq 32, (23, 0, 0), 0)) (by decide +kernel)) (by decide) hm_z
    replace hm_z := rn_iload_n (am_cur_of (i := (14, 1, .iload_n 1, (0, 0, 0), 0)) (by decide +kernel)) g1_z hm_z
    replace hm_z := rn_ifT (am_cur_of (i := (15, 3, .ifCond .ne 12, (15, 0, 0), 0)) (by decide +kernel)) (by decide) hm_z
    replace hm_z := rn_iload_n (am_cur_of (i := (27, 1, .iload_n 1, (0, 0, 0), 0)) (by decide +kernel)) g1_z hm_z
    replace hm_z := rn_iconst (w := 1) (am_cur_of (i := (28, 1, .iconst 1, (0, 0, 0), 0)) (by decide +kernel)) (by decide) hm_z
    replace hm_z := rn_cmpT (am_cur_of (i := (29, 3, .if_icmp .ne 18, (25, 0, 0), 0)) (by decide +kernel)) (by decide) hm_z
    replace hm_z := rn_iload_n (am_cur_of (i := (47, 1, .iload_n 1, (0, 0, 0), 0)) (by decide +kernel)) g1_z hm_z
    replace hm_z := rn_istore_n (am_cur_of (i := (48, 1, .istore_n 3, (0, 0, 0), 0)) (by decide +kernel)) hm_z
    obtain ⟨_, s318_z, s319_z, g3_z, hm_z⟩ := hm_z
    replace g0_z := s318_z 0 _ (by decide) rfl g0_z
    replace g1_z := s318_z 1 _ (by decide) rfl g1_z
    replace g2_z := s318_z 2 _ (by decide) rfl g2_z
    clear s318_z s319_z
    replace hm_z := rn_aload_n (am_cur_of (i := (49, 1, .aload_n 0, (0, 0, 0), 0)) (by decide +kernel)) g0_z hm_z
    replace hm_z := rn_getR (x := 178) (am_cur_of (i := (50, 3, .getfield 54, (12, 33, 1417), 0)) (by decide +kernel)) (by decide +kernel) hm_z
    replace hm_z := rn_iload_n (am_cur_of (i := (53, 1, .iload_n 3, (0, 0, 0), 0)) (by decide +kernel)) g3_z hm_z
    replace hm_z := rn_baload (N := 6) (q := 2) (v := rg_v g 178 2) (am_cur_of (i := (54, 1, .baload, (0, 0, 0), 0)) (by decide +kernel)) (by decide +kernel) rfl ((rg_v_other (by omega)).trans (rfl)) hm_z
    obtain ⟨p320_z, hm_z⟩ := hm_z
    replace hm_z := rn_if (am_cur_of (i := (55, 3, .ifCond .ne 7, (34, 0, 0), 0)) (by decide +kernel)) hm_z
    rcases hm_z with ⟨b321_z, hm_z⟩ | ⟨b321_z, hm_z⟩
    · replace b321_z : ¬ (rg_v g 178 2) = (0 : Int32) ∧ ¬ (rg_v g 178 2).toInt = (0 : Int32).toInt := b321_z
      replace hm_z := rn_iload_n (am_cur_of (i := (62, 1, .iload_n 1, (0, 0, 0), 0)) (by decide +kernel)) g1_z hm_z
      replace hm_z := rn_ifT (am_cur_of (i := (63, 3, .ifCond .ne 7, (38, 0, 0), 0)) (by decide +kernel)) (by decide) hm_z
      replace hm_z := rn_iconst (w := 0) (am_cur_of (i := (70, 1, .iconst 0, (0, 0, 0), 0)) (by decide +kernel)) (by decide) hm_z
      replace hm_z := rn_istore (am_cur_of (i := (71, 2, .istore 4, (0, 0, 0), 0)) (by decide +kernel)) hm_z
      obtain ⟨_, s322_z, s323_z, g4_z, hm_z⟩ := hm_z
      replace g0_z := s322_z 0 _ (by decide) rfl g0_z
      replace g1_z := s322_z 1 _ (by decide) rfl g1_z
      replace g2_z := s322_z 2 _ (by decide) rfl g2_z
      replace g3_z := s322_z 3 _ (by decide) rfl g3_z
      clear s322_z s323_z
      replace hm_z := rn_iload_n (am_cur_of (i := (73, 1, .iload_n 1, (0, 0, 0), 0)) (by decide +kernel)) g1_z hm_z
      replace hm_z := rn_iconst (w := 2) (am_cur_of (i := (74, 1, .iconst 2, (0, 0, 0), 0)) (by decide +kernel)) (by decide) hm_z
      replace hm_z := rn_cmpF (am_cur_of (i := (75, 3, .if_icmp .ne 7, (45, 0, 0), 0)) (by decide +kernel)) (by decide) hm_z
      replace hm_z := rn_iconst (w := 0) (am_cur_of (i := (78, 1, .iconst 0, (0, 0, 0), 0)) (by decide +kernel)) (by decide) hm_z
      replace hm_z := rn_goto (am_cur_of (i := (79, 3, .goto 10, (49, 0, 0), 0)) (by decide +kernel)) hm_z
      replace hm_z := rn_istore (am_cur_of (i := (89, 2, .istore 5, (0, 0, 0), 0)) (by decide +kernel)) hm_z
      obtain ⟨_, s324_z, s325_z, g5_z, hm_z⟩ := hm_z
      replace g0_z := s324_z 0 _ (by decide) rfl g0_z
      replace g1_z := s324_z 1 _ (by decide) rfl g1_z
      replace g2_z := s324_z 2 _ (by decide) rfl g2_z
      replace g3_z := s324_z 3 _ (by decide) rfl g3_z
      replace g4_z := s324_z 4 _ (by decide) rfl g4_z
      clear s324_z s325_z
      replace hm_z := rn_aload_n (am_cur_of (i := (91, 1, .aload_n 0, (0, 0, 0), 0)) (by decide +kernel)) g0_z hm_z
      replace hm_z := rn_iconst (w := 0) (am_cur_of (i := (92, 1, .iconst 0, (0, 0, 0), 0)) (by decide +kernel)) (by decide) hm_z
      replace hm_z := rn_iload (am_cur_of (i := (93, 2, .iload 4, (0, 0, 0), 0)) (by decide +kernel)) g4_z hm_z
      replace hm_z := rn_iload (am_cur_of (i := (95, 2, .iload 5, (0, 0, 0), 0)) (by decide +kernel)) g5_z hm_z
      replace hm_z := rn_iload_n (am_cur_of (i := (97, 1, .iload_n 1, (0, 0, 0), 0)) (by decide +kernel)) g1_z hm_z
      replace hm_z := rn_iconst (w := 1) (am_cur_of (i := (98, 1, .iconst 1, (0, 0, 0), 0)) (by decide +kernel)) (by decide) hm_z
      replace hm_z := rn_cmpT (am_cur_of (i := (99, 3, .if_icmp .ne 7, (59, 0, 0), 0)) (by decide +kernel)) (by decide) hm_z
      replace hm_z := rn_iconst (w := 0) (am_cur_of (i := (106, 1, .iconst 0, (0, 0, 0), 0)) (by decide +kernel)) (by decide) hm_z
      replace hm_z := rn_callV (M' := am_m189) (o := 164) (ar := [.int 0, .int 0, .int 0, .int 0]) (rest := []) (L := lv_args 0 [.ref 164, .int 0, .int 0, .int 0, .int 0]) (am_cur_of (i := (107, 3, .invokevirtual 392, (189, 1787, 3), 0)) (by decide +kernel)) rfl rfl rfl rfl hm_z
      obtain ⟨r326_z, h327_z, q328_z, hm_z⟩ := hm_z
      have vo := rn_void rfl q328_z
      subst vo
      have k0_z : mk (am_up g 164 2 (.int 0)) (am_up g 164 2 (.int 0)) := mk_r
      obtain ⟨yf, yn⟩ := ly_189 (F := rg_v g 188 0) (S := rg_v g 189 0) (Hd := rg_v g 168 0) (by rw [n0e]; exact (mk_v k0_z (by omega) (by decide) (by decide)).trans rfl) (by rw [n0e]; exact (mk_v k0_z (by omega) (by decide) (by decide)).trans rfl) ((mk_v k0_z (by omega) (by decide) (by decide)).trans rfl) q328_z
      have k2_z : mk (am_up g 164 2 (.int 0)) h327_z := mk_t k0_z (fun o q _ _ c => yf o q c)
      have L2 : LW p h0_z h327_z := LW_m k2_z (LW_e (fun _ _ _ _ => rfl) (fun o q e => rg_v_other (by unfold lwQ at e; omega)) hL)
      obtain ⟨n1_z, n2_z, n3_z⟩ := nm_al yn
      replace hm_z : rn _ _ _ _ [] _ _ _ := hm_z
      replace hm_z := rn_aload_n (am_cur_of (i := (110, 1, .aload_n 0, (0, 0, 0), 0)) (by decide +kernel)) g0_z hm_z
      replace hm_z := rn_iload_n (am_cur_of (i := (111, 1, .iload_n 3, (0, 0, 0), 0)) (by decide +kernel)) g3_z hm_z
      replace hm_z := rn_callV (M' := am_m191) (o := 164) (ar := [.int 2]) (rest := []) (L := lv_args 0 [.ref 164, .int 2]) (am_cur_of (i := (112, 3, .invokevirtual 389, (191, 1795, 3), 0)) (by decide +kernel)) rfl rfl rfl rfl hm_z
      obtain ⟨r329_z, h330_z, q331_z, hm_z⟩ := hm_z
      have tl : ¬ rg_v h327_z 178 (2 : Int32).toNatClampNeg = 0 := by
        rw [mk_v k2_z (by omega) (by decide) (by decide), kw]
        exact b321_z.1
      obtain ⟨wx, rr, xx, -⟩ := le_191 (N := eC 0 (rg_v g 188 0) (rg_v g 168 0 - rg_v g 188 0) 0 (rg_v g 189 0) 0) tl (by rw [kw]; exact L2 2 (by decide)) n1_z (Or.inr n2_z) n3_z q331_z
      subst rr
      rw [kw] at xx
      replace hm_z : rn _ _ _ _ [.long wx] _ _ _ := hm_z
      replace hm_z := rn_lstore (am_cur_of (i := (115, 2, .lstore 6, (0, 0, 0), 0)) (by decide +kernel)) hm_z
      obtain ⟨_, s332_z, s333_z, g6_z, hm_z⟩ := hm_z
      replace g0_z := s332_z 0 _ (by decide) (by decide) rfl g0_z
      replace g1_z := s332_z 1 _ (by decide) (by decide) rfl g1_z
      replace g2_z := s332_z 2 _ (by decide) (by decide) rfl g2_z
      replace g3_z := s332_z 3 _ (by decide) (by decide) rfl g3_z
      replace g4_z := s332_z 4 _ (by decide) (by decide) rfl g4_z
      replace g5_z := s332_z 5 _ (by decide) (by decide) rfl g5_z
      clear s332_z s333_z
      replace hm_z := rn_aload_n (am_cur_of (i := (117, 1, .aload_n 0, (0, 0, 0), 0)) (by decide +kernel)) g0_z hm_z
      replace hm_z := rn_getI (v := rg_v h330_z 164 49) (am_cur_of (i := (118, 3, .getfield 327, (12, 49, 1433), 0)) (by decide +kernel)) (by decide +kernel) rfl hm_z
      replace hm_z := rn_if (am_cur_of (i := (121, 3, .ifCond .eq 9, (70, 0, 0), 0)) (by decide +kernel)) hm_z
      rcases hm_z with ⟨b334_z, hm_z⟩ | ⟨b334_z, hm_z⟩
      · replace b334_z : (rg_v h330_z 164 49) = (0 : Int32) ∧ (rg_v h330_z 164 49).toInt = (0 : Int32).toInt := b334_z
        replace hm_z := rn_lload (am_cur_of (i := (130, 2, .lload 6, (0, 0, 0), 0)) (by decide +kernel)) g6_z hm_z
        replace hm_z := rn_lret (am_cur_of (i := (132, 1, .lreturn, (0, 0, 0), 0)) (by decide +kernel)) hm_z
        obtain ⟨e335_z, e336_z⟩ := hm_z
        refine Or.inr ⟨by unfold lawG; omega, _, e335_z, ?_⟩
        unfold lawV
        rw [if_pos rfl]
        rcases xx with ⟨z, x1_z, -, x3_z⟩ | ⟨-, x2_z⟩
        · rw [x1_z]
          exact x3_z
        · exact absurd b334_z.1 x2_z
      · replace b334_z : ¬ (rg_v h330_z 164 49) = (0 : Int32) ∧ ¬ (rg_v h330_z 164 49).toInt = (0 : Int32).toInt := b334_z
        replace hm_z := rn_ldc2 (w := (-9223372036854775808)) (am_cur_of (i := (124, 3, .ldc2_w 426, (0, 0, 1782), (-9223372036854775808))) (by decide +kernel)) (by decide) hm_z
        replace hm_z := rn_goto (am_cur_of (i := (127, 3, .goto 5, (71, 0, 0), 0)) (by decide +kernel)) hm_z
        replace hm_z := rn_lret (am_cur_of (i := (132, 1, .lreturn, (0, 0, 0), 0)) (by decide +kernel)) hm_z
        obtain ⟨e337_z, e338_z⟩ := hm_z
        refine Or.inr ⟨by unfold lawG; omega, _, e337_z, ?_⟩
        unfold lawV
        rw [if_pos rfl]
        rcases xx with ⟨z, -, x2_z, -⟩ | ⟨x1_z, -⟩
        · exact absurd x2_z b334_z.1
        · rw [x1_z]
          exact lw_E
    · replace b321_z : (rg_v g 178 2) = (0 : Int32) ∧ (rg_v g 178 2).toInt = (0 : Int32).toInt := b321_z
      replace hm_z := rn_ldc2 (w := (-9223372036854775808)) (am_cur_of (i := (58, 3, .ldc2_w 426, (0, 0, 1782), (-9223372036854775808))) (by decide +kernel)) (by decide) hm_z
      replace hm_z := rn_lret (am_cur_of (i := (61, 1, .lreturn, (0, 0, 0), 0)) (by decide +kernel)) hm_z
      obtain ⟨e339_z, e340_z⟩ := hm_z
      refine Or.inr ⟨by unfold lawG; omega, _, e339_z, ?_⟩
      unfold lawV
      rw [if_pos rfl]
      have eX : ∀ N, lawX p h0_z 2 N = none := by
        intro N
        rcases hL 2 (by decide) with ⟨-, u2_z, u3_z, -⟩ | ⟨f, T, t1_z, -⟩
        · have c1_z := rt_cl (x := rg_v h0_z (p + 12) 2) (by omega)
          have c2_z := rt_cl (x := rg_v h0_z (p + 13) 2) (by omega)
          unfold lawX
          rw [show (rg_v h0_z (p + 12) 2).toNatClampNeg = 0 by omega, show (rg_v h0_z (p + 13) 2).toNatClampNeg = 0 by omega]
          rfl
        · exact absurd (t1_z.symm.trans b321_z.1) (by decide)
      rw [eX]
      exact lw_E
theorem lm_187_x {n : Nat} {r : Option Value} {g g' : am_H} {wh n0_z : Int32} (n0_ : ¬ wh = 0) (n1_ : ¬ wh = 1) (n2_ : ¬ wh = 2) (hm_z : rn n am_m187 0 (lv_args 0 [.ref 164, .int wh, .int n0_z]) [] g r g') : r = some (.long (-9223372036854775808)) := by
  have z0_z : (0 : Int32).toInt = 0 := by decide
  have z1_z : (1 : Int32).toInt = 1 := by decide
  have z2_z : (2 : Int32).toInt = 2 := by decide
  have z999_z : (999 : Int32).toInt = 999 := by decide
  have nw0_z : ¬ wh = 0 := n0_
  have nw1_z : ¬ wh = 1 := n1_
  have w0_z : ¬ wh.toInt = 0 := fun q => n0_ (Int32.toInt_inj.mp (q.trans (by decide)))
  have w1_z : ¬ wh.toInt = 1 := fun q => n1_ (Int32.toInt_inj.mp (q.trans (by decide)))
  have w2_z : ¬ wh.toInt = 2 := fun q => n2_ (Int32.toInt_inj.mp (q.trans (by decide)))
  have g0_z : am_get (lv_args 0 [.ref 164, .int wh, .int n0_z]) 0 = some (.ref 164) := rfl
  have g1_z : am_get (lv_args 0 [.ref 164, .int wh, .int n0_z]) 1 = some (.int wh) := rfl
  have g2_z : am_get (lv_args 0 [.ref 164, .int wh, .int n0_z]) 2 = some (.int n0_z) := rfl
  replace hm_z := rn_aload_n (am_cur_of (i := (0, 1, .aload_n 0, (0, 0, 0), 0)) (by decide +kernel)) g0_z hm_z
  replace hm_z := rn_iconst (w := 0) (am_cur_of (i := (1, 1, .iconst 0, (0, 0, 0), 0)) (by decide +kernel)) (by decide) hm_z
  replace hm_z := rn_put (am_cur_of (i := (2, 3, .putfield 139, (12, 2, 1386), 0)) (by decide +kernel)) (by decide +kernel) hm_z
  replace hm_z := rn_iload_n (am_cur_of (i := (5, 1, .iload_n 1, (0, 0, 0), 0)) (by decide +kernel)) g1_z hm_z
  replace hm_z := rn_iconst (w := 0) (am_cur_of (i := (6, 1, .iconst 0, (0, 0, 0), 0)) (by decide +kernel)) (by decide) hm_z
  replace hm_z := rn_iconst (w := 2) (am_cur_of (i := (7, 1, .iconst 2, (0, 0, 0), 0)) (by decide +kernel)) (by decide) hm_z
  replace hm_z := rn_callS (M' := am_m162) (ar := [.int 2, .int 0, .int wh]) (rest := []) (L := lv_args 0 [.int wh, .int 0, .int 2]) (am_cur_of (i := (8, 3, .invokestatic 184, (162, 1681, 3), 0)) (by decide +kernel)) rfl rfl rfl rfl hm_z
  obtain ⟨r341_z, h342_z, q343_z, hm_z⟩ := hm_z
  rcases sm_162 q343_z with ⟨b344_z, rfl, y345_z⟩ | ⟨b346_z, b347_z, rfl, y348_z⟩ | ⟨b349_z, b350_z, rfl, y351_z⟩
  · replace y345_z := y345_z.symm
    subst y345_z
    replace b344_z : wh.toInt < (0 : Int32).toInt := b344_z
    replace hm_z : rn _ _ _ _ [.int 0] _ _ _ := hm_z
    replace hm_z := rn_ifT (am_cur_of (i := (11, 3, .ifCond .eq 32, (23, 0, 0), 0)) (by decide +kernel)) (by decide) hm_z
    replace hm_z := rn_ldc2 (w := (-9223372036854775808)) (am_cur_of (i := (43, 3, .ldc2_w 426, (0, 0, 1782), (-9223372036854775808))) (by decide +kernel)) (by decide) hm_z
    replace hm_z := rn_lret (am_cur_of (i := (46, 1, .lreturn, (0, 0, 0), 0)) (by decide +kernel)) hm_z
    obtain ⟨e352_z, e353_z⟩ := hm_z
    exact e352_z
  · replace y348_z := y348_z.symm
    subst y348_z
    replace b346_z : (0 : Int32).toInt ≤ wh.toInt := b346_z
    replace b347_z : (2 : Int32).toInt < wh.toInt := b347_z
    replace hm_z : rn _ _ _ _ [.int 0] _ _ _ := hm_z
    replace hm_z := rn_ifT (am_cur_of (i := (11, 3, .ifCond .eq 32, (23, 0, 0), 0)) (by decide +kernel)) (by decide) hm_z
    replace hm_z := rn_ldc2 (w := (-9223372036854775808)) (am_cur_of (i := (43, 3, .ldc2_w 426, (0, 0, 1782), (-9223372036854775808))) (by decide +kernel)) (by decide) hm_z
    replace hm_z := rn_lret (am_cur_of (i := (46, 1, .lreturn, (0, 0, 0), 0)) (by decide +kernel)) hm_z
    obtain ⟨e354_z, e355_z⟩ := hm_z
    exact e354_z
  · replace y351_z := y351_z.symm
    subst y351_z
    replace b349_z : (0 : Int32).toInt ≤ wh.toInt := b349_z
    replace b350_z : wh.toInt ≤ (2 : Int32).toInt := b350_z
    replace hm_z : rn _ _ _ _ [.int 1] _ _ _ := hm_z
    replace hm_z := rn_ifF (am_cur_of (i := (11, 3, .ifCond .eq 32, (23, 0, 0), 0)) (by decide +kernel)) (by decide) hm_z
    replace hm_z := rn_iload_n (am_cur_of (i := (14, 1, .iload_n 1, (0, 0, 0), 0)) (by decide +kernel)) g1_z hm_z
    replace hm_z := rn_if (am_cur_of (i := (15, 3, .ifCond .ne 12, (15, 0, 0), 0)) (by decide +kernel)) hm_z
    rcases hm_z with ⟨b356_z, hm_z⟩ | ⟨b356_z, hm_z⟩
    · replace b356_z : ¬ wh = (0 : Int32) ∧ ¬ wh.toInt = (0 : Int32).toInt := b356_z
      replace hm_z := rn_iload_n (am_cur_of (i := (27, 1, .iload_n 1, (0, 0, 0), 0)) (by decide +kernel)) g1_z hm_z
      replace hm_z := rn_iconst (w := 1) (am_cur_of (i := (28, 1, .iconst 1, (0, 0, 0), 0)) (by decide +kernel)) (by decide) hm_z
      replace hm_z := rn_cmp (am_cur_of (i := (29, 3, .if_icmp .ne 18, (25, 0, 0), 0)) (by decide +kernel)) hm_z
      rcases hm_z with ⟨b357_z, hm_z⟩ | ⟨b357_z, hm_z⟩
      · replace b357_z : ¬ wh = (1 : Int32) ∧ ¬ wh.toInt = (1 : Int32).toInt := b357_z
        replace hm_z := rn_iload_n (am_cur_of (i := (47, 1, .iload_n 1, (0, 0, 0), 0)) (by decide +kernel)) g1_z hm_z
        replace hm_z := rn_istore_n (am_cur_of (i := (48, 1, .istore_n 3, (0, 0, 0), 0)) (by decide +kernel)) hm_z
        obtain ⟨_, s358_z, s359_z, g3_z, hm_z⟩ := hm_z
        replace g0_z := s358_z 0 _ (by decide) rfl g0_z
        replace g1_z := s358_z 1 _ (by decide) rfl g1_z
        replace g2_z := s358_z 2 _ (by decide) rfl g2_z
        clear s358_z s359_z
        replace hm_z := rn_aload_n (am_cur_of (i := (49, 1, .aload_n 0, (0, 0, 0), 0)) (by decide +kernel)) g0_z hm_z
        replace hm_z := rn_getR (x := 178) (am_cur_of (i := (50, 3, .getfield 54, (12, 33, 1417), 0)) (by decide +kernel)) (by decide +kernel) hm_z
        replace hm_z := rn_iload_n (am_cur_of (i := (53, 1, .iload_n 3, (0, 0, 0), 0)) (by decide +kernel)) g3_z hm_z
        replace hm_z := rn_baload (N := 6) (q := wh.toNatClampNeg) (v := rg_v g 178 wh.toNatClampNeg) (am_cur_of (i := (54, 1, .baload, (0, 0, 0), 0)) (by decide +kernel)) (by decide +kernel) rfl ((rg_v_other (by omega)).trans (rfl)) hm_z
        obtain ⟨p360_z, hm_z⟩ := hm_z
        replace hm_z := rn_if (am_cur_of (i := (55, 3, .ifCond .ne 7, (34, 0, 0), 0)) (by decide +kernel)) hm_z
        rcases hm_z with ⟨b361_z, hm_z⟩ | ⟨b361_z, hm_z⟩
        · replace b361_z : ¬ (rg_v g 178 wh.toNatClampNeg) = (0 : Int32) ∧ ¬ (rg_v g 178 wh.toNatClampNeg).toInt = (0 : Int32).toInt := b361_z
          exfalso
          omega
        · replace b361_z : (rg_v g 178 wh.toNatClampNeg) = (0 : Int32) ∧ (rg_v g 178 wh.toNatClampNeg).toInt = (0 : Int32).toInt := b361_z
          exfalso
          omega
      · replace b357_z : wh = (1 : Int32) ∧ wh.toInt = (1 : Int32).toInt := b357_z
        exact absurd b357_z.1 nw1_z
    · replace b356_z : wh = (0 : Int32) ∧ wh.toInt = (0 : Int32).toInt := b356_z
      exact absurd b356_z.1 nw0_z
