set_option maxHeartbeats 400000
/-! ===== blow OF THE MODEL, WITH FULL (wip/r/gen99spb.py) ===== -/
theorem nB_x {o q : Nat} (h : nB o q = false) : ¬ (o = 164 ∧ q = 49) ∧ ¬ o = 187 ∧ ¬ o = 186 := by
  refine ⟨?_, ?_, ?_⟩
  · rintro ⟨rfl, rfl⟩
    exact absurd h (by decide)
  · rintro rfl
    exact absurd (show true = false from h) (by decide)
  · rintro rfl
    exact absurd (show true = false from h) (by decide)
theorem nB_y {o q : Nat} (h : ¬ (o = 164 ∧ q = 49)) (h7_z : ¬ o = 187) (h6_z : ¬ o = 186) : nB o q = false := by
  unfold nB
  split
  · cases e : Nat.beq q 49 with
    | false => rfl
    | true => exact absurd ⟨rfl, Nat.eq_of_beq_eq_true e⟩ h
  · exact absurd rfl h6_z
  · exact absurd rfl h7_z
  · rfl
theorem mQ2_n {o q : Nat} (h : mQ2 o q) : nB o q = false := nB_y (by unfold mQ2 at h; omega) (by unfold mQ2 at h; omega) (by unfold mQ2 at h; omega)
theorem ix_70 {k : Int32} (k0_z : 0 ≤ k.toInt) (k3_z : k.toInt ≤ 3) : ((7 : Int32) * k).toNatClampNeg = 7 * k.toNatClampNeg := by
  have z : (7 : Int32).toInt = 7 := by decide
  have a := ab_imul (x := 7) (y := k) (by rw [z]; omega) (by rw [z]; omega)
  rw [z] at a
  have c := rt_cl (x := 7 * k) (by omega)
  have d := rt_cl (x := k) k0_z
  omega
theorem ms_199_0 {n : Nat} {p : Nat} {h0_z : am_H} {Hd pf U ra re nl lk pt mo : Int32} {r : Option Value} {g g' : am_H} {F S : Int32} (H0 : 0 ≤ Hd.toInt) (H9 : Hd.toInt ≤ 9999) (p0_z : 0 ≤ pf.toInt) (p9_z : pf.toInt ≤ 9999) (m0_z : 0 ≤ mo.toInt) (m9_z : mo.toInt ≤ 999) (C : mC p h0_z Hd pf U ra re nl lk pt mo g) (eF : rg_v g 188 1 = F) (eS : rg_v g 189 1 = S) (F0 : 0 ≤ F.toInt) (F9 : F.toInt ≤ 9999) (hm_z : rn n am_m199 0 (lv_args 0 [.ref 164, .int 1, .int 0, .int 0]) [] g r g') : ∃ x : Int32, x.toInt = secZ p h0_z U Hd 0 pf mo 0 F S ∧ (0 ≤ x.toInt ∧ x.toInt ≤ 9999) ∧ rg_v g' 188 1 = x ∧ rg_v g' 189 1 = S + 1 ∧ mC p h0_z Hd pf U ra re nl lk pt mo g' ∧ f1_z g g' := by
  have n1e : (1 : Int32).toNatClampNeg = 1 := by decide
  have CC := C
  obtain ⟨c0_z, c1_z, c2_z, c3_z, c4_z, c5_z, c6_z, c7_z, c8_z, c9_z⟩ := C
  obtain ⟨x, xe, x1_z, x2_z, xf⟩ := as_199_0 (S := S) c0_z (by rw [n1e]; exact eF) (by rw [n1e]; exact eS) c1_z c2_z c3_z c4_z c5_z c6_z c7_z c8_z c9_z H0 H9 p0_z p9_z m0_z m9_z F0 (by omega) hm_z
  rw [n1e] at x1_z x2_z xf
  have zr := secZ_r (p := p) (h0_z := h0_z) (U := U) (pu := 0) (S := S) (o := 0) H0 H9 p0_z m0_z F0 F9 (by decide)
  rw [← xe] at zr
  exact ⟨x, xe, zr, x1_z, x2_z, mC_e (fun o q e => xf o q (by unfold mQ2 at e; omega) (by unfold mQ2 at e; omega) (by unfold mQ2 at e; omega) (by unfold mQ2 at e; omega) (by unfold mQ2 at e; omega)) CC, fun o q e a b => xf o q (nB_x e).1 (nB_x e).2.1 (nB_x e).2.2 a b⟩
theorem ms_199_1 {n : Nat} {p : Nat} {h0_z : am_H} {Hd pf U ra re nl lk pt mo : Int32} {r : Option Value} {g g' : am_H} {F S : Int32} (H0 : 0 ≤ Hd.toInt) (H9 : Hd.toInt ≤ 9999) (p0_z : 0 ≤ pf.toInt) (p9_z : pf.toInt ≤ 9999) (m0_z : 0 ≤ mo.toInt) (m9_z : mo.toInt ≤ 999) (C : mC p h0_z Hd pf U ra re nl lk pt mo g) (eF : rg_v g 188 1 = F) (eS : rg_v g 189 1 = S) (F0 : 0 ≤ F.toInt) (F9 : F.toInt ≤ 9999) (hm_z : rn n am_m199 0 (lv_args 0 [.ref 164, .int 1, .int 1, .int 0]) [] g r g') : ∃ x : Int32, x.toInt = secZ p h0_z U Hd 0 pf mo 1 F S ∧ (0 ≤ x.toInt ∧ x.toInt ≤ 9999) ∧ rg_v g' 188 1 = x ∧ rg_v g' 189 1 = S + 1 ∧ mC p h0_z Hd pf U ra re nl lk pt mo g' ∧ f1_z g g' := by
  have n1e : (1 : Int32).toNatClampNeg = 1 := by decide
  have CC := C
  obtain ⟨c0_z, c1_z, c2_z, c3_z, c4_z, c5_z, c6_z, c7_z, c8_z, c9_z⟩ := C
  obtain ⟨x, xe, x1_z, x2_z, xf⟩ := as_199_1 (S := S) c0_z (by rw [n1e]; exact eF) (by rw [n1e]; exact eS) c1_z c2_z c3_z c4_z c5_z c6_z c7_z c8_z c9_z H0 H9 p0_z p9_z m0_z m9_z F0 (by omega) hm_z
  rw [n1e] at x1_z x2_z xf
  have zr := secZ_r (p := p) (h0_z := h0_z) (U := U) (pu := 0) (S := S) (o := 1) H0 H9 p0_z m0_z F0 F9 (by decide)
  rw [← xe] at zr
  exact ⟨x, xe, zr, x1_z, x2_z, mC_e (fun o q e => xf o q (by unfold mQ2 at e; omega) (by unfold mQ2 at e; omega) (by unfold mQ2 at e; omega) (by unfold mQ2 at e; omega) (by unfold mQ2 at e; omega)) CC, fun o q e a b => xf o q (nB_x e).1 (nB_x e).2.1 (nB_x e).2.2 a b⟩
theorem mg_198 {n : Nat} {h h' : am_H} {r : Option Value} {k : Int32}  (hc_z : rn n am_m198 0 (lv_args 0 [.ref 164, .int 1, .int k]) [] h r h') : (((rg_v h 190 1) = ((-1) : Int32) ∧ (rg_v h 190 1).toInt = ((-1) : Int32).toInt) ∧ r = some (.int 0) ∧ h' = h) ∨ ((¬ (rg_v h 190 1) = ((-1) : Int32) ∧ ¬ (rg_v h 190 1).toInt = ((-1) : Int32).toInt) ∧ ((rg_v h 190 1) = k ∧ (rg_v h 190 1).toInt = k.toInt) ∧ r = some (.int 0) ∧ h' = h) ∨ ((¬ (rg_v h 190 1) = ((-1) : Int32) ∧ ¬ (rg_v h 190 1).toInt = ((-1) : Int32).toInt) ∧ (¬ (rg_v h 190 1) = k ∧ ¬ (rg_v h 190 1).toInt = k.toInt) ∧ r = some (.int 1) ∧ h' = h) := by
  have g0_z : am_get (lv_args 0 [.ref 164, .int 1, .int k]) 0 = some (.ref 164) := rfl
  have g1_z : am_get (lv_args 0 [.ref 164, .int 1, .int k]) 1 = some (.int 1) := rfl
  have g2_z : am_get (lv_args 0 [.ref 164, .int 1, .int k]) 2 = some (.int k) := rfl
  replace hc_z := rn_aload_n (am_cur_of (i := (0, 1, .aload_n 0, (0, 0, 0), 0)) (by decide +kernel)) g0_z hc_z
  replace hc_z := rn_getR (x := 190) (am_cur_of (i := (1, 3, .getfield 91, (12, 52, 1436), 0)) (by decide +kernel)) (by decide +kernel) hc_z
  replace hc_z := rn_iload_n (am_cur_of (i := (4, 1, .iload_n 1, (0, 0, 0), 0)) (by decide +kernel)) g1_z hc_z
  replace hc_z := rn_iaload (N := 4) (q := 1) (v := rg_v h 190 1) (am_cur_of (i := (5, 1, .iaload, (0, 0, 0), 0)) (by decide +kernel)) (by decide +kernel) rfl rfl hc_z
  obtain ⟨p1_z, hc_z⟩ := hc_z
  replace hc_z := rn_iconst (w := (-1)) (am_cur_of (i := (6, 1, .iconst (-1), (0, 0, 0), 0)) (by decide +kernel)) (by decide) hc_z
  replace hc_z := rn_cmp (am_cur_of (i := (7, 3, .if_icmp .eq 17, (14, 0, 0), 0)) (by decide +kernel)) hc_z
  rcases hc_z with ⟨b2_z, hc_z⟩ | ⟨b2_z, hc_z⟩
  · replace b2_z : (rg_v h 190 1) = ((-1) : Int32) ∧ (rg_v h 190 1).toInt = ((-1) : Int32).toInt := b2_z
    replace hc_z := rn_iconst (w := 0) (am_cur_of (i := (24, 1, .iconst 0, (0, 0, 0), 0)) (by decide +kernel)) (by decide) hc_z
    replace hc_z := rn_iret (am_cur_of (i := (25, 1, .ireturn, (0, 0, 0), 0)) (by decide +kernel)) hc_z
    obtain ⟨e3_z, e4_z⟩ := hc_z
    exact Or.inl ⟨b2_z, e3_z, e4_z⟩
  · replace b2_z : ¬ (rg_v h 190 1) = ((-1) : Int32) ∧ ¬ (rg_v h 190 1).toInt = ((-1) : Int32).toInt := b2_z
    replace hc_z := rn_aload_n (am_cur_of (i := (10, 1, .aload_n 0, (0, 0, 0), 0)) (by decide +kernel)) g0_z hc_z
    replace hc_z := rn_getR (x := 190) (am_cur_of (i := (11, 3, .getfield 91, (12, 52, 1436), 0)) (by decide +kernel)) (by decide +kernel) hc_z
    replace hc_z := rn_iload_n (am_cur_of (i := (14, 1, .iload_n 1, (0, 0, 0), 0)) (by decide +kernel)) g1_z hc_z
    replace hc_z := rn_iaload (N := 4) (q := 1) (v := rg_v h 190 1) (am_cur_of (i := (15, 1, .iaload, (0, 0, 0), 0)) (by decide +kernel)) (by decide +kernel) rfl rfl hc_z
    obtain ⟨p5_z, hc_z⟩ := hc_z
    replace hc_z := rn_iload_n (am_cur_of (i := (16, 1, .iload_n 2, (0, 0, 0), 0)) (by decide +kernel)) g2_z hc_z
    replace hc_z := rn_cmp (am_cur_of (i := (17, 3, .if_icmp .eq 7, (14, 0, 0), 0)) (by decide +kernel)) hc_z
    rcases hc_z with ⟨b6_z, hc_z⟩ | ⟨b6_z, hc_z⟩
    · replace b6_z : (rg_v h 190 1) = k ∧ (rg_v h 190 1).toInt = k.toInt := b6_z
      replace hc_z := rn_iconst (w := 0) (am_cur_of (i := (24, 1, .iconst 0, (0, 0, 0), 0)) (by decide +kernel)) (by decide) hc_z
      replace hc_z := rn_iret (am_cur_of (i := (25, 1, .ireturn, (0, 0, 0), 0)) (by decide +kernel)) hc_z
      obtain ⟨e7_z, e8_z⟩ := hc_z
      exact Or.inr (Or.inl ⟨b2_z, b6_z, e7_z, e8_z⟩)
    · replace b6_z : ¬ (rg_v h 190 1) = k ∧ ¬ (rg_v h 190 1).toInt = k.toInt := b6_z
      replace hc_z := rn_iconst (w := 1) (am_cur_of (i := (20, 1, .iconst 1, (0, 0, 0), 0)) (by decide +kernel)) (by decide) hc_z
      replace hc_z := rn_goto (am_cur_of (i := (21, 3, .goto 4, (15, 0, 0), 0)) (by decide +kernel)) hc_z
      replace hc_z := rn_iret (am_cur_of (i := (25, 1, .ireturn, (0, 0, 0), 0)) (by decide +kernel)) hc_z
      obtain ⟨e9_z, e10_z⟩ := hc_z
      exact Or.inr (Or.inr (⟨b2_z, b6_z, e9_z, e10_z⟩))
theorem bm_h {p : Nat} {h0_z : am_H} {Hd pf U ra re nl lk pt mo : Int32} {r : Option Value} {g' : am_H} {k m hd_z bl : Int32} (H0 : 0 ≤ Hd.toInt) (H9 : Hd.toInt ≤ 9999) (p0_z : 0 ≤ pf.toInt) (p9_z : pf.toInt ≤ 9999) (m0_z : 0 ≤ mo.toInt) (m9_z : mo.toInt ≤ 999) (k0_z : 0 ≤ k.toInt) (k3_z : k.toInt ≤ 3) (ov : ¬ (bl = -1 ∨ bl = k)) : ∀ (f j : Nat) (i F t : Int32) (ls : am_L) (g : am_H), mC p h0_z Hd pf U ra re nl lk pt mo g → rg_v g 188 1 = F → 0 ≤ F.toInt → F.toInt ≤ 9999 → rg_v g 170 (7 * k.toNatClampNeg + 5) = hd_z → rg_v g 190 1 = bl → rg_v g 189 1 = t → am_get ls 0 = some (.ref 164) → am_get ls 1 = some (.int k) → am_get ls 2 = some (.int m) → am_get ls 3 = some (.int i) → i.toInt + j = hd_z.toInt → t.toInt + j < 2147483647 → 0 ≤ t.toInt → rn f am_m196 20 ls [] g r g' → ∃ l2_z g2_z G, am_get l2_z 0 = some (.ref 164) ∧ am_get l2_z 1 = some (.int k) ∧ am_get l2_z 2 = some (.int m) ∧ rn f am_m196 42 l2_z [] g2_z r g' ∧ gR (secZ p h0_z U Hd 0 pf mo 1) j F t G ∧ rg_v g2_z 188 1 = G ∧ (rg_v g2_z 189 1).toInt = t.toInt + j ∧ mC p h0_z Hd pf U ra re nl lk pt mo g2_z ∧ f1_z g g2_z := by
  intro f
  induction f with
  | zero => intro j i F t ls g C eF F0 F9 Eh Eb E1 g0_z g1_z g2_z g3_z ij tj t0_z hm_z; exact absurd hm_z rn_0
  | succ f ih_z =>
    intro j i F t ls g C eF F0 F9 Eh Eb E1 g0_z g1_z g2_z g3_z ij tj t0_z hm_z
    have z0_z : (0 : Int32).toInt = 0 := by decide
    have z1_z : (1 : Int32).toInt = 1 := by decide
    have y4_z : ((4 : Int32) + k).toNatClampNeg = 4 + k.toNatClampNeg := ix_4 (c := 4) k0_z k3_z (by decide) (by decide)
    have x2_z : (((7 : Int32) * k) + 2).toNatClampNeg = 7 * k.toNatClampNeg + 2 := ix_7 (c := 2) k0_z k3_z (by decide) (by decide)
    have x3_z : (((7 : Int32) * k) + 3).toNatClampNeg = 7 * k.toNatClampNeg + 3 := ix_7 (c := 3) k0_z k3_z (by decide) (by decide)
    have x4_z : (((7 : Int32) * k) + 4).toNatClampNeg = 7 * k.toNatClampNeg + 4 := ix_7 (c := 4) k0_z k3_z (by decide) (by decide)
    have x5_z : (((7 : Int32) * k) + 5).toNatClampNeg = 7 * k.toNatClampNeg + 5 := ix_7 (c := 5) k0_z k3_z (by decide) (by decide)
    replace hm_z := rn_iload_n (am_cur_of (i := (33, 1, .iload_n 3, (0, 0, 0), 0)) (by decide +kernel)) g3_z hm_z
    replace hm_z := rn_aload_n (am_cur_of (i := (34, 1, .aload_n 0, (0, 0, 0), 0)) (by decide +kernel)) g0_z hm_z
    replace hm_z := rn_getR (x := 170) (am_cur_of (i := (35, 3, .getfield 30, (12, 25, 1409), 0)) (by decide +kernel)) (by decide +kernel) hm_z
    replace hm_z := rn_bipush (w := 7) (am_cur_of (i := (38, 2, .bipush 7, (0, 0, 0), 0)) (by decide +kernel)) (by decide) hm_z
    replace hm_z := rn_iload_n (am_cur_of (i := (40, 1, .iload_n 1, (0, 0, 0), 0)) (by decide +kernel)) g1_z hm_z
    replace hm_z := rn_imul (w := (7 : Int32) * k) (am_cur_of (i := (41, 1, .imul, (0, 0, 0), 0)) (by decide +kernel)) rfl hm_z
    replace hm_z := rn_iconst (w := 5) (am_cur_of (i := (42, 1, .iconst 5, (0, 0, 0), 0)) (by decide +kernel)) (by decide) hm_z
    replace hm_z := rn_iadd (w := ((7 : Int32) * k) + 5) (am_cur_of (i := (43, 1, .iadd, (0, 0, 0), 0)) (by decide +kernel)) rfl hm_z
    replace hm_z := rn_iaload (N := 56) (q := (((7 : Int32) * k) + 5).toNatClampNeg) (v := hd_z) (am_cur_of (i := (44, 1, .iaload, (0, 0, 0), 0)) (by decide +kernel)) (by decide +kernel) rfl (by rw [x5_z]; exact Eh) hm_z
    obtain ⟨p11_z, hm_z⟩ := hm_z
    replace hm_z := rn_cmp (am_cur_of (i := (45, 3, .if_icmp .ge 25, (42, 0, 0), 0)) (by decide +kernel)) hm_z
    rcases hm_z with ⟨b12_z, hm_z⟩ | ⟨b12_z, hm_z⟩
    · replace b12_z : hd_z.toInt ≤ i.toInt := b12_z
      obtain rfl : j = 0 := by omega
      exact ⟨_, _, F, g0_z, g1_z, g2_z, hm_z, rfl, eF, by rw [E1]; omega, C, f1_r⟩
    · replace b12_z : i.toInt < hd_z.toInt := b12_z
      obtain ⟨j, rfl⟩ : ∃ j2_z, j = j2_z + 1 := ⟨j - 1, by omega⟩
      have ci_z := fk_c1 b12_z
      have ct := ab_iadd (x := t) (y := 1) (by omega) (by omega)
      replace hm_z := rn_aload_n (am_cur_of (i := (48, 1, .aload_n 0, (0, 0, 0), 0)) (by decide +kernel)) g0_z hm_z
      replace hm_z := rn_iconst (w := 1) (am_cur_of (i := (49, 1, .iconst 1, (0, 0, 0), 0)) (by decide +kernel)) (by decide) hm_z
      replace hm_z := rn_iload_n (am_cur_of (i := (50, 1, .iload_n 1, (0, 0, 0), 0)) (by decide +kernel)) g1_z hm_z
      replace hm_z := rn_callV (M' := am_m198) (o := 164) (ar := [.int k, .int 1]) (rest := []) (L := lv_args 0 [.ref 164, .int 1, .int k]) (am_cur_of (i := (51, 3, .invokevirtual 431, (198, 1824, 3), 0)) (by decide +kernel)) rfl rfl rfl rfl hm_z
      obtain ⟨r13_z, h14_z, q15_z, hm_z⟩ := hm_z
      rcases mg_198 q15_z with ⟨c0_0, rfl, yy⟩ | ⟨c1_0, c1_1, rfl, yy⟩ | ⟨c2_0, c2_1, rfl, yy⟩
      · exact absurd (Or.inl (Eb.symm.trans c0_0.1)) ov
      · exact absurd (Or.inr (Eb.symm.trans c1_1.1)) ov
      · replace yy := yy.symm
        subst yy
        replace hm_z : rn _ _ _ _ [.int 1] _ _ _ := hm_z
        replace hm_z := rn_ifF (am_cur_of (i := (54, 3, .ifCond .eq 16, (42, 0, 0), 0)) (by decide +kernel)) (by decide) hm_z
        replace hm_z := rn_aload_n (am_cur_of (i := (57, 1, .aload_n 0, (0, 0, 0), 0)) (by decide +kernel)) g0_z hm_z
        replace hm_z := rn_iconst (w := 1) (am_cur_of (i := (58, 1, .iconst 1, (0, 0, 0), 0)) (by decide +kernel)) (by decide) hm_z
        replace hm_z := rn_iconst (w := 1) (am_cur_of (i := (59, 1, .iconst 1, (0, 0, 0), 0)) (by decide +kernel)) (by decide) hm_z
        replace hm_z := rn_iconst (w := 0) (am_cur_of (i := (60, 1, .iconst 0, (0, 0, 0), 0)) (by decide +kernel)) (by decide) hm_z
        replace hm_z := rn_callV (M' := am_m199) (o := 164) (ar := [.int 0, .int 1, .int 1]) (rest := []) (L := lv_args 0 [.ref 164, .int 1, .int 1, .int 0]) (am_cur_of (i := (61, 3, .invokevirtual 434, (199, 1828, 3), 0)) (by decide +kernel)) rfl rfl rfl rfl hm_z
        obtain ⟨r16_z, h17_z, q18_z, hm_z⟩ := hm_z
        have vo := rn_void rfl q18_z
        subst vo
        obtain ⟨x, xe, ⟨x0_z, x9_z⟩, a0_z, a1_z, C2, af⟩ := ms_199_1 H0 H9 p0_z p9_z m0_z m9_z C eF E1 F0 F9 q18_z
        replace hm_z : rn _ _ _ _ [] _ _ _ := hm_z
        replace hm_z := rn_iinc (w := i + 1) (am_cur_of (i := (64, 3, .iinc 3 1, (0, 0, 0), 0)) (by decide +kernel)) g3_z rfl hm_z
        obtain ⟨_, s19_z, s20_z, g3_z, hm_z⟩ := hm_z
        replace g0_z := s19_z 0 _ (by decide) rfl g0_z
        replace g1_z := s19_z 1 _ (by decide) rfl g1_z
        replace g2_z := s19_z 2 _ (by decide) rfl g2_z
        clear s19_z s20_z
        replace hm_z := rn_gotoL (am_cur_of (i := (67, 3, .goto (-34), (20, 0, 0), 0)) (by decide +kernel)) hm_z
        obtain ⟨l2_z, g2x, G, u0_z, u1_z, u2_z, u3_z, u4_z, u5_z, u6_z, u7_z, u8_z⟩ := ih_z j (i + 1) x (t + 1) _ _ C2 a0_z x0_z x9_z ((f1_v af rfl (by omega) (by omega)).trans Eh) ((f1_v af rfl (by omega) (by omega)).trans Eb) a1_z g0_z g1_z g2_z g3_z (by omega) (by omega) (by omega) hm_z
        exact ⟨l2_z, g2x, G, u0_z, u1_z, u2_z, rn_up (Nat.le_succ _) u3_z, ⟨x, xe, u4_z⟩, u5_z, by omega, u7_z, f1_t af u8_z⟩
theorem bm_h0 {n : Nat} {r : Option Value} {g g' : am_H} {ls : am_L} {k m hd_z bl : Int32} (k0_z : 0 ≤ k.toInt) (k3_z : k.toInt ≤ 3) (ov : bl = -1 ∨ bl = k) (Eh : rg_v g 170 (7 * k.toNatClampNeg + 5) = hd_z) (Eb : rg_v g 190 1 = bl) (g0_z : am_get ls 0 = some (.ref 164)) (g1_z : am_get ls 1 = some (.int k)) (g2_z : am_get ls 2 = some (.int m)) (g3_z : am_get ls 3 = some (.int 0)) (hm_z : rn n am_m196 20 ls [] g r g') : ∃ l2_z, am_get l2_z 0 = some (.ref 164) ∧ am_get l2_z 1 = some (.int k) ∧ am_get l2_z 2 = some (.int m) ∧ rn n am_m196 42 l2_z [] g r g' := by
  have z0_z : (0 : Int32).toInt = 0 := by decide
  have y4_z : ((4 : Int32) + k).toNatClampNeg = 4 + k.toNatClampNeg := ix_4 (c := 4) k0_z k3_z (by decide) (by decide)
  have x2_z : (((7 : Int32) * k) + 2).toNatClampNeg = 7 * k.toNatClampNeg + 2 := ix_7 (c := 2) k0_z k3_z (by decide) (by decide)
  have x3_z : (((7 : Int32) * k) + 3).toNatClampNeg = 7 * k.toNatClampNeg + 3 := ix_7 (c := 3) k0_z k3_z (by decide) (by decide)
  have x4_z : (((7 : Int32) * k) + 4).toNatClampNeg = 7 * k.toNatClampNeg + 4 := ix_7 (c := 4) k0_z k3_z (by decide) (by decide)
  have x5_z : (((7 : Int32) * k) + 5).toNatClampNeg = 7 * k.toNatClampNeg + 5 := ix_7 (c := 5) k0_z k3_z (by decide) (by decide)
  replace hm_z := rn_iload_n (am_cur_of (i := (33, 1, .iload_n 3, (0, 0, 0), 0)) (by decide +kernel)) g3_z hm_z
  replace hm_z := rn_aload_n (am_cur_of (i := (34, 1, .aload_n 0, (0, 0, 0), 0)) (by decide +kernel)) g0_z hm_z
  replace hm_z := rn_getR (x := 170) (am_cur_of (i := (35, 3, .getfield 30, (12, 25, 1409), 0)) (by decide +kernel)) (by decide +kernel) hm_z
  replace hm_z := rn_bipush (w := 7) (am_cur_of (i := (38, 2, .bipush 7, (0, 0, 0), 0)) (by decide +kernel)) (by decide) hm_z
  replace hm_z := rn_iload_n (am_cur_of (i := (40, 1, .iload_n 1, (0, 0, 0), 0)) (by decide +kernel)) g1_z hm_z
  replace hm_z := rn_imul (w := (7 : Int32) * k) (am_cur_of (i := (41, 1, .imul, (0, 0, 0), 0)) (by decide +kernel)) rfl hm_z
  replace hm_z := rn_iconst (w := 5) (am_cur_of (i := (42, 1, .iconst 5, (0, 0, 0), 0)) (by decide +kernel)) (by decide) hm_z
  replace hm_z := rn_iadd (w := ((7 : Int32) * k) + 5) (am_cur_of (i := (43, 1, .iadd, (0, 0, 0), 0)) (by decide +kernel)) rfl hm_z
  replace hm_z := rn_iaload (N := 56) (q := (((7 : Int32) * k) + 5).toNatClampNeg) (v := hd_z) (am_cur_of (i := (44, 1, .iaload, (0, 0, 0), 0)) (by decide +kernel)) (by decide +kernel) rfl (by rw [x5_z]; exact Eh) hm_z
  obtain ⟨p21_z, hm_z⟩ := hm_z
  replace hm_z := rn_cmp (am_cur_of (i := (45, 3, .if_icmp .ge 25, (42, 0, 0), 0)) (by decide +kernel)) hm_z
  rcases hm_z with ⟨b22_z, hm_z⟩ | ⟨b22_z, hm_z⟩
  · replace b22_z : hd_z.toInt ≤ (0 : Int32).toInt := b22_z
    exact ⟨_, g0_z, g1_z, g2_z, hm_z⟩
  · replace b22_z : (0 : Int32).toInt < hd_z.toInt := b22_z
    replace hm_z := rn_aload_n (am_cur_of (i := (48, 1, .aload_n 0, (0, 0, 0), 0)) (by decide +kernel)) g0_z hm_z
    replace hm_z := rn_iconst (w := 1) (am_cur_of (i := (49, 1, .iconst 1, (0, 0, 0), 0)) (by decide +kernel)) (by decide) hm_z
    replace hm_z := rn_iload_n (am_cur_of (i := (50, 1, .iload_n 1, (0, 0, 0), 0)) (by decide +kernel)) g1_z hm_z
    replace hm_z := rn_callV (M' := am_m198) (o := 164) (ar := [.int k, .int 1]) (rest := []) (L := lv_args 0 [.ref 164, .int 1, .int k]) (am_cur_of (i := (51, 3, .invokevirtual 431, (198, 1824, 3), 0)) (by decide +kernel)) rfl rfl rfl rfl hm_z
    obtain ⟨r23_z, h24_z, q25_z, hm_z⟩ := hm_z
    rcases mg_198 q25_z with ⟨c0_0, rfl, yy⟩ | ⟨c1_0, c1_1, rfl, yy⟩ | ⟨c2_0, c2_1, rfl, yy⟩
    · replace yy := yy.symm
      subst yy
      replace hm_z : rn _ _ _ _ [.int 0] _ _ _ := hm_z
      replace hm_z := rn_ifT (am_cur_of (i := (54, 3, .ifCond .eq 16, (42, 0, 0), 0)) (by decide +kernel)) (by decide) hm_z
      exact ⟨_, g0_z, g1_z, g2_z, hm_z⟩
    · replace yy := yy.symm
      subst yy
      replace hm_z : rn _ _ _ _ [.int 0] _ _ _ := hm_z
      replace hm_z := rn_ifT (am_cur_of (i := (54, 3, .ifCond .eq 16, (42, 0, 0), 0)) (by decide +kernel)) (by decide) hm_z
      exact ⟨_, g0_z, g1_z, g2_z, hm_z⟩
    · exact absurd ov (fun q => q.elim (fun z => c2_0.1 (Eb.trans z)) (fun z => c2_1.1 (Eb.trans z)))
theorem bm_t {p : Nat} {h0_z : am_H} {Hd pf U ra re nl lk pt mo : Int32} {r : Option Value} {g' : am_H} {k m z tk : Int32} (H0 : 0 ≤ Hd.toInt) (H9 : Hd.toInt ≤ 9999) (p0_z : 0 ≤ pf.toInt) (p9_z : pf.toInt ≤ 9999) (m0_z : 0 ≤ mo.toInt) (m9_z : mo.toInt ≤ 999) (k0_z : 0 ≤ k.toInt) (k3_z : k.toInt ≤ 3) : ∀ (f j : Nat) (i F t : Int32) (ls : am_L) (g : am_H), mC p h0_z Hd pf U ra re nl lk pt mo g → rg_v g 188 1 = F → 0 ≤ F.toInt → F.toInt ≤ 9999 → rg_v g 170 (7 * k.toNatClampNeg + 3) = tk → rg_v g 189 1 = t → am_get ls 0 = some (.ref 164) → am_get ls 1 = some (.int k) → am_get ls 2 = some (.int m) → am_get ls 3 = some (.int z) → am_get ls 4 = some (.int i) → i.toInt + j = tk.toInt → t.toInt + j < 2147483647 → 0 ≤ t.toInt → rn f am_m196 56 ls [] g r g' → ∃ l2_z g2_z G, am_get l2_z 0 = some (.ref 164) ∧ am_get l2_z 1 = some (.int k) ∧ am_get l2_z 2 = some (.int m) ∧ am_get l2_z 3 = some (.int z) ∧ rn f am_m196 73 l2_z [] g2_z r g' ∧ gR (secZ p h0_z U Hd 0 pf mo 0) j F t G ∧ rg_v g2_z 188 1 = G ∧ (rg_v g2_z 189 1).toInt = t.toInt + j ∧ mC p h0_z Hd pf U ra re nl lk pt mo g2_z ∧ f1_z g g2_z := by
  intro f
  induction f with
  | zero => intro j i F t ls g C eF F0 F9 Et E1 g0_z g1_z g2_z g3_z g4_z ij tj t0_z hm_z; exact absurd hm_z rn_0
  | succ f ih_z =>
    intro j i F t ls g C eF F0 F9 Et E1 g0_z g1_z g2_z g3_z g4_z ij tj t0_z hm_z
    have z0_z : (0 : Int32).toInt = 0 := by decide
    have z1_z : (1 : Int32).toInt = 1 := by decide
    have y4_z : ((4 : Int32) + k).toNatClampNeg = 4 + k.toNatClampNeg := ix_4 (c := 4) k0_z k3_z (by decide) (by decide)
    have x2_z : (((7 : Int32) * k) + 2).toNatClampNeg = 7 * k.toNatClampNeg + 2 := ix_7 (c := 2) k0_z k3_z (by decide) (by decide)
    have x3_z : (((7 : Int32) * k) + 3).toNatClampNeg = 7 * k.toNatClampNeg + 3 := ix_7 (c := 3) k0_z k3_z (by decide) (by decide)
    have x4_z : (((7 : Int32) * k) + 4).toNatClampNeg = 7 * k.toNatClampNeg + 4 := ix_7 (c := 4) k0_z k3_z (by decide) (by decide)
    have x5_z : (((7 : Int32) * k) + 5).toNatClampNeg = 7 * k.toNatClampNeg + 5 := ix_7 (c := 5) k0_z k3_z (by decide) (by decide)
    replace hm_z := rn_iload (am_cur_of (i := (92, 2, .iload 4, (0, 0, 0), 0)) (by decide +kernel)) g4_z hm_z
    replace hm_z := rn_aload_n (am_cur_of (i := (94, 1, .aload_n 0, (0, 0, 0), 0)) (by decide +kernel)) g0_z hm_z
    replace hm_z := rn_getR (x := 170) (am_cur_of (i := (95, 3, .getfield 30, (12, 25, 1409), 0)) (by decide +kernel)) (by decide +kernel) hm_z
    replace hm_z := rn_bipush (w := 7) (am_cur_of (i := (98, 2, .bipush 7, (0, 0, 0), 0)) (by decide +kernel)) (by decide) hm_z
    replace hm_z := rn_iload_n (am_cur_of (i := (100, 1, .iload_n 1, (0, 0, 0), 0)) (by decide +kernel)) g1_z hm_z
    replace hm_z := rn_imul (w := (7 : Int32) * k) (am_cur_of (i := (101, 1, .imul, (0, 0, 0), 0)) (by decide +kernel)) rfl hm_z
    replace hm_z := rn_iconst (w := 3) (am_cur_of (i := (102, 1, .iconst 3, (0, 0, 0), 0)) (by decide +kernel)) (by decide) hm_z
    replace hm_z := rn_iadd (w := ((7 : Int32) * k) + 3) (am_cur_of (i := (103, 1, .iadd, (0, 0, 0), 0)) (by decide +kernel)) rfl hm_z
    replace hm_z := rn_iaload (N := 56) (q := (((7 : Int32) * k) + 3).toNatClampNeg) (v := tk) (am_cur_of (i := (104, 1, .iaload, (0, 0, 0), 0)) (by decide +kernel)) (by decide +kernel) rfl (by rw [x3_z]; exact Et) hm_z
    obtain ⟨p26_z, hm_z⟩ := hm_z
    replace hm_z := rn_cmp (am_cur_of (i := (105, 3, .if_icmp .ge 16, (73, 0, 0), 0)) (by decide +kernel)) hm_z
    rcases hm_z with ⟨b27_z, hm_z⟩ | ⟨b27_z, hm_z⟩
    · replace b27_z : tk.toInt ≤ i.toInt := b27_z
      obtain rfl : j = 0 := by omega
      exact ⟨_, _, F, g0_z, g1_z, g2_z, g3_z, hm_z, rfl, eF, by rw [E1]; omega, C, f1_r⟩
    · replace b27_z : i.toInt < tk.toInt := b27_z
      obtain ⟨j, rfl⟩ : ∃ j2_z, j = j2_z + 1 := ⟨j - 1, by omega⟩
      have ci_z := fk_c1 b27_z
      have ct := ab_iadd (x := t) (y := 1) (by omega) (by omega)
      replace hm_z := rn_aload_n (am_cur_of (i := (108, 1, .aload_n 0, (0, 0, 0), 0)) (by decide +kernel)) g0_z hm_z
      replace hm_z := rn_iconst (w := 1) (am_cur_of (i := (109, 1, .iconst 1, (0, 0, 0), 0)) (by decide +kernel)) (by decide) hm_z
      replace hm_z := rn_iconst (w := 0) (am_cur_of (i := (110, 1, .iconst 0, (0, 0, 0), 0)) (by decide +kernel)) (by decide) hm_z
      replace hm_z := rn_iconst (w := 0) (am_cur_of (i := (111, 1, .iconst 0, (0, 0, 0), 0)) (by decide +kernel)) (by decide) hm_z
      replace hm_z := rn_callV (M' := am_m199) (o := 164) (ar := [.int 0, .int 0, .int 1]) (rest := []) (L := lv_args 0 [.ref 164, .int 1, .int 0, .int 0]) (am_cur_of (i := (112, 3, .invokevirtual 434, (199, 1828, 3), 0)) (by decide +kernel)) rfl rfl rfl rfl hm_z
      obtain ⟨r28_z, h29_z, q30_z, hm_z⟩ := hm_z
      have vo := rn_void rfl q30_z
      subst vo
      obtain ⟨x, xe, ⟨x0_z, x9_z⟩, a0_z, a1_z, C2, af⟩ := ms_199_0 H0 H9 p0_z p9_z m0_z m9_z C eF E1 F0 F9 q30_z
      replace hm_z : rn _ _ _ _ [] _ _ _ := hm_z
      replace hm_z := rn_iinc (w := i + 1) (am_cur_of (i := (115, 3, .iinc 4 1, (0, 0, 0), 0)) (by decide +kernel)) g4_z rfl hm_z
      obtain ⟨_, s31_z, s32_z, g4_z, hm_z⟩ := hm_z
      replace g0_z := s31_z 0 _ (by decide) rfl g0_z
      replace g1_z := s31_z 1 _ (by decide) rfl g1_z
      replace g2_z := s31_z 2 _ (by decide) rfl g2_z
      replace g3_z := s31_z 3 _ (by decide) rfl g3_z
      clear s31_z s32_z
      replace hm_z := rn_gotoL (am_cur_of (i := (118, 3, .goto (-26), (56, 0, 0), 0)) (by decide +kernel)) hm_z
      obtain ⟨l2_z, g2x, G, u0_z, u1_z, u2_z, u2b, u3_z, u4_z, u5_z, u6_z, u7_z, u8_z⟩ := ih_z j (i + 1) x (t + 1) _ _ C2 a0_z x0_z x9_z ((f1_v af rfl (by omega) (by omega)).trans Et) a1_z g0_z g1_z g2_z g3_z g4_z (by omega) (by omega) (by omega) hm_z
      exact ⟨l2_z, g2x, G, u0_z, u1_z, u2_z, u2b, rn_up (Nat.le_succ _) u3_z, ⟨x, xe, u4_z⟩, u5_z, by omega, u7_z, f1_t af u8_z⟩
theorem bo_206 {n : Nat} {r : Option Value} {g g' : am_H} {k st le d : Int32} (k0_z : 0 ≤ k.toInt) (k3_z : k.toInt ≤ 3) (Es : rg_v g 170 (7 * k.toNatClampNeg) = st) (El : rg_v g 170 (7 * k.toNatClampNeg + 1) = le) (Ed : rg_v g 191 (4 + k.toNatClampNeg) = d) (hm_z : rn n am_m206 0 (lv_args 0 [.ref 164, .int 1, .int k]) [] g r g') : g' = g ∧ r = some (.int (brV st le d)) := by
  have z0_z : (0 : Int32).toInt = 0 := by decide
  have g0_z : am_get (lv_args 0 [.ref 164, .int 1, .int k]) 0 = some (.ref 164) := rfl
  have g1_z : am_get (lv_args 0 [.ref 164, .int 1, .int k]) 1 = some (.int 1) := rfl
  have g2_z : am_get (lv_args 0 [.ref 164, .int 1, .int k]) 2 = some (.int k) := rfl
  have y4_z : ((4 : Int32) + k).toNatClampNeg = 4 + k.toNatClampNeg := ix_4 (c := 4) k0_z k3_z (by decide) (by decide)
  have x2_z : (((7 : Int32) * k) + 2).toNatClampNeg = 7 * k.toNatClampNeg + 2 := ix_7 (c := 2) k0_z k3_z (by decide) (by decide)
  have x3_z : (((7 : Int32) * k) + 3).toNatClampNeg = 7 * k.toNatClampNeg + 3 := ix_7 (c := 3) k0_z k3_z (by decide) (by decide)
  have x4_z : (((7 : Int32) * k) + 4).toNatClampNeg = 7 * k.toNatClampNeg + 4 := ix_7 (c := 4) k0_z k3_z (by decide) (by decide)
  have x5_z : (((7 : Int32) * k) + 5).toNatClampNeg = 7 * k.toNatClampNeg + 5 := ix_7 (c := 5) k0_z k3_z (by decide) (by decide)
  have x0_z : ((7 : Int32) * k).toNatClampNeg = 7 * k.toNatClampNeg := ix_70 k0_z k3_z
  have x1_z : (((7 : Int32) * k) + 1).toNatClampNeg = 7 * k.toNatClampNeg + 1 := ix_7 (c := 1) k0_z k3_z (by decide) (by decide)
  replace hm_z := rn_aload_n (am_cur_of (i := (0, 1, .aload_n 0, (0, 0, 0), 0)) (by decide +kernel)) g0_z hm_z
  replace hm_z := rn_getR (x := 170) (am_cur_of (i := (1, 3, .getfield 30, (12, 25, 1409), 0)) (by decide +kernel)) (by decide +kernel) hm_z
  replace hm_z := rn_bipush (w := 7) (am_cur_of (i := (4, 2, .bipush 7, (0, 0, 0), 0)) (by decide +kernel)) (by decide) hm_z
  replace hm_z := rn_iload_n (am_cur_of (i := (6, 1, .iload_n 2, (0, 0, 0), 0)) (by decide +kernel)) g2_z hm_z
  replace hm_z := rn_imul (w := (7 : Int32) * k) (am_cur_of (i := (7, 1, .imul, (0, 0, 0), 0)) (by decide +kernel)) rfl hm_z
  replace hm_z := rn_iaload (N := 56) (q := ((7 : Int32) * k).toNatClampNeg) (v := st) (am_cur_of (i := (8, 1, .iaload, (0, 0, 0), 0)) (by decide +kernel)) (by decide +kernel) rfl (by rw [x0_z]; exact Es) hm_z
  obtain ⟨p33_z, hm_z⟩ := hm_z
  replace hm_z := rn_aload_n (am_cur_of (i := (9, 1, .aload_n 0, (0, 0, 0), 0)) (by decide +kernel)) g0_z hm_z
  replace hm_z := rn_getR (x := 170) (am_cur_of (i := (10, 3, .getfield 30, (12, 25, 1409), 0)) (by decide +kernel)) (by decide +kernel) hm_z
  replace hm_z := rn_bipush (w := 7) (am_cur_of (i := (13, 2, .bipush 7, (0, 0, 0), 0)) (by decide +kernel)) (by decide) hm_z
  replace hm_z := rn_iload_n (am_cur_of (i := (15, 1, .iload_n 2, (0, 0, 0), 0)) (by decide +kernel)) g2_z hm_z
  replace hm_z := rn_imul (w := (7 : Int32) * k) (am_cur_of (i := (16, 1, .imul, (0, 0, 0), 0)) (by decide +kernel)) rfl hm_z
  replace hm_z := rn_iconst (w := 1) (am_cur_of (i := (17, 1, .iconst 1, (0, 0, 0), 0)) (by decide +kernel)) (by decide) hm_z
  replace hm_z := rn_iadd (w := ((7 : Int32) * k) + 1) (am_cur_of (i := (18, 1, .iadd, (0, 0, 0), 0)) (by decide +kernel)) rfl hm_z
  replace hm_z := rn_iaload (N := 56) (q := (((7 : Int32) * k) + 1).toNatClampNeg) (v := le) (am_cur_of (i := (19, 1, .iaload, (0, 0, 0), 0)) (by decide +kernel)) (by decide +kernel) rfl (by rw [x1_z]; exact El) hm_z
  obtain ⟨p34_z, hm_z⟩ := hm_z
  replace hm_z := rn_aload_n (am_cur_of (i := (20, 1, .aload_n 0, (0, 0, 0), 0)) (by decide +kernel)) g0_z hm_z
  replace hm_z := rn_getR (x := 191) (am_cur_of (i := (21, 3, .getfield 94, (12, 53, 1437), 0)) (by decide +kernel)) (by decide +kernel) hm_z
  replace hm_z := rn_iconst (w := 4) (am_cur_of (i := (24, 1, .iconst 4, (0, 0, 0), 0)) (by decide +kernel)) (by decide) hm_z
  replace hm_z := rn_iload_n (am_cur_of (i := (25, 1, .iload_n 1, (0, 0, 0), 0)) (by decide +kernel)) g1_z hm_z
  replace hm_z := rn_imul (w := 4) (am_cur_of (i := (26, 1, .imul, (0, 0, 0), 0)) (by decide +kernel)) (by decide) hm_z
  replace hm_z := rn_iload_n (am_cur_of (i := (27, 1, .iload_n 2, (0, 0, 0), 0)) (by decide +kernel)) g2_z hm_z
  replace hm_z := rn_iadd (w := (4 : Int32) + k) (am_cur_of (i := (28, 1, .iadd, (0, 0, 0), 0)) (by decide +kernel)) rfl hm_z
  replace hm_z := rn_iaload (N := 16) (q := ((4 : Int32) + k).toNatClampNeg) (v := d) (am_cur_of (i := (29, 1, .iaload, (0, 0, 0), 0)) (by decide +kernel)) (by decide +kernel) rfl (by rw [y4_z]; exact Ed) hm_z
  obtain ⟨p35_z, hm_z⟩ := hm_z
  replace hm_z := rn_imul (w := le * d) (am_cur_of (i := (30, 1, .imul, (0, 0, 0), 0)) (by decide +kernel)) rfl hm_z
  replace hm_z := rn_isub (w := st - (le * d)) (am_cur_of (i := (31, 1, .isub, (0, 0, 0), 0)) (by decide +kernel)) rfl hm_z
  replace hm_z := rn_istore_n (am_cur_of (i := (32, 1, .istore_n 3, (0, 0, 0), 0)) (by decide +kernel)) hm_z
  obtain ⟨_, s36_z, s37_z, g3_z, hm_z⟩ := hm_z
  replace g0_z := s36_z 0 _ (by decide) rfl g0_z
  replace g1_z := s36_z 1 _ (by decide) rfl g1_z
  replace g2_z := s36_z 2 _ (by decide) rfl g2_z
  clear s36_z s37_z
  replace hm_z := rn_iload_n (am_cur_of (i := (33, 1, .iload_n 3, (0, 0, 0), 0)) (by decide +kernel)) g3_z hm_z
  replace hm_z := rn_if (am_cur_of (i := (34, 3, .ifCond .ge 7, (29, 0, 0), 0)) (by decide +kernel)) hm_z
  rcases hm_z with ⟨b38_z, hm_z⟩ | ⟨b38_z, hm_z⟩
  · replace b38_z : (0 : Int32).toInt ≤ (st - (le * d)).toInt := b38_z
    replace hm_z := rn_iload_n (am_cur_of (i := (41, 1, .iload_n 3, (0, 0, 0), 0)) (by decide +kernel)) g3_z hm_z
    replace hm_z := rn_iret (am_cur_of (i := (42, 1, .ireturn, (0, 0, 0), 0)) (by decide +kernel)) hm_z
    obtain ⟨e39_z, e40_z⟩ := hm_z
    refine ⟨e40_z, e39_z.trans (congrArg (fun z => some (Value.int z)) ?_)⟩
    unfold brV
    by_cases q : 0 < (st - le * d).toInt
    · rw [if_pos q]
    · rw [if_neg q]
      exact Int32.toInt_inj.mp (by rw [z0_z]; omega)
  · replace b38_z : (st - (le * d)).toInt < (0 : Int32).toInt := b38_z
    replace hm_z := rn_iconst (w := 0) (am_cur_of (i := (37, 1, .iconst 0, (0, 0, 0), 0)) (by decide +kernel)) (by decide) hm_z
    replace hm_z := rn_goto (am_cur_of (i := (38, 3, .goto 4, (30, 0, 0), 0)) (by decide +kernel)) hm_z
    replace hm_z := rn_iret (am_cur_of (i := (42, 1, .ireturn, (0, 0, 0), 0)) (by decide +kernel)) hm_z
    obtain ⟨e41_z, e42_z⟩ := hm_z
    refine ⟨e42_z, e41_z.trans (congrArg (fun z => some (Value.int z)) ?_)⟩
    unfold brV
    rw [if_neg (by omega)]
theorem fi_205 {n : Nat} {p : Nat} {h0_z : am_H} {Hd pf U ra re nl lk pt mo : Int32} {r : Option Value} {g g' : am_H} {k F S st le d : Int32} (k0_z : 0 ≤ k.toInt) (k3_z : k.toInt ≤ 3) (H9 : Hd.toInt ≤ 9999) (C : mC p h0_z Hd pf U ra re nl lk pt mo g) (eF : rg_v g 188 1 = F) (eS : rg_v g 189 1 = S) (Es : rg_v g 170 (7 * k.toNatClampNeg) = st) (El : rg_v g 170 (7 * k.toNatClampNeg + 1) = le) (Ed : rg_v g 191 (4 + k.toNatClampNeg) = d) (F0 : 0 ≤ F.toInt) (F9 : F.toInt ≤ 9999) (b0_z : 0 ≤ (brV st le d).toInt) (b9_z : (brV st le d).toInt ≤ 99) (hm_z : rn n am_m205 0 (lv_args 0 [.ref 164, .int 1, .int k]) [] g r g') : ∃ G : Int32, rg_v g' 188 1 = G ∧ G.toInt = flZ p h0_z U Hd (brV st le d) F S := by
  have z0_z : (0 : Int32).toInt = 0 := by decide
  have z99_z : (99 : Int32).toInt = 99 := by decide
  have n1e : (1 : Int32).toNatClampNeg = 1 := by decide
  have k1e : (1 : Int32).toNatClampNeg = 1 := n1e
  obtain ⟨c0_z, c1_z, c2_z, c3_z, c4_z, c5_z, c6_z, c7_z, c8_z, c9_z⟩ := C
  have g0_z : am_get (lv_args 0 [.ref 164, .int 1, .int k]) 0 = some (.ref 164) := rfl
  have g1_z : am_get (lv_args 0 [.ref 164, .int 1, .int k]) 1 = some (.int 1) := rfl
  have g2_z : am_get (lv_args 0 [.ref 164, .int 1, .int k]) 2 = some (.int k) := rfl
  replace hm_z := rn_aload_n (am_cur_of (i := (0, 1, .aload_n 0, (0, 0, 0), 0)) (by decide +kernel)) g0_z hm_z
  replace hm_z := rn_iload_n (am_cur_of (i := (1, 1, .iload_n 1, (0, 0, 0), 0)) (by decide +kernel)) g1_z hm_z
  replace hm_z := rn_iload_n (am_cur_of (i := (2, 1, .iload_n 2, (0, 0, 0), 0)) (by decide +kernel)) g2_z hm_z
  replace hm_z := rn_callV (M' := am_m206) (o := 164) (ar := [.int k, .int 1]) (rest := []) (L := lv_args 0 [.ref 164, .int 1, .int k]) (am_cur_of (i := (3, 3, .invokevirtual 417, (206, 1855, 3), 0)) (by decide +kernel)) rfl rfl rfl rfl hm_z
  obtain ⟨r43_z, h44_z, q45_z, hm_z⟩ := hm_z
  obtain ⟨hh, rr⟩ := bo_206 k0_z k3_z Es El Ed q45_z
  replace hh := hh.symm
  subst rr
  subst hh
  replace hm_z : rn _ _ _ _ [.int (brV st le d)] _ _ _ := hm_z
  replace hm_z := rn_istore_n (am_cur_of (i := (6, 1, .istore_n 3, (0, 0, 0), 0)) (by decide +kernel)) hm_z
  obtain ⟨_, s46_z, s47_z, g3_z, hm_z⟩ := hm_z
  replace g0_z := s46_z 0 _ (by decide) rfl g0_z
  replace g1_z := s46_z 1 _ (by decide) rfl g1_z
  replace g2_z := s46_z 2 _ (by decide) rfl g2_z
  clear s46_z s47_z
  replace hm_z := rn_aload_n (am_cur_of (i := (7, 1, .aload_n 0, (0, 0, 0), 0)) (by decide +kernel)) g0_z hm_z
  replace hm_z := rn_iload_n (am_cur_of (i := (8, 1, .iload_n 1, (0, 0, 0), 0)) (by decide +kernel)) g1_z hm_z
  replace hm_z := rn_iconst (w := 0) (am_cur_of (i := (9, 1, .iconst 0, (0, 0, 0), 0)) (by decide +kernel)) (by decide) hm_z
  replace hm_z := rn_callV (M' := am_m188) (o := 164) (ar := [.int 0, .int 1]) (rest := []) (L := lv_args 0 [.ref 164, .int 1, .int 0]) (am_cur_of (i := (10, 3, .invokevirtual 403, (188, 1783, 3), 0)) (by decide +kernel)) rfl rfl rfl rfl hm_z
  obtain ⟨r48_z, h49_z, q50_z, hm_z⟩ := hm_z
  obtain ⟨l, rr, lle, lf⟩ := lo_188 c0_z (by rw [n1e]; exact eF) (by rw [n1e]; exact eS) c1_z c3_z q50_z
  subst rr
  have el := ldX_e lle
  have k1_z : mk g h49_z := lf
  have eF1 : rg_v h49_z 188 1 = F := (mk_v k1_z (by omega) (by decide) (by decide)).trans eF
  have eS1 : rg_v h49_z 189 1 = S := (mk_v k1_z (by omega) (by decide) (by decide)).trans eS
  have eH1 : rg_v h49_z 168 0 = Hd := (mk_v k1_z (by omega) (by decide) (by decide)).trans c1_z
  replace hm_z : rn _ _ _ _ [.int l] _ _ _ := hm_z
  replace hm_z := rn_istore (am_cur_of (i := (13, 2, .istore 4, (0, 0, 0), 0)) (by decide +kernel)) hm_z
  obtain ⟨_, s51_z, s52_z, g4_z, hm_z⟩ := hm_z
  replace g0_z := s51_z 0 _ (by decide) rfl g0_z
  replace g1_z := s51_z 1 _ (by decide) rfl g1_z
  replace g2_z := s51_z 2 _ (by decide) rfl g2_z
  replace g3_z := s51_z 3 _ (by decide) rfl g3_z
  clear s51_z s52_z
  replace hm_z := rn_aload_n (am_cur_of (i := (15, 1, .aload_n 0, (0, 0, 0), 0)) (by decide +kernel)) g0_z hm_z
  replace hm_z := rn_iload_n (am_cur_of (i := (16, 1, .iload_n 1, (0, 0, 0), 0)) (by decide +kernel)) g1_z hm_z
  replace hm_z := rn_iconst (w := 0) (am_cur_of (i := (17, 1, .iconst 0, (0, 0, 0), 0)) (by decide +kernel)) (by decide) hm_z
  replace hm_z := rn_iload (am_cur_of (i := (18, 2, .iload 4, (0, 0, 0), 0)) (by decide +kernel)) g4_z hm_z
  replace hm_z := rn_iload_n (am_cur_of (i := (20, 1, .iload_n 3, (0, 0, 0), 0)) (by decide +kernel)) g3_z hm_z
  replace hm_z := rn_callV (M' := am_m189) (o := 164) (ar := [.int (brV st le d), .int l, .int 0, .int 1]) (rest := []) (L := lv_args 0 [.ref 164, .int 1, .int 0, .int l, .int (brV st le d)]) (am_cur_of (i := (21, 3, .invokevirtual 392, (189, 1787, 3), 0)) (by decide +kernel)) rfl rfl rfl rfl hm_z
  obtain ⟨r53_z, h54_z, q55_z, hm_z⟩ := hm_z
  have vo := rn_void rfl q55_z
  subst vo
  obtain ⟨yf, yn⟩ := ly_189 (by rw [n1e]; exact eF1) (by rw [n1e]; exact eS1) eH1 q55_z
  have k2_z : mk g h54_z := mk_t k1_z (fun o q _ _ c => yf o q c)
  have eF2 : rg_v h54_z 188 1 = F := (mk_v k2_z (by omega) (by decide) (by decide)).trans eF
  obtain ⟨n1_z, n2_z, n3_z⟩ := nm_al yn
  replace hm_z : rn _ _ _ _ [] _ _ _ := hm_z
  replace hm_z := rn_aload_n (am_cur_of (i := (24, 1, .aload_n 0, (0, 0, 0), 0)) (by decide +kernel)) g0_z hm_z
  replace hm_z := rn_getR (x := 188) (am_cur_of (i := (25, 3, .getfield 85, (12, 50, 1434), 0)) (by decide +kernel)) (by decide +kernel) hm_z
  replace hm_z := rn_iload_n (am_cur_of (i := (28, 1, .iload_n 1, (0, 0, 0), 0)) (by decide +kernel)) g1_z hm_z
  replace hm_z := rn_iaload (N := 4) (q := 1) (v := F) (am_cur_of (i := (29, 1, .iaload, (0, 0, 0), 0)) (by decide +kernel)) (by decide +kernel) rfl eF2 hm_z
  obtain ⟨p56_z, hm_z⟩ := hm_z
  replace hm_z := rn_aload_n (am_cur_of (i := (30, 1, .aload_n 0, (0, 0, 0), 0)) (by decide +kernel)) g0_z hm_z
  replace hm_z := rn_iconst (w := 1) (am_cur_of (i := (31, 1, .iconst 1, (0, 0, 0), 0)) (by decide +kernel)) (by decide) hm_z
  replace hm_z := rn_iload_n (am_cur_of (i := (32, 1, .iload_n 3, (0, 0, 0), 0)) (by decide +kernel)) g3_z hm_z
  replace hm_z := rn_bipush (w := 99) (am_cur_of (i := (33, 2, .bipush 99, (0, 0, 0), 0)) (by decide +kernel)) (by decide) hm_z
  replace hm_z := rn_callV (M' := am_m190) (o := 164) (ar := [.int 99, .int (brV st le d), .int 1]) (rest := [.int F]) (L := lv_args 0 [.ref 164, .int 1, .int (brV st le d), .int 99]) (am_cur_of (i := (35, 3, .invokevirtual 396, (190, 1791, 3), 0)) (by decide +kernel)) rfl rfl rfl rfl hm_z
  obtain ⟨r57_z, h58_z, q59_z, hm_z⟩ := hm_z
  obtain ⟨xl, rr, xe, xf⟩ := bw_190 (N := eC l F (Hd - F) 0 S (brV st le d)) (by rw [k1e]; exact LW_m k2_z c0_z 1 (by decide)) n1_z (Or.inr n2_z) n3_z (by decide) q59_z
  subst rr
  have k3_ : mk g h58_z := mk_t k2_z (fun o q a b _ => xf o q a b)
  rw [k1e, show (99 : Int32).toInt = 99 by decide, el] at xe
  have bw := bnd_w (q := lawX p h0_z 1 (eC (ldX p h0_z U F (Hd - F) 0 S) F (Hd - F) 0 S (brV st le d))) (wo := (brV st le d).toInt) (mo := 99) b0_z (by decide)
  rw [← xe] at bw
  have ca_z := ab_iadd (x := F) (y := xl) (by omega) (by omega)
  have eH3 : rg_v h58_z 168 0 = Hd := (mk_v k3_ (by omega) (by decide) (by decide)).trans c1_z
  replace hm_z : rn _ _ _ _ [.int xl, .int F] _ _ _ := hm_z
  replace hm_z := rn_iadd (w := F + xl) (am_cur_of (i := (38, 1, .iadd, (0, 0, 0), 0)) (by decide +kernel)) rfl hm_z
  replace hm_z := rn_istore (am_cur_of (i := (39, 2, .istore 5, (0, 0, 0), 0)) (by decide +kernel)) hm_z
  obtain ⟨_, s60_z, s61_z, g5_z, hm_z⟩ := hm_z
  replace g0_z := s60_z 0 _ (by decide) rfl g0_z
  replace g1_z := s60_z 1 _ (by decide) rfl g1_z
  replace g2_z := s60_z 2 _ (by decide) rfl g2_z
  replace g3_z := s60_z 3 _ (by decide) rfl g3_z
  replace g4_z := s60_z 4 _ (by decide) rfl g4_z
  clear s60_z s61_z
  replace hm_z := rn_aload_n (am_cur_of (i := (41, 1, .aload_n 0, (0, 0, 0), 0)) (by decide +kernel)) g0_z hm_z
  replace hm_z := rn_getR (x := 188) (am_cur_of (i := (42, 3, .getfield 85, (12, 50, 1434), 0)) (by decide +kernel)) (by decide +kernel) hm_z
  replace hm_z := rn_iload_n (am_cur_of (i := (45, 1, .iload_n 1, (0, 0, 0), 0)) (by decide +kernel)) g1_z hm_z
  replace hm_z := rn_iload (am_cur_of (i := (46, 2, .iload 5, (0, 0, 0), 0)) (by decide +kernel)) g5_z hm_z
  replace hm_z := rn_aload_n (am_cur_of (i := (48, 1, .aload_n 0, (0, 0, 0), 0)) (by decide +kernel)) g0_z hm_z
  replace hm_z := rn_getR (x := 168) (am_cur_of (i := (49, 3, .getfield 24, (12, 23, 1407), 0)) (by decide +kernel)) (by decide +kernel) hm_z
  replace hm_z := rn_iconst (w := 0) (am_cur_of (i := (52, 1, .iconst 0, (0, 0, 0), 0)) (by decide +kernel)) (by decide) hm_z
  replace hm_z := rn_iaload (N := 12) (q := 0) (v := Hd) (am_cur_of (i := (53, 1, .iaload, (0, 0, 0), 0)) (by decide +kernel)) (by decide +kernel) rfl eH3 hm_z
  obtain ⟨p62_z, hm_z⟩ := hm_z
  replace hm_z := rn_cmp (am_cur_of (i := (54, 3, .if_icmp .le 12, (41, 0, 0), 0)) (by decide +kernel)) hm_z
  rcases hm_z with ⟨b63_z, hm_z⟩ | ⟨b63_z, hm_z⟩
  · replace b63_z : (F + xl).toInt ≤ Hd.toInt := b63_z
    replace hm_z := rn_iload (am_cur_of (i := (66, 2, .iload 5, (0, 0, 0), 0)) (by decide +kernel)) g5_z hm_z
    replace hm_z := rn_iastore (N := 4) (q := 1) (am_cur_of (i := (68, 1, .iastore, (0, 0, 0), 0)) (by decide +kernel)) (by decide +kernel) rfl hm_z
    obtain ⟨p64_z, hm_z⟩ := hm_z
    replace hm_z := rn_aload_n (am_cur_of (i := (69, 1, .aload_n 0, (0, 0, 0), 0)) (by decide +kernel)) g0_z hm_z
    replace hm_z := rn_getR (x := 191) (am_cur_of (i := (70, 3, .getfield 94, (12, 53, 1437), 0)) (by decide +kernel)) (by decide +kernel) hm_z
    replace hm_z := rn_iconst (w := 4) (am_cur_of (i := (73, 1, .iconst 4, (0, 0, 0), 0)) (by decide +kernel)) (by decide) hm_z
    replace hm_z := rn_iload_n (am_cur_of (i := (74, 1, .iload_n 1, (0, 0, 0), 0)) (by decide +kernel)) g1_z hm_z
    replace hm_z := rn_imul (w := 4) (am_cur_of (i := (75, 1, .imul, (0, 0, 0), 0)) (by decide +kernel)) (by decide) hm_z
    replace hm_z := rn_iload_n (am_cur_of (i := (76, 1, .iload_n 2, (0, 0, 0), 0)) (by decide +kernel)) g2_z hm_z
    replace hm_z := rn_iadd (w := (4 : Int32) + k) (am_cur_of (i := (77, 1, .iadd, (0, 0, 0), 0)) (by decide +kernel)) rfl hm_z
    replace hm_z := rn_dup2 (am_cur_of (i := (78, 1, .dup2, (0, 0, 0), 0)) (by decide +kernel)) hm_z
    replace hm_z := rn_iaload (N := 16) (q := ((4 : Int32) + k).toNatClampNeg) (v := rg_v h58_z 191 (((4 : Int32) + k).toNatClampNeg)) (am_cur_of (i := (79, 1, .iaload, (0, 0, 0), 0)) (by decide +kernel)) (by decide +kernel) rfl ((rg_v_other (by omega)).trans (rfl)) hm_z
    obtain ⟨p65_z, hm_z⟩ := hm_z
    replace hm_z := rn_iconst (w := 1) (am_cur_of (i := (80, 1, .iconst 1, (0, 0, 0), 0)) (by decide +kernel)) (by decide) hm_z
    replace hm_z := rn_iadd (w := (rg_v h58_z 191 (((4 : Int32) + k).toNatClampNeg)) + 1) (am_cur_of (i := (81, 1, .iadd, (0, 0, 0), 0)) (by decide +kernel)) rfl hm_z
    replace hm_z := rn_iastore (N := 16) (q := ((4 : Int32) + k).toNatClampNeg) (am_cur_of (i := (82, 1, .iastore, (0, 0, 0), 0)) (by decide +kernel)) (by decide +kernel) rfl hm_z
    obtain ⟨p66_z, hm_z⟩ := hm_z
    replace hm_z := rn_aload_n (am_cur_of (i := (83, 1, .aload_n 0, (0, 0, 0), 0)) (by decide +kernel)) g0_z hm_z
    replace hm_z := rn_getR (x := 192) (am_cur_of (i := (84, 3, .getfield 97, (12, 54, 1438), 0)) (by decide +kernel)) (by decide +kernel) hm_z
    replace hm_z := rn_iconst (w := 4) (am_cur_of (i := (87, 1, .iconst 4, (0, 0, 0), 0)) (by decide +kernel)) (by decide) hm_z
    replace hm_z := rn_iload_n (am_cur_of (i := (88, 1, .iload_n 1, (0, 0, 0), 0)) (by decide +kernel)) g1_z hm_z
    replace hm_z := rn_imul (w := 4) (am_cur_of (i := (89, 1, .imul, (0, 0, 0), 0)) (by decide +kernel)) (by decide) hm_z
    replace hm_z := rn_iload_n (am_cur_of (i := (90, 1, .iload_n 2, (0, 0, 0), 0)) (by decide +kernel)) g2_z hm_z
    replace hm_z := rn_iadd (w := (4 : Int32) + k) (am_cur_of (i := (91, 1, .iadd, (0, 0, 0), 0)) (by decide +kernel)) rfl hm_z
    replace hm_z := rn_dup2 (am_cur_of (i := (92, 1, .dup2, (0, 0, 0), 0)) (by decide +kernel)) hm_z
    replace hm_z := rn_iaload (N := 16) (q := ((4 : Int32) + k).toNatClampNeg) (v := rg_v h58_z 192 (((4 : Int32) + k).toNatClampNeg)) (am_cur_of (i := (93, 1, .iaload, (0, 0, 0), 0)) (by decide +kernel)) (by decide +kernel) rfl ((rg_v_other (by omega)).trans ((rg_v_other (by omega)).trans (rfl))) hm_z
    obtain ⟨p67_z, hm_z⟩ := hm_z
    replace hm_z := rn_iconst (w := 1) (am_cur_of (i := (94, 1, .iconst 1, (0, 0, 0), 0)) (by decide +kernel)) (by decide) hm_z
    replace hm_z := rn_iadd (w := (rg_v h58_z 192 (((4 : Int32) + k).toNatClampNeg)) + 1) (am_cur_of (i := (95, 1, .iadd, (0, 0, 0), 0)) (by decide +kernel)) rfl hm_z
    replace hm_z := rn_iastore (N := 16) (q := ((4 : Int32) + k).toNatClampNeg) (am_cur_of (i := (96, 1, .iastore, (0, 0, 0), 0)) (by decide +kernel)) (by decide +kernel) rfl hm_z
    obtain ⟨p68_z, hm_z⟩ := hm_z
    replace hm_z := rn_aload_n (am_cur_of (i := (97, 1, .aload_n 0, (0, 0, 0), 0)) (by decide +kernel)) g0_z hm_z
    replace hm_z := rn_getR (x := 193) (am_cur_of (i := (98, 3, .getfield 100, (12, 55, 1439), 0)) (by decide +kernel)) (by decide +kernel) hm_z
    replace hm_z := rn_iconst (w := 4) (am_cur_of (i := (101, 1, .iconst 4, (0, 0, 0), 0)) (by decide +kernel)) (by decide) hm_z
    replace hm_z := rn_iload_n (am_cur_of (i := (102, 1, .iload_n 1, (0, 0, 0), 0)) (by decide +kernel)) g1_z hm_z
    replace hm_z := rn_imul (w := 4) (am_cur_of (i := (103, 1, .imul, (0, 0, 0), 0)) (by decide +kernel)) (by decide) hm_z
    replace hm_z := rn_iload_n (am_cur_of (i := (104, 1, .iload_n 2, (0, 0, 0), 0)) (by decide +kernel)) g2_z hm_z
    replace hm_z := rn_iadd (w := (4 : Int32) + k) (am_cur_of (i := (105, 1, .iadd, (0, 0, 0), 0)) (by decide +kernel)) rfl hm_z
    replace hm_z := rn_aload_n (am_cur_of (i := (106, 1, .aload_n 0, (0, 0, 0), 0)) (by decide +kernel)) g0_z hm_z
    replace hm_z := rn_getR (x := 189) (am_cur_of (i := (107, 3, .getfield 88, (12, 51, 1435), 0)) (by decide +kernel)) (by decide +kernel) hm_z
    replace hm_z := rn_iload_n (am_cur_of (i := (110, 1, .iload_n 1, (0, 0, 0), 0)) (by decide +kernel)) g1_z hm_z
    replace hm_z := rn_iaload (N := 4) (q := 1) (v := rg_v h58_z 189 1) (am_cur_of (i := (111, 1, .iaload, (0, 0, 0), 0)) (by decide +kernel)) (by decide +kernel) rfl ((rg_v_other (by omega)).trans ((rg_v_other (by omega)).trans ((rg_v_other (by omega)).trans (rfl)))) hm_z
    obtain ⟨p69_z, hm_z⟩ := hm_z
    replace hm_z := rn_iastore (N := 16) (q := ((4 : Int32) + k).toNatClampNeg) (am_cur_of (i := (112, 1, .iastore, (0, 0, 0), 0)) (by decide +kernel)) (by decide +kernel) rfl hm_z
    obtain ⟨p70_z, hm_z⟩ := hm_z
    replace hm_z := rn_aload_n (am_cur_of (i := (113, 1, .aload_n 0, (0, 0, 0), 0)) (by decide +kernel)) g0_z hm_z
    replace hm_z := rn_getR (x := 190) (am_cur_of (i := (114, 3, .getfield 91, (12, 52, 1436), 0)) (by decide +kernel)) (by decide +kernel) hm_z
    replace hm_z := rn_iload_n (am_cur_of (i := (117, 1, .iload_n 1, (0, 0, 0), 0)) (by decide +kernel)) g1_z hm_z
    replace hm_z := rn_iload_n (am_cur_of (i := (118, 1, .iload_n 2, (0, 0, 0), 0)) (by decide +kernel)) g2_z hm_z
    replace hm_z := rn_iastore (N := 4) (q := 1) (am_cur_of (i := (119, 1, .iastore, (0, 0, 0), 0)) (by decide +kernel)) (by decide +kernel) rfl hm_z
    obtain ⟨p71_z, hm_z⟩ := hm_z
    replace hm_z := rn_vret (am_cur_of (i := (120, 1, .return_, (0, 0, 0), 0)) (by decide +kernel)) hm_z
    obtain ⟨e72_z, e73_z⟩ := hm_z
    refine ⟨F + xl, ?_, ?_⟩
    · rw [e73_z]
      exact (rg_v_other (by omega)).trans ((rg_v_other (by omega)).trans ((rg_v_other (by omega)).trans ((rg_v_other (by omega)).trans (rg_v_self))))
    · unfold flZ
      rw [← xe]
      omega
  · replace b63_z : Hd.toInt < (F + xl).toInt := b63_z
    replace hm_z := rn_aload_n (am_cur_of (i := (57, 1, .aload_n 0, (0, 0, 0), 0)) (by decide +kernel)) g0_z hm_z
    replace hm_z := rn_getR (x := 168) (am_cur_of (i := (58, 3, .getfield 24, (12, 23, 1407), 0)) (by decide +kernel)) (by decide +kernel) hm_z
    replace hm_z := rn_iconst (w := 0) (am_cur_of (i := (61, 1, .iconst 0, (0, 0, 0), 0)) (by decide +kernel)) (by decide) hm_z
    replace hm_z := rn_iaload (N := 12) (q := 0) (v := Hd) (am_cur_of (i := (62, 1, .iaload, (0, 0, 0), 0)) (by decide +kernel)) (by decide +kernel) rfl eH3 hm_z
    obtain ⟨p74_z, hm_z⟩ := hm_z
    replace hm_z := rn_goto (am_cur_of (i := (63, 3, .goto 5, (42, 0, 0), 0)) (by decide +kernel)) hm_z
    replace hm_z := rn_iastore (N := 4) (q := 1) (am_cur_of (i := (68, 1, .iastore, (0, 0, 0), 0)) (by decide +kernel)) (by decide +kernel) rfl hm_z
    obtain ⟨p75_z, hm_z⟩ := hm_z
    replace hm_z := rn_aload_n (am_cur_of (i := (69, 1, .aload_n 0, (0, 0, 0), 0)) (by decide +kernel)) g0_z hm_z
    replace hm_z := rn_getR (x := 191) (am_cur_of (i := (70, 3, .getfield 94, (12, 53, 1437), 0)) (by decide +kernel)) (by decide +kernel) hm_z
    replace hm_z := rn_iconst (w := 4) (am_cur_of (i := (73, 1, .iconst 4, (0, 0, 0), 0)) (by decide +kernel)) (by decide) hm_z
    replace hm_z := rn_iload_n (am_cur_of (i := (74, 1, .iload_n 1, (0, 0, 0), 0)) (by decide +kernel)) g1_z hm_z
    replace hm_z := rn_imul (w := 4) (am_cur_of (i := (75, 1, .imul, (0, 0, 0), 0)) (by decide +kernel)) (by decide) hm_z
    replace hm_z := rn_iload_n (am_cur_of (i := (76, 1, .iload_n 2, (0, 0, 0), 0)) (by decide +kernel)) g2_z hm_z
    replace hm_z := rn_iadd (w := (4 : Int32) + k) (am_cur_of (i := (77, 1, .iadd, (0, 0, 0), 0)) (by decide +kernel)) rfl hm_z
    replace hm_z := rn_dup2 (am_cur_of (i := (78, 1, .dup2, (0, 0, 0), 0)) (by decide +kernel)) hm_z
    replace hm_z := rn_iaload (N := 16) (q := ((4 : Int32) + k).toNatClampNeg) (v := rg_v h58_z 191 (((4 : Int32) + k).toNatClampNeg)) (am_cur_of (i := (79, 1, .iaload, (0, 0, 0), 0)) (by decide +kernel)) (by decide +kernel) rfl ((rg_v_other (by omega)).trans (rfl)) hm_z
    obtain ⟨p76_z, hm_z⟩ := hm_z
    replace hm_z := rn_iconst (w := 1) (am_cur_of (i := (80, 1, .iconst 1, (0, 0, 0), 0)) (by decide +kernel)) (by decide) hm_z
    replace hm_z := rn_iadd (w := (rg_v h58_z 191 (((4 : Int32) + k).toNatClampNeg)) + 1) (am_cur_of (i := (81, 1, .iadd, (0, 0, 0), 0)) (by decide +kernel)) rfl hm_z
    replace hm_z := rn_iastore (N := 16) (q := ((4 : Int32) + k).toNatClampNeg) (am_cur_of (i := (82, 1, .iastore, (0, 0, 0), 0)) (by decide +kernel)) (by decide +kernel) rfl hm_z
    obtain ⟨p77_z, hm_z⟩ := hm_z
    replace hm_z := rn_aload_n (am_cur_of (i := (83, 1, .aload_n 0, (0, 0, 0), 0)) (by decide +kernel)) g0_z hm_z
    replace hm_z := rn_getR (x := 192) (am_cur_of (i := (84, 3, .getfield 97, (12, 54, 1438), 0)) (by decide +kernel)) (by decide +kernel) hm_z
    replace hm_z := rn_iconst (w := 4) (am_cur_of (i := (87, 1, .iconst 4, (0, 0, 0), 0)) (by decide +kernel)) (by decide) hm_z
    replace hm_z := rn_iload_n (am_cur_of (i := (88, 1, .iload_n 1, (0, 0, 0), 0)) (by decide +kernel)) g1_z hm_z
    replace hm_z := rn_imul (w := 4) (am_cur_of (i := (89, 1, .imul, (0, 0, 0), 0)) (by decide +kernel)) (by decide) hm_z
    replace hm_z := rn_iload_n (am_cur_of (i := (90, 1, .iload_n 2, (0, 0, 0), 0)) (by decide +kernel)) g2_z hm_z
    replace hm_z := rn_iadd (w := (4 : Int32) + k) (am_cur_of (i := (91, 1, .iadd, (0, 0, 0), 0)) (by decide +kernel)) rfl hm_z
    replace hm_z := rn_dup2 (am_cur_of (i := (92, 1, .dup2, (0, 0, 0), 0)) (by decide +kernel)) hm_z
    replace hm_z := rn_iaload (N := 16) (q := ((4 : Int32) + k).toNatClampNeg) (v := rg_v h58_z 192 (((4 : Int32) + k).toNatClampNeg)) (am_cur_of (i := (93, 1, .iaload, (0, 0, 0), 0)) (by decide +kernel)) (by decide +kernel) rfl ((rg_v_other (by omega)).trans ((rg_v_other (by omega)).trans (rfl))) hm_z
    obtain ⟨p78_z, hm_z⟩ := hm_z
    replace hm_z := rn_iconst (w := 1) (am_cur_of (i := (94, 1, .iconst 1, (0, 0, 0), 0)) (by decide +kernel)) (by decide) hm_z
    replace hm_z := rn_iadd (w := (rg_v h58_z 192 (((4 : Int32) + k).toNatClampNeg)) + 1) (am_cur_of (i := (95, 1, .iadd, (0, 0, 0), 0)) (by decide +kernel)) rfl hm_z
    replace hm_z := rn_iastore (N := 16) (q := ((4 : Int32) + k).toNatClampNeg) (am_cur_of (i := (96, 1, .iastore, (0, 0, 0), 0)) (by decide +kernel)) (by decide +kernel) rfl hm_z
    obtain ⟨p79_z, hm_z⟩ := hm_z
    replace hm_z := rn_aload_n (am_cur_of (i := (97, 1, .aload_n 0, (0, 0, 0), 0)) (by decide +kernel)) g0_z hm_z
    replace hm_z := rn_getR (x := 193) (am_cur_of (i := (98, 3, .getfield 100, (12, 55, 1439), 0)) (by decide +kernel)) (by decide +kernel) hm_z
    replace hm_z := rn_iconst (w := 4) (am_cur_of (i := (101, 1, .iconst 4, (0, 0, 0), 0)) (by decide +kernel)) (by decide) hm_z
    replace hm_z := rn_iload_n (am_cur_of (i := (102, 1, .iload_n 1, (0, 0, 0), 0)) (by decide +kernel)) g1_z hm_z
    replace hm_z := rn_imul (w := 4) (am_cur_of (i := (103, 1, .imul, (0, 0, 0), 0)) (by decide +kernel)) (by decide) hm_z
    replace hm_z := rn_iload_n (am_cur_of (i := (104, 1, .iload_n 2, (0, 0, 0), 0)) (by decide +kernel)) g2_z hm_z
    replace hm_z := rn_iadd (w := (4 : Int32) + k) (am_cur_of (i := (105, 1, .iadd, (0, 0, 0), 0)) (by decide +kernel)) rfl hm_z
    replace hm_z := rn_aload_n (am_cur_of (i := (106, 1, .aload_n 0, (0, 0, 0), 0)) (by decide +kernel)) g0_z hm_z
    replace hm_z := rn_getR (x := 189) (am_cur_of (i := (107, 3, .getfield 88, (12, 51, 1435), 0)) (by decide +kernel)) (by decide +kernel) hm_z
    replace hm_z := rn_iload_n (am_cur_of (i := (110, 1, .iload_n 1, (0, 0, 0), 0)) (by decide +kernel)) g1_z hm_z
    replace hm_z := rn_iaload (N := 4) (q := 1) (v := rg_v h58_z 189 1) (am_cur_of (i := (111, 1, .iaload, (0, 0, 0), 0)) (by decide +kernel)) (by decide +kernel) rfl ((rg_v_other (by omega)).trans ((rg_v_other (by omega)).trans ((rg_v_other (by omega)).trans (rfl)))) hm_z
    obtain ⟨p80_z, hm_z⟩ := hm_z
    replace hm_z := rn_iastore (N := 16) (q := ((4 : Int32) + k).toNatClampNeg) (am_cur_of (i := (112, 1, .iastore, (0, 0, 0), 0)) (by decide +kernel)) (by decide +kernel) rfl hm_z
    obtain ⟨p81_z, hm_z⟩ := hm_z
    replace hm_z := rn_aload_n (am_cur_of (i := (113, 1, .aload_n 0, (0, 0, 0), 0)) (by decide +kernel)) g0_z hm_z
    replace hm_z := rn_getR (x := 190) (am_cur_of (i := (114, 3, .getfield 91, (12, 52, 1436), 0)) (by decide +kernel)) (by decide +kernel) hm_z
    replace hm_z := rn_iload_n (am_cur_of (i := (117, 1, .iload_n 1, (0, 0, 0), 0)) (by decide +kernel)) g1_z hm_z
    replace hm_z := rn_iload_n (am_cur_of (i := (118, 1, .iload_n 2, (0, 0, 0), 0)) (by decide +kernel)) g2_z hm_z
    replace hm_z := rn_iastore (N := 4) (q := 1) (am_cur_of (i := (119, 1, .iastore, (0, 0, 0), 0)) (by decide +kernel)) (by decide +kernel) rfl hm_z
    obtain ⟨p82_z, hm_z⟩ := hm_z
    replace hm_z := rn_vret (am_cur_of (i := (120, 1, .return_, (0, 0, 0), 0)) (by decide +kernel)) hm_z
    obtain ⟨e83_z, e84_z⟩ := hm_z
    refine ⟨Hd, ?_, ?_⟩
    · rw [e84_z]
      exact (rg_v_other (by omega)).trans ((rg_v_other (by omega)).trans ((rg_v_other (by omega)).trans ((rg_v_other (by omega)).trans (rg_v_self))))
    · unfold flZ
      rw [← xe]
      omega
theorem bm_b {p : Nat} {h0_z : am_H} {Hd pf U ra re nl lk pt mo : Int32} {r : Option Value} {g' : am_H} {k m tm tk rs st le : Int32} (H0 : 0 ≤ Hd.toInt) (H9 : Hd.toInt ≤ 9999) (p0_z : 0 ≤ pf.toInt) (p9_z : pf.toInt ≤ 9999) (m0_z : 0 ≤ mo.toInt) (m9_z : mo.toInt ≤ 999) (k0_z : 0 ≤ k.toInt) (k3_z : k.toInt ≤ 3) (st0_z : 0 ≤ st.toInt) (st9_z : st.toInt ≤ 99) (le0_z : 0 ≤ le.toInt) (le9_z : le.toInt ≤ 99) (tk0_z : 0 ≤ tk.toInt) (tk9_z : tk.toInt ≤ 99) : ∀ (f j : Nat) (i F t did en : Int32) (ls : am_L) (g : am_H), mC p h0_z Hd pf U ra re nl lk pt mo g → rg_v g 188 1 = F → rg_v g 170 (7 * k.toNatClampNeg) = st → rg_v g 170 (7 * k.toNatClampNeg + 1) = le → rg_v g 170 (7 * k.toNatClampNeg + 2) = tm → rg_v g 170 (7 * k.toNatClampNeg + 3) = tk → rg_v g 170 (7 * k.toNatClampNeg + 4) = rs → rg_v g 189 1 = t → rg_v g 191 (4 + k.toNatClampNeg) = did → rg_v g 193 (4 + k.toNatClampNeg) = en → am_get ls 0 = some (.ref 164) → am_get ls 1 = some (.int k) → am_get ls 2 = some (.int m) → am_get ls 3 = some (.int i) → i.toInt + j = m.toInt → t.toInt + j * tk.toInt ≤ 99999 → 0 ≤ t.toInt → 0 ≤ F.toInt → F.toInt ≤ 9999 → 0 ≤ did.toInt → did.toInt + j ≤ 998 → ¬ mD rs tk tm j did en t → 0 ≤ (rg_v g 164 77).toInt → (rg_v g 164 77).toInt ≤ 20 → rn f am_m196 44 ls [] g r g' → ∃ G, bR p h0_z U Hd pf mo st le rs tk j F t did en G ∧ rg_v g' 188 0 = G ∧ r = some (.int G) := by
  intro f
  induction f with
  | zero => intro j i F t did en ls g C eF Es El Em Et Er E1 Ed Ee g0_z g1_z g2_z g3_z ij tj t0_z F0 F9 d0_z d9_z nd u0_z u20_z hm_z; exact absurd hm_z rn_0
  | succ f ih_z =>
    intro j i F t did en ls g C eF Es El Em Et Er E1 Ed Ee g0_z g1_z g2_z g3_z ij tj t0_z F0 F9 d0_z d9_z nd u0_z u20_z hm_z
    have z0_z : (0 : Int32).toInt = 0 := by decide
    have z1_z : (1 : Int32).toInt = 1 := by decide
    have z99999_z : (99999 : Int32).toInt = 99999 := by decide
    replace hm_z := rn_iload_n (am_cur_of (i := (72, 1, .iload_n 3, (0, 0, 0), 0)) (by decide +kernel)) g3_z hm_z
    replace hm_z := rn_iload_n (am_cur_of (i := (73, 1, .iload_n 2, (0, 0, 0), 0)) (by decide +kernel)) g2_z hm_z
    replace hm_z := rn_cmp (am_cur_of (i := (74, 3, .if_icmp .ge 59, (79, 0, 0), 0)) (by decide +kernel)) hm_z
    rcases hm_z with ⟨b85_z, hm_z⟩ | ⟨b85_z, hm_z⟩
    · replace b85_z : m.toInt ≤ i.toInt := b85_z
      obtain rfl : j = 0 := by omega
      rw [show ((0 : Nat) : Int) * tk.toInt = 0 by rw [show ((0 : Nat) : Int) = 0 from rfl, Int.zero_mul]] at tj
      replace hm_z := rn_aload_n (am_cur_of (i := (133, 1, .aload_n 0, (0, 0, 0), 0)) (by decide +kernel)) g0_z hm_z
      replace hm_z := rn_getR (x := 189) (am_cur_of (i := (134, 3, .getfield 88, (12, 51, 1435), 0)) (by decide +kernel)) (by decide +kernel) hm_z
      replace hm_z := rn_iconst (w := 1) (am_cur_of (i := (137, 1, .iconst 1, (0, 0, 0), 0)) (by decide +kernel)) (by decide) hm_z
      replace hm_z := rn_iaload (N := 4) (q := 1) (v := t) (am_cur_of (i := (138, 1, .iaload, (0, 0, 0), 0)) (by decide +kernel)) (by decide +kernel) rfl E1 hm_z
      obtain ⟨p86_z, hm_z⟩ := hm_z
      replace hm_z := rn_ldc (w := 99999) (am_cur_of (i := (139, 2, .ldc 177, (0, 0, 1656), 99999)) (by decide +kernel)) (by decide) hm_z
      replace hm_z := rn_cmp (am_cur_of (i := (141, 3, .if_icmp .le 5, (87, 0, 0), 0)) (by decide +kernel)) hm_z
      rcases hm_z with ⟨b87_z, hm_z⟩ | ⟨b87_z, hm_z⟩
      · replace b87_z : t.toInt ≤ (99999 : Int32).toInt := b87_z
        replace hm_z := rn_aload_n (am_cur_of (i := (146, 1, .aload_n 0, (0, 0, 0), 0)) (by decide +kernel)) g0_z hm_z
        replace hm_z := rn_callV (M' := am_m207) (o := 164) (ar := []) (rest := []) (L := lv_args 0 [.ref 164]) (am_cur_of (i := (147, 3, .invokevirtual 444, (207, 1859, 3), 0)) (by decide +kernel)) rfl rfl rfl rfl hm_z
        obtain ⟨r88_z, h89_z, q90_z, hm_z⟩ := hm_z
        have vo := rn_void rfl q90_z
        subst vo
        obtain ⟨-, -, -, -, y5_z⟩ := rm_207 rfl u0_z u20_z q90_z
        replace hm_z : rn _ _ _ _ [] _ _ _ := hm_z
        replace hm_z := rn_aload_n (am_cur_of (i := (150, 1, .aload_n 0, (0, 0, 0), 0)) (by decide +kernel)) g0_z hm_z
        replace hm_z := rn_iconst (w := 0) (am_cur_of (i := (151, 1, .iconst 0, (0, 0, 0), 0)) (by decide +kernel)) (by decide) hm_z
        replace hm_z := rn_iconst (w := 1) (am_cur_of (i := (152, 1, .iconst 1, (0, 0, 0), 0)) (by decide +kernel)) (by decide) hm_z
        replace hm_z := rn_callV (M' := am_m197) (o := 164) (ar := [.int 1, .int 0]) (rest := []) (L := lv_args 0 [.ref 164, .int 0, .int 1]) (am_cur_of (i := (153, 3, .invokevirtual 428, (197, 1820, 3), 0)) (by decide +kernel)) rfl rfl rfl rfl hm_z
        obtain ⟨r91_z, h92_z, q93_z, hm_z⟩ := hm_z
        have vo := rn_void rfl q93_z
        subst vo
        obtain ⟨c1_z, c2_z⟩ := cb_197_01 q93_z
        have e8_z : rg_v h92_z 188 0 = F := (c1_z 0 (by decide)).trans ((lw_v (y5_z 188 1 (by omega) (by omega))).trans eF)
        replace hm_z : rn _ _ _ _ [] _ _ _ := hm_z
        replace hm_z := rn_aload_n (am_cur_of (i := (156, 1, .aload_n 0, (0, 0, 0), 0)) (by decide +kernel)) g0_z hm_z
        replace hm_z := rn_getR (x := 188) (am_cur_of (i := (157, 3, .getfield 85, (12, 50, 1434), 0)) (by decide +kernel)) (by decide +kernel) hm_z
        replace hm_z := rn_iconst (w := 0) (am_cur_of (i := (160, 1, .iconst 0, (0, 0, 0), 0)) (by decide +kernel)) (by decide) hm_z
        replace hm_z := rn_iaload (N := 4) (q := 0) (v := F) (am_cur_of (i := (161, 1, .iaload, (0, 0, 0), 0)) (by decide +kernel)) (by decide +kernel) rfl e8_z hm_z
        obtain ⟨p94_z, hm_z⟩ := hm_z
        replace hm_z := rn_iret (am_cur_of (i := (162, 1, .ireturn, (0, 0, 0), 0)) (by decide +kernel)) hm_z
        obtain ⟨e95_z, e96_z⟩ := hm_z
        exact ⟨F, rfl, by rw [e96_z]; exact e8_z, e95_z⟩
      · replace b87_z : (99999 : Int32).toInt < t.toInt := b87_z
        exfalso
        omega
    · replace b85_z : i.toInt < m.toInt := b85_z
      obtain ⟨j, rfl⟩ : ∃ j2_z, j = j2_z + 1 := ⟨j - 1, by omega⟩
      have ci_z := fk_c1 b85_z
      rw [show ((j + 1 : Nat) : Int) * tk.toInt = j * tk.toInt + tk.toInt by rw [Int.natCast_add, Int.add_mul]; omega] at tj
      have jn : 0 ≤ (j : Int) * tk.toInt := Int.mul_nonneg (Int.natCast_nonneg j) tk0_z
      have ct := ab_iadd (x := t) (y := tk) (by omega) (by omega)
      replace hm_z := rn_aload_n (am_cur_of (i := (77, 1, .aload_n 0, (0, 0, 0), 0)) (by decide +kernel)) g0_z hm_z
      replace hm_z := rn_iconst (w := 1) (am_cur_of (i := (78, 1, .iconst 1, (0, 0, 0), 0)) (by decide +kernel)) (by decide) hm_z
      replace hm_z := rn_iload_n (am_cur_of (i := (79, 1, .iload_n 1, (0, 0, 0), 0)) (by decide +kernel)) g1_z hm_z
      replace hm_z := rn_callV (M' := am_m203) (o := 164) (ar := [.int k, .int 1]) (rest := []) (L := lv_args 0 [.ref 164, .int 1, .int k]) (am_cur_of (i := (80, 3, .invokevirtual 438, (203, 1843, 3), 0)) (by decide +kernel)) rfl rfl rfl rfl hm_z
      obtain ⟨r97_z, h98_z, q99_z, hm_z⟩ := hm_z
      obtain ⟨⟨dv, er, dq⟩, d1_z, d2_z⟩ := mf_203 k0_z k3_z E1 Ed Ee Er Em q99_z
      subst er
      have dv2_z : ∀ o q, ¬ (o = 191 ∧ q = 4 + k.toNatClampNeg) → rg_v h98_z o q = rg_v g o q := fun o q e => lw_v (d2_z o q e)
      rw [mrs_ef d0_z] at d1_z dq
      have C1 : mC p h0_z Hd pf U ra re nl lk pt mo h98_z := mC_f (fun o q e e2_z => d2_z o q (by omega)) C
      have eF1 := (dv2_z 188 1 (by omega)).trans eF
      have Es1 := (dv2_z 170 (7 * k.toNatClampNeg) (by omega)).trans Es
      have El1 := (dv2_z 170 (7 * k.toNatClampNeg + 1) (by omega)).trans El
      have Em1 := (dv2_z 170 (7 * k.toNatClampNeg + 2) (by omega)).trans Em
      have Et1 := (dv2_z 170 (7 * k.toNatClampNeg + 3) (by omega)).trans Et
      have Er1 := (dv2_z 170 (7 * k.toNatClampNeg + 4) (by omega)).trans Er
      have E11 := (dv2_z 189 1 (by omega)).trans E1
      have e77_z := dv2_z 164 77 (by omega)
      have nd2_z : ¬ tm.toInt ≤ (ef did en t rs).toInt ∧ ¬ mD rs tk tm j (ef did en t rs + 1) (t + tk) (t + tk) := by
        have q : ¬ (tm.toInt ≤ (mrs did t en rs).toInt ∨ mD rs tk tm j (mrs did t en rs + 1) (t + tk) (t + tk)) := nd
        rw [mrs_ef d0_z] at q
        exact ⟨fun z => q (Or.inl z), fun z => q (Or.inr z)⟩
      replace hm_z : rn _ _ _ _ [.int dv] _ _ _ := hm_z
      replace hm_z := rn_if (am_cur_of (i := (83, 3, .ifCond .eq 6, (54, 0, 0), 0)) (by decide +kernel)) hm_z
      rcases hm_z with ⟨b100_z, hm_z⟩ | ⟨b100_z, hm_z⟩
      · replace b100_z : dv = (0 : Int32) ∧ dv.toInt = (0 : Int32).toInt := b100_z
        replace hm_z := rn_iconst (w := 0) (am_cur_of (i := (89, 1, .iconst 0, (0, 0, 0), 0)) (by decide +kernel)) (by decide) hm_z
        replace hm_z := rn_istore (am_cur_of (i := (90, 2, .istore 4, (0, 0, 0), 0)) (by decide +kernel)) hm_z
        obtain ⟨_, s101_z, s102_z, g4_z, hm_z⟩ := hm_z
        replace g0_z := s101_z 0 _ (by decide) rfl g0_z
        replace g1_z := s101_z 1 _ (by decide) rfl g1_z
        replace g2_z := s101_z 2 _ (by decide) rfl g2_z
        replace g3_z := s101_z 3 _ (by decide) rfl g3_z
        clear s101_z s102_z
        obtain ⟨l2_z, g2x, F1, p0_, p1_, p2_, p3_, hm2_z, p4_, p5_, p6_, C3, p8_⟩ := bm_t H0 H9 p0_z p9_z m0_z m9_z k0_z k3_z _ tk.toInt.toNat 0 F t _ _ C1 eF1 F0 F9 Et1 E11 g0_z g1_z g2_z g3_z g4_z (by rw [show (0 : Int32).toInt = 0 by decide]; omega) (by omega) t0_z hm_z
        have q1_z := gR_r H0 H9 p0_z m0_z (by decide) _ F t F1 F0 F9 p4_
        have q2_z := ef_b (e := en) (t := t) (r := rs) (n := 998) d0_z (by omega)
        have q3_z := brV_r (st := st) (le := le) (d := ef did en t rs) st0_z st9_z le0_z le9_z q2_z.1 (by omega)
        have t2_z : rg_v g2x 189 1 = t + tk := Int32.toInt_inj.mp (by rw [p6_, ct]; omega)
        clear hm_z g0_z g1_z g2_z g3_z g4_z
        have g0_z := p0_
        have g1_z := p1_
        have g2_z := p2_
        have g3_z := p3_
        have hm_z := hm2_z
        replace hm_z := rn_aload_n (am_cur_of (i := (121, 1, .aload_n 0, (0, 0, 0), 0)) (by decide +kernel)) g0_z hm_z
        replace hm_z := rn_iconst (w := 1) (am_cur_of (i := (122, 1, .iconst 1, (0, 0, 0), 0)) (by decide +kernel)) (by decide) hm_z
        replace hm_z := rn_iload_n (am_cur_of (i := (123, 1, .iload_n 1, (0, 0, 0), 0)) (by decide +kernel)) g1_z hm_z
        replace hm_z := rn_callV (M' := am_m205) (o := 164) (ar := [.int k, .int 1]) (rest := []) (L := lv_args 0 [.ref 164, .int 1, .int k]) (am_cur_of (i := (124, 3, .invokevirtual 441, (205, 1851, 3), 0)) (by decide +kernel)) rfl rfl rfl rfl hm_z
        obtain ⟨r103_z, h104_z, q105_z, hm_z⟩ := hm_z
        have vo := rn_void rfl q105_z
        subst vo
        obtain ⟨F2, a1_z, a2_z⟩ := fi_205 k0_z k3_z H9 C3 p5_ t2_z ((f1_v p8_ rfl (by omega) (by omega)).trans Es1) ((f1_v p8_ rfl (by omega) (by omega)).trans El1) ((f1_v p8_ rfl (by omega) (by omega)).trans d1_z) q1_z.1 q1_z.2 q3_z.1 q3_z.2 q105_z
        obtain ⟨y1_z, y2_z, y3_z, y4_, y5_z⟩ := mf_205 k0_z k3_z q105_z
        have qv : ∀ o q, nB o q = false → ¬ (188 ≤ o ∧ o ≤ 190 ∧ q = 1) → ¬ (191 ≤ o ∧ o ≤ 193 ∧ q = 4 + k.toNatClampNeg) → rg_v h104_z o q = rg_v g2x o q := fun o q e f h => lw_v (y5_z o q e (by omega) h (by omega))
        have C4 : mC p h0_z Hd pf U ra re nl lk pt mo h104_z := mC_f (fun o q e e2_z => y5_z o q (mQ2_n e) (by unfold mQ2 at e; omega) (by omega) (by unfold mQ2 at e; omega)) C3
        have A1 : rg_v h104_z 189 1 = t + tk := (lw_v (y5_z 189 1 rfl (by omega) (by omega) (by omega))).trans t2_z
        have Ad : rg_v h104_z 191 (4 + k.toNatClampNeg) = ef did en t rs + 1 := y1_z.trans (congrArg (fun q => q + 1) ((f1_v p8_ rfl (by omega) (by omega)).trans d1_z))
        have Ae : rg_v h104_z 193 (4 + k.toNatClampNeg) = t + tk := y3_z.trans t2_z
        have As := (qv 170 (7 * k.toNatClampNeg) rfl (by omega) (by omega)).trans ((f1_v p8_ rfl (by omega) (by omega)).trans Es1)
        have Al := (qv 170 (7 * k.toNatClampNeg + 1) rfl (by omega) (by omega)).trans ((f1_v p8_ rfl (by omega) (by omega)).trans El1)
        have Am := (qv 170 (7 * k.toNatClampNeg + 2) rfl (by omega) (by omega)).trans ((f1_v p8_ rfl (by omega) (by omega)).trans Em1)
        have At := (qv 170 (7 * k.toNatClampNeg + 3) rfl (by omega) (by omega)).trans ((f1_v p8_ rfl (by omega) (by omega)).trans Et1)
        have Ar := (qv 170 (7 * k.toNatClampNeg + 4) rfl (by omega) (by omega)).trans ((f1_v p8_ rfl (by omega) (by omega)).trans Er1)
        have A77 : rg_v h104_z 164 77 = rg_v g 164 77 := (qv 164 77 rfl (by omega) (by omega)).trans ((f1_v p8_ rfl (by omega) (by omega)).trans e77_z)
        have q4_z := flZ_r (p := p) (h0_z := h0_z) (U := U) (S := t + tk) q3_z.1 q1_z.1 H0 H9
        rw [← a2_z] at q4_z
        have q5_z := ef_b (e := en) (t := t) (r := rs) (n := did.toInt) d0_z (Int.le_refl _)
        have c1_z := rt_c1 (x := ef did en t rs) q2_z.1 (by omega)
        replace hm_z : rn _ _ _ _ [] _ _ _ := hm_z
        replace hm_z := rn_iinc (w := i + 1) (am_cur_of (i := (127, 3, .iinc 3 1, (0, 0, 0), 0)) (by decide +kernel)) g3_z rfl hm_z
        obtain ⟨_, s106_z, s107_z, g3_z, hm_z⟩ := hm_z
        replace g0_z := s106_z 0 _ (by decide) rfl g0_z
        replace g1_z := s106_z 1 _ (by decide) rfl g1_z
        replace g2_z := s106_z 2 _ (by decide) rfl g2_z
        clear s106_z s107_z
        replace hm_z := rn_gotoL (am_cur_of (i := (130, 3, .goto (-58), (44, 0, 0), 0)) (by decide +kernel)) hm_z
        obtain ⟨G, u1_z, u2_z, u3_z⟩ := ih_z j (i + 1) F2 (t + tk) (ef did en t rs + 1) (t + tk) _ _ C4 a1_z As Al Am At Ar A1 Ad Ae g0_z g1_z g2_z g3_z (by omega) (by omega) (by omega) q4_z.1 q4_z.2 (by omega) (by omega) nd2_z.2 (by rw [A77]; exact u0_z) (by rw [A77]; exact u20_z) hm_z
        exact ⟨G, ⟨F1, F2, p4_, a2_z, u1_z⟩, u2_z, u3_z⟩
      · replace b100_z : ¬ dv = (0 : Int32) ∧ ¬ dv.toInt = (0 : Int32).toInt := b100_z
        replace hm_z := rn_bipush (w := (-2)) (am_cur_of (i := (86, 2, .bipush (-2), (0, 0, 0), 0)) (by decide +kernel)) (by decide) hm_z
        replace hm_z := rn_iret (am_cur_of (i := (88, 1, .ireturn, (0, 0, 0), 0)) (by decide +kernel)) hm_z
        obtain ⟨e108_z, e109_z⟩ := hm_z
        exact absurd (dq.resolve_right (fun q => b100_z.1 q.1)).2 nd2_z.1
theorem mg_185 {n : Nat} {h h' : am_H} {r : Option Value} {k : Int32}  (hc_z : rn n am_m185 0 (lv_args 0 [.ref 164, .int k]) [] h r h') : ((k.toInt < (0 : Int32).toInt) ∧ r = some (.int 0) ∧ h' = h) ∨ (((0 : Int32).toInt ≤ k.toInt) ∧ ((rg_v h 164 12).toInt ≤ k.toInt) ∧ r = some (.int 0) ∧ h' = h) ∨ (((0 : Int32).toInt ≤ k.toInt) ∧ (k.toInt < (rg_v h 164 12).toInt) ∧ r = some (.int 1) ∧ h' = h) := by
  have g0_z : am_get (lv_args 0 [.ref 164, .int k]) 0 = some (.ref 164) := rfl
  have g1_z : am_get (lv_args 0 [.ref 164, .int k]) 1 = some (.int k) := rfl
  replace hc_z := rn_iload_n (am_cur_of (i := (0, 1, .iload_n 1, (0, 0, 0), 0)) (by decide +kernel)) g1_z hc_z
  replace hc_z := rn_if (am_cur_of (i := (1, 3, .ifCond .lt 15, (8, 0, 0), 0)) (by decide +kernel)) hc_z
  rcases hc_z with ⟨b110_z, hc_z⟩ | ⟨b110_z, hc_z⟩
  · replace b110_z : k.toInt < (0 : Int32).toInt := b110_z
    replace hc_z := rn_iconst (w := 0) (am_cur_of (i := (16, 1, .iconst 0, (0, 0, 0), 0)) (by decide +kernel)) (by decide) hc_z
    replace hc_z := rn_iret (am_cur_of (i := (17, 1, .ireturn, (0, 0, 0), 0)) (by decide +kernel)) hc_z
    obtain ⟨e111_z, e112_z⟩ := hc_z
    exact Or.inl ⟨b110_z, e111_z, e112_z⟩
  · replace b110_z : (0 : Int32).toInt ≤ k.toInt := b110_z
    replace hc_z := rn_iload_n (am_cur_of (i := (4, 1, .iload_n 1, (0, 0, 0), 0)) (by decide +kernel)) g1_z hc_z
    replace hc_z := rn_aload_n (am_cur_of (i := (5, 1, .aload_n 0, (0, 0, 0), 0)) (by decide +kernel)) g0_z hc_z
    replace hc_z := rn_getI (v := rg_v h 164 12) (am_cur_of (i := (6, 3, .getfield 219, (12, 12, 1396), 0)) (by decide +kernel)) (by decide +kernel) rfl hc_z
    replace hc_z := rn_cmp (am_cur_of (i := (9, 3, .if_icmp .ge 7, (8, 0, 0), 0)) (by decide +kernel)) hc_z
    rcases hc_z with ⟨b113_z, hc_z⟩ | ⟨b113_z, hc_z⟩
    · replace b113_z : (rg_v h 164 12).toInt ≤ k.toInt := b113_z
      replace hc_z := rn_iconst (w := 0) (am_cur_of (i := (16, 1, .iconst 0, (0, 0, 0), 0)) (by decide +kernel)) (by decide) hc_z
      replace hc_z := rn_iret (am_cur_of (i := (17, 1, .ireturn, (0, 0, 0), 0)) (by decide +kernel)) hc_z
      obtain ⟨e114_z, e115_z⟩ := hc_z
      exact Or.inr (Or.inl ⟨b110_z, b113_z, e114_z, e115_z⟩)
    · replace b113_z : k.toInt < (rg_v h 164 12).toInt := b113_z
      replace hc_z := rn_iconst (w := 1) (am_cur_of (i := (12, 1, .iconst 1, (0, 0, 0), 0)) (by decide +kernel)) (by decide) hc_z
      replace hc_z := rn_goto (am_cur_of (i := (13, 3, .goto 4, (9, 0, 0), 0)) (by decide +kernel)) hc_z
      replace hc_z := rn_iret (am_cur_of (i := (17, 1, .ireturn, (0, 0, 0), 0)) (by decide +kernel)) hc_z
      obtain ⟨e116_z, e117_z⟩ := hc_z
      exact Or.inr (Or.inr (⟨b110_z, b113_z, e116_z, e117_z⟩))
theorem mg_162 {n : Nat} {h h' : am_H} {r : Option Value} {x : Int32} {y : Int32} {z : Int32}  (hc_z : rn n am_m162 0 (lv_args 0 [.int x, .int y, .int z]) [] h r h') : ((x.toInt < y.toInt) ∧ r = some (.int 0) ∧ h' = h) ∨ ((y.toInt ≤ x.toInt) ∧ (z.toInt < x.toInt) ∧ r = some (.int 0) ∧ h' = h) ∨ ((y.toInt ≤ x.toInt) ∧ (x.toInt ≤ z.toInt) ∧ r = some (.int 1) ∧ h' = h) := by
  have g0_z : am_get (lv_args 0 [.int x, .int y, .int z]) 0 = some (.int x) := rfl
  have g1_z : am_get (lv_args 0 [.int x, .int y, .int z]) 1 = some (.int y) := rfl
  have g2_z : am_get (lv_args 0 [.int x, .int y, .int z]) 2 = some (.int z) := rfl
  replace hc_z := rn_iload_n (am_cur_of (i := (0, 1, .iload_n 0, (0, 0, 0), 0)) (by decide +kernel)) g0_z hc_z
  replace hc_z := rn_iload_n (am_cur_of (i := (1, 1, .iload_n 1, (0, 0, 0), 0)) (by decide +kernel)) g1_z hc_z
  replace hc_z := rn_cmp (am_cur_of (i := (2, 3, .if_icmp .lt 12, (8, 0, 0), 0)) (by decide +kernel)) hc_z
  rcases hc_z with ⟨b118_z, hc_z⟩ | ⟨b118_z, hc_z⟩
  · replace b118_z : x.toInt < y.toInt := b118_z
    replace hc_z := rn_iconst (w := 0) (am_cur_of (i := (14, 1, .iconst 0, (0, 0, 0), 0)) (by decide +kernel)) (by decide) hc_z
    replace hc_z := rn_iret (am_cur_of (i := (15, 1, .ireturn, (0, 0, 0), 0)) (by decide +kernel)) hc_z
    obtain ⟨e119_z, e120_z⟩ := hc_z
    exact Or.inl ⟨b118_z, e119_z, e120_z⟩
  · replace b118_z : y.toInt ≤ x.toInt := b118_z
    replace hc_z := rn_iload_n (am_cur_of (i := (5, 1, .iload_n 0, (0, 0, 0), 0)) (by decide +kernel)) g0_z hc_z
    replace hc_z := rn_iload_n (am_cur_of (i := (6, 1, .iload_n 2, (0, 0, 0), 0)) (by decide +kernel)) g2_z hc_z
    replace hc_z := rn_cmp (am_cur_of (i := (7, 3, .if_icmp .gt 7, (8, 0, 0), 0)) (by decide +kernel)) hc_z
    rcases hc_z with ⟨b121_z, hc_z⟩ | ⟨b121_z, hc_z⟩
    · replace b121_z : z.toInt < x.toInt := b121_z
      replace hc_z := rn_iconst (w := 0) (am_cur_of (i := (14, 1, .iconst 0, (0, 0, 0), 0)) (by decide +kernel)) (by decide) hc_z
      replace hc_z := rn_iret (am_cur_of (i := (15, 1, .ireturn, (0, 0, 0), 0)) (by decide +kernel)) hc_z
      obtain ⟨e122_z, e123_z⟩ := hc_z
      exact Or.inr (Or.inl ⟨b118_z, b121_z, e122_z, e123_z⟩)
    · replace b121_z : x.toInt ≤ z.toInt := b121_z
      replace hc_z := rn_iconst (w := 1) (am_cur_of (i := (10, 1, .iconst 1, (0, 0, 0), 0)) (by decide +kernel)) (by decide) hc_z
      replace hc_z := rn_goto (am_cur_of (i := (11, 3, .goto 4, (9, 0, 0), 0)) (by decide +kernel)) hc_z
      replace hc_z := rn_iret (am_cur_of (i := (15, 1, .ireturn, (0, 0, 0), 0)) (by decide +kernel)) hc_z
      obtain ⟨e124_z, e125_z⟩ := hc_z
      exact Or.inr (Or.inr (⟨b118_z, b121_z, e124_z, e125_z⟩))
theorem sf_196 {n : Nat} {p : Nat} {h0_z : am_H} {Hd pf U ra re nl lk pt mo : Int32} {r : Option Value} {g g' : am_H} {k m F s1_z s2_z did en tm tk rs hd_z st le : Int32} (H0 : 0 ≤ Hd.toInt) (H9 : Hd.toInt ≤ 9999) (p0_z : 0 ≤ pf.toInt) (p9_z : pf.toInt ≤ 9999) (m0_z : 0 ≤ mo.toInt) (m9_z : mo.toInt ≤ 999) (C : mC p h0_z Hd pf U ra re nl lk pt mo g) (nb4_z : (rg_v g 164 12).toInt ≤ 4) (eF : rg_v g 188 0 = F) (E1 : rg_v g 189 0 = s1_z) (E2 : rg_v g 190 0 = s2_z) (Ed : rg_v g 191 k.toNatClampNeg = did) (Ee : rg_v g 193 k.toNatClampNeg = en) (Es : rg_v g 170 (7 * k.toNatClampNeg) = st) (El : rg_v g 170 (7 * k.toNatClampNeg + 1) = le) (Em : rg_v g 170 (7 * k.toNatClampNeg + 2) = tm) (Et : rg_v g 170 (7 * k.toNatClampNeg + 3) = tk) (Er : rg_v g 170 (7 * k.toNatClampNeg + 4) = rs) (Eh : rg_v g 170 (7 * k.toNatClampNeg + 5) = hd_z) (st0_z : 0 ≤ st.toInt) (st9_z : st.toInt ≤ 99) (le0_z : 0 ≤ le.toInt) (le9_z : le.toInt ≤ 99) (tk0_z : 0 ≤ tk.toInt) (tk9_z : tk.toInt ≤ 99) (hd0_z : 0 ≤ hd_z.toInt) (hd9_z : hd_z.toInt ≤ 99) (F0 : 0 ≤ F.toInt) (F9 : F.toInt ≤ 9999) (S0 : 0 ≤ s1_z.toInt) (S19 : s1_z.toInt ≤ 99999) (d0_z : 0 ≤ did.toInt) (d9_z : did.toInt ≤ 20) (u0_z : 0 ≤ (rg_v g 164 77).toInt) (u20_z : (rg_v g 164 77).toInt ≤ 20) (va : 0 ≤ k.toInt) (vb : k.toInt < (rg_v g 164 12).toInt) (vc : 1 ≤ m.toInt) (vd : m.toInt ≤ 20) (nd : ¬ mD rs tk tm m.toInt.toNat did en (s1_z + hn_z s2_z k hd_z)) (nl : s1_z.toInt + (hn_z s2_z k hd_z).toInt + m.toInt * tk.toInt ≤ 99999) (hm_z : rn n am_m196 0 (lv_args 0 [.ref 164, .int k, .int m]) [] g r g') : ∃ F1 G : Int32, gR (secZ p h0_z U Hd 0 pf mo 1) (hn_z s2_z k hd_z).toInt.toNat F s1_z F1 ∧ bR p h0_z U Hd pf mo st le rs tk m.toInt.toNat F1 (s1_z + hn_z s2_z k hd_z) did en G ∧ rg_v g' 188 0 = G ∧ r = some (.int G) := by
  have z0_z : (0 : Int32).toInt = 0 := by decide
  have z1_z : (1 : Int32).toInt = 1 := by decide
  have z20_z : (20 : Int32).toInt = 20 := by decide
  have g0_z : am_get (lv_args 0 [.ref 164, .int k, .int m]) 0 = some (.ref 164) := rfl
  have g1_z : am_get (lv_args 0 [.ref 164, .int k, .int m]) 1 = some (.int k) := rfl
  have g2_z : am_get (lv_args 0 [.ref 164, .int k, .int m]) 2 = some (.int m) := rfl
  replace hm_z := rn_aload_n (am_cur_of (i := (0, 1, .aload_n 0, (0, 0, 0), 0)) (by decide +kernel)) g0_z hm_z
  replace hm_z := rn_iconst (w := 0) (am_cur_of (i := (1, 1, .iconst 0, (0, 0, 0), 0)) (by decide +kernel)) (by decide) hm_z
  replace hm_z := rn_put (am_cur_of (i := (2, 3, .putfield 139, (12, 2, 1386), 0)) (by decide +kernel)) (by decide +kernel) hm_z
  replace hm_z := rn_aload_n (am_cur_of (i := (5, 1, .aload_n 0, (0, 0, 0), 0)) (by decide +kernel)) g0_z hm_z
  replace hm_z := rn_iload_n (am_cur_of (i := (6, 1, .iload_n 1, (0, 0, 0), 0)) (by decide +kernel)) g1_z hm_z
  replace hm_z := rn_callV (M' := am_m185) (o := 164) (ar := [.int k]) (rest := []) (L := lv_args 0 [.ref 164, .int k]) (am_cur_of (i := (7, 3, .invokevirtual 420, (185, 1770, 3), 0)) (by decide +kernel)) rfl rfl rfl rfl hm_z
  obtain ⟨r126_z, h127_z, q128_z, hm_z⟩ := hm_z
  rcases mg_185 q128_z with ⟨b129_z, rfl, y130_z⟩ | ⟨b131_z, b132_z, rfl, y133_z⟩ | ⟨b134_z, b135_z, rfl, y136_z⟩
  · replace y130_z := y130_z.symm
    subst y130_z
    replace b129_z : k.toInt < (0 : Int32).toInt := b129_z
    replace hm_z : rn _ _ _ _ [.int 0] _ _ _ := hm_z
    replace hm_z := rn_ifT (am_cur_of (i := (10, 3, .ifCond .eq 13, (12, 0, 0), 0)) (by decide +kernel)) (by decide) hm_z
    replace hm_z := rn_iconst (w := (-1)) (am_cur_of (i := (23, 1, .iconst (-1), (0, 0, 0), 0)) (by decide +kernel)) (by decide) hm_z
    replace hm_z := rn_iret (am_cur_of (i := (24, 1, .ireturn, (0, 0, 0), 0)) (by decide +kernel)) hm_z
    obtain ⟨e137_z, e138_z⟩ := hm_z
    exfalso
    omega
  · replace y133_z := y133_z.symm
    subst y133_z
    replace b131_z : (0 : Int32).toInt ≤ k.toInt := b131_z
    replace b132_z : ((rg_v g 164 12)).toInt ≤ k.toInt := b132_z
    replace hm_z : rn _ _ _ _ [.int 0] _ _ _ := hm_z
    replace hm_z := rn_ifT (am_cur_of (i := (10, 3, .ifCond .eq 13, (12, 0, 0), 0)) (by decide +kernel)) (by decide) hm_z
    replace hm_z := rn_iconst (w := (-1)) (am_cur_of (i := (23, 1, .iconst (-1), (0, 0, 0), 0)) (by decide +kernel)) (by decide) hm_z
    replace hm_z := rn_iret (am_cur_of (i := (24, 1, .ireturn, (0, 0, 0), 0)) (by decide +kernel)) hm_z
    obtain ⟨e139_z, e140_z⟩ := hm_z
    exfalso
    omega
  · replace y136_z := y136_z.symm
    subst y136_z
    replace b134_z : (0 : Int32).toInt ≤ k.toInt := b134_z
    replace b135_z : k.toInt < ((rg_v g 164 12)).toInt := b135_z
    replace hm_z : rn _ _ _ _ [.int 1] _ _ _ := hm_z
    replace hm_z := rn_ifF (am_cur_of (i := (10, 3, .ifCond .eq 13, (12, 0, 0), 0)) (by decide +kernel)) (by decide) hm_z
    replace hm_z := rn_iload_n (am_cur_of (i := (13, 1, .iload_n 2, (0, 0, 0), 0)) (by decide +kernel)) g2_z hm_z
    replace hm_z := rn_iconst (w := 1) (am_cur_of (i := (14, 1, .iconst 1, (0, 0, 0), 0)) (by decide +kernel)) (by decide) hm_z
    replace hm_z := rn_bipush (w := 20) (am_cur_of (i := (15, 2, .bipush 20, (0, 0, 0), 0)) (by decide +kernel)) (by decide) hm_z
    replace hm_z := rn_callS (M' := am_m162) (ar := [.int 20, .int 1, .int m]) (rest := []) (L := lv_args 0 [.int m, .int 1, .int 20]) (am_cur_of (i := (17, 3, .invokestatic 184, (162, 1681, 3), 0)) (by decide +kernel)) rfl rfl rfl rfl hm_z
    obtain ⟨r141_z, h142_z, q143_z, hm_z⟩ := hm_z
    rcases mg_162 q143_z with ⟨b144_z, rfl, y145_z⟩ | ⟨b146_z, b147_z, rfl, y148_z⟩ | ⟨b149_z, b150_z, rfl, y151_z⟩
    · replace y145_z := y145_z.symm
      subst y145_z
      replace b144_z : m.toInt < (1 : Int32).toInt := b144_z
      replace hm_z : rn _ _ _ _ [.int 0] _ _ _ := hm_z
      replace hm_z := rn_ifF (am_cur_of (i := (20, 3, .ifCond .ne 5, (14, 0, 0), 0)) (by decide +kernel)) (by decide) hm_z
      replace hm_z := rn_iconst (w := (-1)) (am_cur_of (i := (23, 1, .iconst (-1), (0, 0, 0), 0)) (by decide +kernel)) (by decide) hm_z
      replace hm_z := rn_iret (am_cur_of (i := (24, 1, .ireturn, (0, 0, 0), 0)) (by decide +kernel)) hm_z
      obtain ⟨e152_z, e153_z⟩ := hm_z
      exfalso
      omega
    · replace y148_z := y148_z.symm
      subst y148_z
      replace b146_z : (1 : Int32).toInt ≤ m.toInt := b146_z
      replace b147_z : (20 : Int32).toInt < m.toInt := b147_z
      replace hm_z : rn _ _ _ _ [.int 0] _ _ _ := hm_z
      replace hm_z := rn_ifF (am_cur_of (i := (20, 3, .ifCond .ne 5, (14, 0, 0), 0)) (by decide +kernel)) (by decide) hm_z
      replace hm_z := rn_iconst (w := (-1)) (am_cur_of (i := (23, 1, .iconst (-1), (0, 0, 0), 0)) (by decide +kernel)) (by decide) hm_z
      replace hm_z := rn_iret (am_cur_of (i := (24, 1, .ireturn, (0, 0, 0), 0)) (by decide +kernel)) hm_z
      obtain ⟨e154_z, e155_z⟩ := hm_z
      exfalso
      omega
    · replace y151_z := y151_z.symm
      subst y151_z
      replace b149_z : (1 : Int32).toInt ≤ m.toInt := b149_z
      replace b150_z : m.toInt ≤ (20 : Int32).toInt := b150_z
      replace hm_z : rn _ _ _ _ [.int 1] _ _ _ := hm_z
      replace hm_z := rn_ifT (am_cur_of (i := (20, 3, .ifCond .ne 5, (14, 0, 0), 0)) (by decide +kernel)) (by decide) hm_z
      replace hm_z := rn_aload_n (am_cur_of (i := (25, 1, .aload_n 0, (0, 0, 0), 0)) (by decide +kernel)) g0_z hm_z
      replace hm_z := rn_iconst (w := 1) (am_cur_of (i := (26, 1, .iconst 1, (0, 0, 0), 0)) (by decide +kernel)) (by decide) hm_z
      replace hm_z := rn_iconst (w := 0) (am_cur_of (i := (27, 1, .iconst 0, (0, 0, 0), 0)) (by decide +kernel)) (by decide) hm_z
      replace hm_z := rn_callV (M' := am_m197) (o := 164) (ar := [.int 0, .int 1]) (rest := []) (L := lv_args 0 [.ref 164, .int 1, .int 0]) (am_cur_of (i := (28, 3, .invokevirtual 428, (197, 1820, 3), 0)) (by decide +kernel)) rfl rfl rfl rfl hm_z
      obtain ⟨r156_z, h157_z, q158_z, hm_z⟩ := hm_z
      have vo := rn_void rfl q158_z
      subst vo
      obtain ⟨c1_z, c2_z⟩ := cb_197_10 q158_z
      have k0_z : 0 ≤ k.toInt := by omega
      have k3_z : k.toInt ≤ 3 := by omega
      have ck_z := rt_cl k0_z
      have C2 : mC p h0_z Hd pf U ra re nl lk pt mo h157_z := mC_f (fun o q e e2_z => (c2_z o q (bB_f (by unfold mQ2 at e; omega))).trans (up_ne (by unfold mQ2 at e; omega))) C
      have x0_z : rg_v h157_z 188 1 = F := (c1_z 0 (by decide)).trans eF
      have x1_z : rg_v h157_z 189 1 = s1_z := (c1_z 1 (by decide)).trans E1
      have x2_z : rg_v h157_z 190 1 = s2_z := (c1_z 2 (by decide)).trans E2
      have k4_z : k.toNatClampNeg < 4 := by omega
      have x5_z : rg_v h157_z 191 (4 + k.toNatClampNeg) = did := by
        have q := c1_z (5 + k.toNatClampNeg) (by omega)
        rw [mS_s k4_z, mS_s k4_z, show 4 * 1 + k.toNatClampNeg = 4 + k.toNatClampNeg by omega, show 4 * 0 + k.toNatClampNeg = k.toNatClampNeg by omega] at q
        exact q.trans Ed
      have xn : rg_v h157_z 193 (4 + k.toNatClampNeg) = en := by
        have q := c1_z (13 + k.toNatClampNeg) (by omega)
        rw [mS_n k4_z, mS_n k4_z, show 4 * 1 + k.toNatClampNeg = 4 + k.toNatClampNeg by omega, show 4 * 0 + k.toNatClampNeg = k.toNatClampNeg by omega] at q
        exact q.trans Ee
      have hv_z : ∀ q, rg_v h157_z 170 q = rg_v g 170 q := fun q => (lw_v (c2_z 170 q rfl)).trans rfl
      have h77_z : rg_v h157_z 164 77 = rg_v g 164 77 := (lw_v (c2_z 164 77 rfl)).trans rfl
      replace hm_z : rn _ _ _ _ [] _ _ _ := hm_z
      replace hm_z := rn_iconst (w := 0) (am_cur_of (i := (31, 1, .iconst 0, (0, 0, 0), 0)) (by decide +kernel)) (by decide) hm_z
      replace hm_z := rn_istore_n (am_cur_of (i := (32, 1, .istore_n 3, (0, 0, 0), 0)) (by decide +kernel)) hm_z
      obtain ⟨_, s159_z, s160_z, g3_z, hm_z⟩ := hm_z
      replace g0_z := s159_z 0 _ (by decide) rfl g0_z
      replace g1_z := s159_z 1 _ (by decide) rfl g1_z
      replace g2_z := s159_z 2 _ (by decide) rfl g2_z
      clear s159_z s160_z
      have hr := hn_r (l := s2_z) (b := k) hd0_z hd9_z
      have key : ∃ l2_z gx F1, am_get l2_z 0 = some (.ref 164) ∧ am_get l2_z 1 = some (.int k) ∧ am_get l2_z 2 = some (.int m) ∧ rn _ am_m196 42 l2_z [] gx r g' ∧ gR (secZ p h0_z U Hd 0 pf mo 1) (hn_z s2_z k hd_z).toInt.toNat F s1_z F1 ∧ rg_v gx 188 1 = F1 ∧ (rg_v gx 189 1).toInt = s1_z.toInt + (hn_z s2_z k hd_z).toInt ∧ mC p h0_z Hd pf U ra re nl lk pt mo gx ∧ f1_z h157_z gx := by
        by_cases ov : s2_z = -1 ∨ s2_z = k
        · obtain ⟨l2_z, u0_, u1_, u2_, u3_⟩ := bm_h0 k0_z k3_z ov ((hv_z _).trans Eh) x2_z g0_z g1_z g2_z g3_z hm_z
          have e0_z : hn_z s2_z k hd_z = 0 := hn_1 ov
          refine ⟨l2_z, _, F, u0_, u1_, u2_, u3_, ?_, x0_z, ?_, C2, f1_r⟩
          · rw [e0_z]
            exact (rfl : F = F)
          · rw [e0_z, x1_z, show (0 : Int32).toInt = 0 by decide]
            omega
        · have e0_z : hn_z s2_z k hd_z = hd_z := hn_0 ov
          obtain ⟨l2_z, gx, G, u0_, u1_, u2_, u3_, u4_, u5_, u6_, u7_, u8_⟩ := bm_h H0 H9 p0_z p9_z m0_z m9_z k0_z k3_z ov _ hd_z.toInt.toNat 0 F s1_z _ _ C2 x0_z F0 F9 ((hv_z _).trans Eh) x2_z x1_z g0_z g1_z g2_z g3_z (by rw [show (0 : Int32).toInt = 0 by decide]; omega) (by omega) S0 hm_z
          rw [e0_z]
          exact ⟨l2_z, gx, G, u0_, u1_, u2_, u3_, u4_, u5_, by rw [u6_]; omega, u7_, u8_⟩
      obtain ⟨l2_z, gx, F1, u0_, u1_, u2_, hm2_z, a1_z, a2_z, a3_z, C3, a5_z⟩ := key
      clear hm_z g0_z g1_z g2_z g3_z
      have g0_z := u0_
      have g1_z := u1_
      have g2_z := u2_
      have hm_z := hm2_z
      replace hm_z := rn_iconst (w := 0) (am_cur_of (i := (70, 1, .iconst 0, (0, 0, 0), 0)) (by decide +kernel)) (by decide) hm_z
      replace hm_z := rn_istore_n (am_cur_of (i := (71, 1, .istore_n 3, (0, 0, 0), 0)) (by decide +kernel)) hm_z
      obtain ⟨_, s161_z, s162_z, g3_z, hm_z⟩ := hm_z
      replace g0_z := s161_z 0 _ (by decide) rfl g0_z
      replace g1_z := s161_z 1 _ (by decide) rfl g1_z
      replace g2_z := s161_z 2 _ (by decide) rfl g2_z
      clear s161_z s162_z
      have q1_z := gR_r H0 H9 p0_z m0_z (by decide) _ F s1_z F1 F0 F9 a1_z
      have cs := ab_iadd (x := s1_z) (y := hn_z s2_z k hd_z) (by omega) (by omega)
      have u1_z : rg_v gx 189 1 = s1_z + hn_z s2_z k hd_z := Int32.toInt_inj.mp (by rw [a3_z, cs])
      have em : ((m.toInt.toNat : Nat) : Int) = m.toInt := by omega
      have mt := se_mt (m := m) (t := tk) (by omega) (by omega) tk0_z tk9_z
      have fx : ∀ o q, nB o q = false → ¬ (o = 188 ∧ q = 1) → ¬ (o = 189 ∧ q = 1) → rg_v gx o q = rg_v h157_z o q := fun o q e f h => lw_v (a5_z o q e f h)
      obtain ⟨G, y1_z, y2_z, y3_z⟩ := bm_b H0 H9 p0_z p9_z m0_z m9_z k0_z k3_z st0_z st9_z le0_z le9_z tk0_z tk9_z _ m.toInt.toNat 0 F1 (s1_z + hn_z s2_z k hd_z) did en _ _ C3 a2_z ((fx _ _ rfl (by omega) (by omega)).trans ((hv_z _).trans Es)) ((fx _ _ rfl (by omega) (by omega)).trans ((hv_z _).trans El)) ((fx _ _ rfl (by omega) (by omega)).trans ((hv_z _).trans Em)) ((fx _ _ rfl (by omega) (by omega)).trans ((hv_z _).trans Et)) ((fx _ _ rfl (by omega) (by omega)).trans ((hv_z _).trans Er)) u1_z ((fx _ _ rfl (by omega) (by omega)).trans x5_z) ((fx _ _ rfl (by omega) (by omega)).trans xn) g0_z g1_z g2_z g3_z (by rw [show (0 : Int32).toInt = 0 by decide]; omega) (by rw [em]; omega) (by omega) q1_z.1 q1_z.2 d0_z (by omega) nd (by rw [fx 164 77 rfl (by omega) (by omega), h77_z]; exact u0_z) (by rw [fx 164 77 rfl (by omega) (by omega), h77_z]; exact u20_z) hm_z
      exact ⟨F1, G, a1_z, y1_z, y2_z, y3_z⟩
