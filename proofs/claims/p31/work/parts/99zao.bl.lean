set_option maxHeartbeats 400000
/-! ===== blow OF THE CLASS, WITH FULL (wip/r/gen99sp.py) ===== -/
/-- a breath: strong, less, how many count -/
def brV (st le d : Int32) : Int32 := if 0 < (st - le * d).toInt then st - le * d else 0
theorem brV_r {st le d : Int32} (s0_z : 0 ≤ st.toInt) (s9_z : st.toInt ≤ 99) (l0_z : 0 ≤ le.toInt) (l9_z : le.toInt ≤ 99) (d0_z : 0 ≤ d.toInt) (d9_z : d.toInt ≤ 999) : 0 ≤ (brV st le d).toInt ∧ (brV st le d).toInt ≤ 99 := by
  have a : 0 ≤ le.toInt * d.toInt := Int.mul_nonneg l0_z d0_z
  have c : le.toInt * d.toInt ≤ 99 * 999 := Int.mul_le_mul l9_z d9_z d0_z (by decide)
  have e := ab_imul (x := le) (y := d) (by omega) (by omega)
  have f := ab_isub (x := st) (y := le * d) (by omega) (by omega)
  unfold brV
  split
  · omega
  · exact ⟨by decide, by decide⟩
/-- how full it is behind a breath -/
def flZ (p : Nat) (h0_z : am_H) (U Hd x F S : Int32) : Int := min (F.toInt + bnd (lawX p h0_z 1 (eC (ldX p h0_z U F (Hd - F) 0 S) F (Hd - F) 0 S x)) x.toInt 99) Hd.toInt
theorem flZ_r {p : Nat} {h0_z : am_H} {U Hd x F S : Int32} (x0_z : 0 ≤ x.toInt) (F0 : 0 ≤ F.toInt) (H0 : 0 ≤ Hd.toInt) (H9 : Hd.toInt ≤ 9999) : 0 ≤ flZ p h0_z U Hd x F S ∧ flZ p h0_z U Hd x F S ≤ 9999 := by
  have q := bnd_w (q := lawX p h0_z 1 (eC (ldX p h0_z U F (Hd - F) 0 S) F (Hd - F) 0 S x)) (wo := x.toInt) (mo := 99) x0_z (by decide)
  unfold flZ
  omega
/-- breaths one behind another -/
def bR (p : Nat) (h0_z : am_H) (U Hd pf mo st le rs tk : Int32) : Nat → Int32 → Int32 → Int32 → Int32 → Int32 → Prop
  | 0, F, _, _, _, G => G = F
  | k + 1, F, S, d, e, G => ∃ F1 F2, gR (secZ p h0_z U Hd 0 pf mo 0) tk.toInt.toNat F S F1 ∧ F2.toInt = flZ p h0_z U Hd (brV st le (ef d e S rs)) F1 (S + tk) ∧ bR p h0_z U Hd pf mo st le rs tk k F2 (S + tk) (ef d e S rs + 1) (S + tk) G
theorem bR_u {p : Nat} {h0_z : am_H} {U Hd pf mo st le rs tk : Int32} : ∀ (k : Nat) (F S d e A B : Int32), bR p h0_z U Hd pf mo st le rs tk k F S d e A → bR p h0_z U Hd pf mo st le rs tk k F S d e B → A = B
  | 0, _, _, _, _, _, _, a, b => a.trans b.symm
  | k + 1, F, S, d, e, A, B, a, b => by
    obtain ⟨F1, F2, a1_z, a2_z, a3_z⟩ := a
    obtain ⟨G1, G2, b1_z, b2_z, b3_z⟩ := b
    have e1_z := gR_u _ F S F1 G1 a1_z b1_z
    subst e1_z
    have e2_z : F2 = G2 := Int32.toInt_inj.mp (a2_z.trans b2_z.symm)
    subst e2_z
    exact bR_u k F2 (S + tk) _ (S + tk) A B a3_z b3_z
theorem ef_b {d e t r : Int32} {n : Int} (d0_z : 0 ≤ d.toInt) (d9_z : d.toInt ≤ n) : 0 ≤ (ef d e t r).toInt ∧ (ef d e t r).toInt ≤ n := by
  unfold ef
  split
  · rw [show (0 : Int32).toInt = 0 by decide]
    omega
  · exact ⟨d0_z, d9_z⟩
theorem bR_r {p : Nat} {h0_z : am_H} {U Hd pf mo st le rs tk : Int32} (H0 : 0 ≤ Hd.toInt) (H9 : Hd.toInt ≤ 9999) (p0_z : 0 ≤ pf.toInt) (m0_z : 0 ≤ mo.toInt) (s0_z : 0 ≤ st.toInt) (s9_z : st.toInt ≤ 99) (l0_z : 0 ≤ le.toInt) (l9_z : le.toInt ≤ 99) : ∀ (k : Nat) (F S d e G : Int32), 0 ≤ F.toInt → F.toInt ≤ 9999 → 0 ≤ d.toInt → d.toInt + k ≤ 999 → bR p h0_z U Hd pf mo st le rs tk k F S d e G → 0 ≤ G.toInt ∧ G.toInt ≤ 9999
  | 0, F, S, d, e, G, F0, F9, _, _, x => by
    have e2_z : G = F := x
    rw [e2_z]
    exact ⟨F0, F9⟩
  | k + 1, F, S, d, e, G, F0, F9, d0_z, d9_z, x => by
    obtain ⟨F1, F2, a1_z, a2_z, a3_z⟩ := x
    have q1_z := gR_r H0 H9 p0_z m0_z (by decide) _ F S F1 F0 F9 a1_z
    have q2_z := ef_b (e := e) (t := S) (r := rs) (n := 998) d0_z (by omega)
    have q3_z := brV_r (st := st) (le := le) (d := ef d e S rs) s0_z s9_z l0_z l9_z q2_z.1 (by omega)
    have q4_z := flZ_r (p := p) (h0_z := h0_z) (U := U) (S := S + tk) q3_z.1 q1_z.1 H0 H9
    rw [← a2_z] at q4_z
    have q5_z := ef_b (e := e) (t := S) (r := rs) (n := d.toInt) d0_z (Int.le_refl _)
    have c1_z := rt_c1 (x := ef d e S rs) q2_z.1 (by omega)
    exact bR_r H0 H9 p0_z m0_z s0_z s9_z l0_z l9_z k F2 (S + tk) _ _ G q4_z.1 q4_z.2 (by omega) (by omega) a3_z
theorem sb_62 {n : Nat} {h h' : am_H} {r : Option Value} {x : Int32} {y : Int32} {z : Int32}  (hc_z : rn n am_m62 0 (lv_args 0 [.int x, .int y, .int z]) [] h r h') : ((x.toInt < y.toInt) ∧ r = some (.int 0) ∧ h' = h) ∨ ((y.toInt ≤ x.toInt) ∧ (z.toInt < x.toInt) ∧ r = some (.int 0) ∧ h' = h) ∨ ((y.toInt ≤ x.toInt) ∧ (x.toInt ≤ z.toInt) ∧ r = some (.int 1) ∧ h' = h) := by
  have g0_z : am_get (lv_args 0 [.int x, .int y, .int z]) 0 = some (.int x) := rfl
  have g1_z : am_get (lv_args 0 [.int x, .int y, .int z]) 1 = some (.int y) := rfl
  have g2_z : am_get (lv_args 0 [.int x, .int y, .int z]) 2 = some (.int z) := rfl
  replace hc_z := rn_iload_n (am_cur_of (i := (0, 1, .iload_n 0, (0, 0, 0), 0)) (by decide +kernel)) g0_z hc_z
  replace hc_z := rn_iload_n (am_cur_of (i := (1, 1, .iload_n 1, (0, 0, 0), 0)) (by decide +kernel)) g1_z hc_z
  replace hc_z := rn_cmp (am_cur_of (i := (2, 3, .if_icmp .lt 12, (8, 0, 0), 0)) (by decide +kernel)) hc_z
  rcases hc_z with ⟨b1_z, hc_z⟩ | ⟨b1_z, hc_z⟩
  · replace b1_z : x.toInt < y.toInt := b1_z
    replace hc_z := rn_iconst (w := 0) (am_cur_of (i := (14, 1, .iconst 0, (0, 0, 0), 0)) (by decide +kernel)) (by decide) hc_z
    replace hc_z := rn_iret (am_cur_of (i := (15, 1, .ireturn, (0, 0, 0), 0)) (by decide +kernel)) hc_z
    obtain ⟨e2_z, e3_z⟩ := hc_z
    exact Or.inl ⟨b1_z, e2_z, e3_z⟩
  · replace b1_z : y.toInt ≤ x.toInt := b1_z
    replace hc_z := rn_iload_n (am_cur_of (i := (5, 1, .iload_n 0, (0, 0, 0), 0)) (by decide +kernel)) g0_z hc_z
    replace hc_z := rn_iload_n (am_cur_of (i := (6, 1, .iload_n 2, (0, 0, 0), 0)) (by decide +kernel)) g2_z hc_z
    replace hc_z := rn_cmp (am_cur_of (i := (7, 3, .if_icmp .gt 7, (8, 0, 0), 0)) (by decide +kernel)) hc_z
    rcases hc_z with ⟨b4_z, hc_z⟩ | ⟨b4_z, hc_z⟩
    · replace b4_z : z.toInt < x.toInt := b4_z
      replace hc_z := rn_iconst (w := 0) (am_cur_of (i := (14, 1, .iconst 0, (0, 0, 0), 0)) (by decide +kernel)) (by decide) hc_z
      replace hc_z := rn_iret (am_cur_of (i := (15, 1, .ireturn, (0, 0, 0), 0)) (by decide +kernel)) hc_z
      obtain ⟨e5_z, e6_z⟩ := hc_z
      exact Or.inr (Or.inl ⟨b1_z, b4_z, e5_z, e6_z⟩)
    · replace b4_z : x.toInt ≤ z.toInt := b4_z
      replace hc_z := rn_iconst (w := 1) (am_cur_of (i := (10, 1, .iconst 1, (0, 0, 0), 0)) (by decide +kernel)) (by decide) hc_z
      replace hc_z := rn_goto (am_cur_of (i := (11, 3, .goto 4, (9, 0, 0), 0)) (by decide +kernel)) hc_z
      replace hc_z := rn_iret (am_cur_of (i := (15, 1, .ireturn, (0, 0, 0), 0)) (by decide +kernel)) hc_z
      obtain ⟨e7_z, e8_z⟩ := hc_z
      exact Or.inr (Or.inr (⟨b1_z, b4_z, e7_z, e8_z⟩))
theorem bv_79_2 {n q : Nat} {r : Option Value} {h h' : am_H} {x : Int32} (q4_z : q < 4) (hc_z : rn n am_m79 0 (lv_args 0 [.ref (19 + q), .int x]) [] h r h') : r = some (.int (brV (rg_v h (19 + q) 1) (rg_v h (19 + q) 2) x)) := by
  have z0_z : (0 : Int32).toInt = 0 := by decide
  have g0_z : am_get (lv_args 0 [.ref (19 + q), .int x]) 0 = some (.ref (19 + q)) := rfl
  have g1_z : am_get (lv_args 0 [.ref (19 + q), .int x]) 1 = some (.int x) := rfl
  replace hc_z := rn_aload_n (am_cur_of (i := (0, 1, .aload_n 0, (0, 0, 0), 0)) (by decide +kernel)) g0_z hc_z
  replace hc_z := rn_getI (v := rg_v h (19 + q) 1) (am_cur_of (i := (1, 3, .getfield 7, (3, 1, 205), 0)) (by decide +kernel)) (rp_bf2 _ q4_z 1 (by decide)) rfl hc_z
  replace hc_z := rn_aload_n (am_cur_of (i := (4, 1, .aload_n 0, (0, 0, 0), 0)) (by decide +kernel)) g0_z hc_z
  replace hc_z := rn_getI (v := rg_v h (19 + q) 2) (am_cur_of (i := (5, 3, .getfield 13, (3, 2, 207), 0)) (by decide +kernel)) (rp_bf2 _ q4_z 2 (by decide)) rfl hc_z
  replace hc_z := rn_iload_n (am_cur_of (i := (8, 1, .iload_n 1, (0, 0, 0), 0)) (by decide +kernel)) g1_z hc_z
  replace hc_z := rn_imul (w := (rg_v h (19 + q) 2) * x) (am_cur_of (i := (9, 1, .imul, (0, 0, 0), 0)) (by decide +kernel)) rfl hc_z
  replace hc_z := rn_isub (w := (rg_v h (19 + q) 1) - ((rg_v h (19 + q) 2) * x)) (am_cur_of (i := (10, 1, .isub, (0, 0, 0), 0)) (by decide +kernel)) rfl hc_z
  replace hc_z := rn_istore_n (am_cur_of (i := (11, 1, .istore_n 2, (0, 0, 0), 0)) (by decide +kernel)) hc_z
  obtain ⟨_, s9_z, s10_z, g2_z, hc_z⟩ := hc_z
  replace g0_z := s9_z 0 _ (by decide) rfl g0_z
  replace g1_z := s9_z 1 _ (by decide) rfl g1_z
  clear s9_z s10_z
  replace hc_z := rn_iload_n (am_cur_of (i := (12, 1, .iload_n 2, (0, 0, 0), 0)) (by decide +kernel)) g2_z hc_z
  replace hc_z := rn_if (am_cur_of (i := (13, 3, .ifCond .le 7, (12, 0, 0), 0)) (by decide +kernel)) hc_z
  rcases hc_z with ⟨b11_z, hc_z⟩ | ⟨b11_z, hc_z⟩
  · replace b11_z : ((rg_v h (19 + q) 1) - ((rg_v h (19 + q) 2) * x)).toInt ≤ (0 : Int32).toInt := b11_z
    replace hc_z := rn_iconst (w := 0) (am_cur_of (i := (20, 1, .iconst 0, (0, 0, 0), 0)) (by decide +kernel)) (by decide) hc_z
    replace hc_z := rn_iret (am_cur_of (i := (21, 1, .ireturn, (0, 0, 0), 0)) (by decide +kernel)) hc_z
    obtain ⟨e12_z, e13_z⟩ := hc_z
    refine e12_z.trans (congrArg (fun z => some (Value.int z)) ?_)
    unfold brV
    rw [if_neg (by omega)]
  · replace b11_z : (0 : Int32).toInt < ((rg_v h (19 + q) 1) - ((rg_v h (19 + q) 2) * x)).toInt := b11_z
    replace hc_z := rn_iload_n (am_cur_of (i := (16, 1, .iload_n 2, (0, 0, 0), 0)) (by decide +kernel)) g2_z hc_z
    replace hc_z := rn_goto (am_cur_of (i := (17, 3, .goto 4, (13, 0, 0), 0)) (by decide +kernel)) hc_z
    replace hc_z := rn_iret (am_cur_of (i := (21, 1, .ireturn, (0, 0, 0), 0)) (by decide +kernel)) hc_z
    obtain ⟨e14_z, e15_z⟩ := hc_z
    refine e14_z.trans (congrArg (fun z => some (Value.int z)) ?_)
    unfold brV
    rw [if_pos (by omega)]
theorem fb_80_2 {n : Nat} {r : Option Value} {h0_z g : am_H} {Hd pf real pt lim : Int32} {lo : Nat → Int32} {h h' : am_H} {x F S : Int32} (hL : LW 2 h0_z g) (C : sC 2 h0_z Hd pf real pt lim 0 0 lo h) (eF : rg_v h 149 0 = F) (eS : rg_v h 149 1 = S) (F0 : 0 ≤ F.toInt) (F9 : F.toInt ≤ 9999) (x0_z : 0 ≤ x.toInt) (x9_z : x.toInt ≤ 99) (hc_z : rn n am_m80 0 (lv_args 0 [.ref 148, .int x]) [] h r h') : ∃ G : Int32, rg_v h' 149 0 = G ∧ G.toInt = flZ 2 h0_z 0 Hd x F S ∧ ∀ o k, ¬ o = 17 → ¬ o = 18 → ¬ (o = 149 ∧ k = 0) → h' o k = h o k := by
  have z0_z : (0 : Int32).toInt = 0 := by decide
  obtain ⟨c0_z, c1_z, c2_z, c3_z, c4_z, c5_z, c6_z, c7_z, c8_z, c9_z⟩ := C
  have g0_z : am_get (lv_args 0 [.ref 148, .int x]) 0 = some (.ref 148) := rfl
  have g1_z : am_get (lv_args 0 [.ref 148, .int x]) 1 = some (.int x) := rfl
  replace hc_z := rn_aload_n (am_cur_of (i := (0, 1, .aload_n 0, (0, 0, 0), 0)) (by decide +kernel)) g0_z hc_z
  replace hc_z := rn_iconst (w := 1) (am_cur_of (i := (1, 1, .iconst 1, (0, 0, 0), 0)) (by decide +kernel)) (by decide) hc_z
  replace hc_z := rn_iconst (w := 0) (am_cur_of (i := (2, 1, .iconst 0, (0, 0, 0), 0)) (by decide +kernel)) (by decide) hc_z
  replace hc_z := rn_iload_n (am_cur_of (i := (3, 1, .iload_n 1, (0, 0, 0), 0)) (by decide +kernel)) g1_z hc_z
  replace hc_z := rn_callV (M' := am_m65) (o := 148) (ar := [.int x, .int 0, .int 1]) (rest := []) (L := lv_args 0 [.ref 148, .int 1, .int 0, .int x]) (am_cur_of (i := (4, 3, .invokevirtual 94, (65, 973, 3), 0)) (by decide +kernel)) rfl rfl rfl rfl hc_z
  obtain ⟨r16_z, h17_z, q18_z, hc_z⟩ := hc_z
  obtain ⟨wx, rr, -, x2_z, fx⟩ := wo_65_148_2 c0_z (LW_e c1_z (fun _ _ _ => rfl) hL) eF eS c3_z c4_z (by decide) q18_z
  subst rr
  have x3_z := x2_z (by decide)
  rw [show (1 : Int32).toNatClampNeg = 1 by decide, ldX_c c1_z, lawX_c c1_z] at x3_z
  have c01_z : h17_z 148 0 = .ref 2 := (fx 148 0 (by decide) (by decide)).trans c0_z
  have eF1 : rg_v h17_z 149 0 = F := (lw_v (fx 149 0 (by decide) (by decide))).trans eF
  have c31_z : rg_v h17_z 2 0 = Hd := (lw_v (fx 2 0 (by decide) (by decide))).trans c3_z
  replace hc_z : rn _ _ _ _ [.long wx] _ _ _ := hc_z
  replace hc_z := rn_bipush (w := 99) (am_cur_of (i := (7, 2, .bipush 99, (0, 0, 0), 0)) (by decide +kernel)) (by decide) hc_z
  replace hc_z := rn_iload_n (am_cur_of (i := (9, 1, .iload_n 1, (0, 0, 0), 0)) (by decide +kernel)) g1_z hc_z
  replace hc_z := rn_callS (M' := am_m68) (ar := [.int x, .int 99, .long wx]) (rest := []) (L := lv_args 0 [.long wx, .int 99, .int x]) (am_cur_of (i := (10, 3, .invokestatic 80, (68, 935, 3), 0)) (by decide +kernel)) rfl rfl rfl rfl hc_z
  obtain ⟨r19_z, h20_z, q21_z, hc_z⟩ := hc_z
  obtain ⟨xl, rr, hh, xe⟩ := wi_68 x3_z (fun z e => lawX_b (hL 1 (by decide)) (fun q _ => eC_b q) e) (by decide) q21_z
  replace hh := hh.symm
  subst rr
  subst hh
  rw [show (99 : Int32).toInt = 99 by decide] at xe
  have bw := bnd_w (q := lawX 2 h0_z 1 (eC (ldX 2 h0_z 0 F (Hd - F) 0 S) F (Hd - F) 0 S x)) (wo := x.toInt) (mo := 99) x0_z (by decide)
  rw [← xe] at bw
  have ca_z := ab_iadd (x := F) (y := xl) (by omega) (by omega)
  replace hc_z : rn _ _ _ _ [.int xl] _ _ _ := hc_z
  replace hc_z := rn_istore_n (am_cur_of (i := (13, 1, .istore_n 2, (0, 0, 0), 0)) (by decide +kernel)) hc_z
  obtain ⟨_, s22_z, s23_z, g2_z, hc_z⟩ := hc_z
  replace g0_z := s22_z 0 _ (by decide) rfl g0_z
  replace g1_z := s22_z 1 _ (by decide) rfl g1_z
  clear s22_z s23_z
  replace hc_z := rn_aload_n (am_cur_of (i := (14, 1, .aload_n 0, (0, 0, 0), 0)) (by decide +kernel)) g0_z hc_z
  replace hc_z := rn_getR (x := 149) (am_cur_of (i := (15, 3, .getfield 12, (8, 1, 569), 0)) (by decide +kernel)) (by decide +kernel) hc_z
  replace hc_z := rn_aload_n (am_cur_of (i := (18, 1, .aload_n 0, (0, 0, 0), 0)) (by decide +kernel)) g0_z hc_z
  replace hc_z := rn_getR (x := 149) (am_cur_of (i := (19, 3, .getfield 12, (8, 1, 569), 0)) (by decide +kernel)) (by decide +kernel) hc_z
  replace hc_z := rn_getI (v := F) (am_cur_of (i := (22, 3, .getfield 49, (5, 0, 463), 0)) (by decide +kernel)) (by decide +kernel) eF1 hc_z
  replace hc_z := rn_iload_n (am_cur_of (i := (25, 1, .iload_n 2, (0, 0, 0), 0)) (by decide +kernel)) g2_z hc_z
  replace hc_z := rn_iadd (w := F + xl) (am_cur_of (i := (26, 1, .iadd, (0, 0, 0), 0)) (by decide +kernel)) rfl hc_z
  replace hc_z := rn_aload_n (am_cur_of (i := (27, 1, .aload_n 0, (0, 0, 0), 0)) (by decide +kernel)) g0_z hc_z
  replace hc_z := rn_getM (x := 2) (am_cur_of (i := (28, 3, .getfield 18, (8, 0, 566), 0)) (by decide +kernel)) c01_z hc_z
  replace hc_z := rn_getI (v := Hd) (am_cur_of (i := (31, 3, .getfield 52, (1, 0, 249), 0)) (by decide +kernel)) (by decide +kernel) c31_z hc_z
  obtain ⟨m24_z, e25_z⟩ : ∃ mq : Int32, (if Hd < F + xl then Hd else F + xl) = mq := ⟨_, rfl⟩
  replace hc_z := rn_min (w := m24_z) (am_cur_of (i := (34, 3, .invokestatic 107, (0, 975, 2), 0)) (by decide +kernel)) e25_z hc_z
  replace e25_z := mn_2 e25_z
  replace hc_z := rn_put (am_cur_of (i := (37, 3, .putfield 49, (5, 0, 463), 0)) (by decide +kernel)) (by decide +kernel) hc_z
  replace hc_z := rn_vret (am_cur_of (i := (40, 1, .return_, (0, 0, 0), 0)) (by decide +kernel)) hc_z
  obtain ⟨e26_z, e27_z⟩ := hc_z
  refine ⟨m24_z, ?_, ?_, fun o k a_ b_ d_ => ?_⟩
  · rw [e27_z]
    exact rg_v_self
  · unfold flZ
    rw [← xe]
    omega
  · rw [e27_z]
    exact (up_ne d_).trans (fx o k a_ b_)
theorem br_77_2 {n : Nat} {r : Option Value} {h0_z g : am_H} {Hd pf real pt lim : Int32} {lo : Nat → Int32} {h h' : am_H} {b F S d e st le rs tk : Int32} (hL : LW 2 h0_z g) (C : sC 2 h0_z Hd pf real pt lim 0 0 lo h) (eF : rg_v h 149 0 = F) (eS : rg_v h 149 1 = S) (b4_z : b.toNatClampNeg < 4) (ed_z : rg_v h 150 b.toNatClampNeg = d) (ee : rg_v h 152 b.toNatClampNeg = e) (y1_z : rg_v h (19 + b.toNatClampNeg) 1 = st) (y2_z : rg_v h (19 + b.toNatClampNeg) 2 = le) (y4_z : rg_v h (19 + b.toNatClampNeg) 4 = tk) (y5_z : rg_v h (19 + b.toNatClampNeg) 5 = rs) (H0 : 0 ≤ Hd.toInt) (H9 : Hd.toInt ≤ 9999) (p0_z : 0 ≤ pf.toInt) (p9_z : pf.toInt ≤ 9999) (l0_z : 0 ≤ (leZ real pt lo).toInt) (l9_z : (leZ real pt lo).toInt ≤ 999) (st0_z : 0 ≤ st.toInt) (st9_z : st.toInt ≤ 99) (le0_z : 0 ≤ le.toInt) (le9_z : le.toInt ≤ 99) (tk0_z : 0 ≤ tk.toInt) (tk9_z : tk.toInt ≤ 99) (F0 : 0 ≤ F.toInt) (F9 : F.toInt ≤ 9999) (S0 : 0 ≤ S.toInt) (S9 : S.toInt + tk.toInt < 2147483647) (L9 : S.toInt + tk.toInt ≤ lim.toInt) (d0_z : 0 ≤ d.toInt) (d9_z : d.toInt ≤ 998) (hc_z : rn n am_m77 0 (lv_args 0 [.ref 148, .int b]) [] h r h') : ∃ F1 F2 : Int32, r = some (.int 1) ∧ gR (secZ 2 h0_z 0 Hd 0 pf (leZ real pt lo) 0) tk.toInt.toNat F S F1 ∧ F2.toInt = flZ 2 h0_z 0 Hd (brV st le (ef d e S rs)) F1 (S + tk) ∧ rg_v h' 149 0 = F2 ∧ sC 2 h0_z Hd pf real pt lim 0 0 lo h' ∧ (∀ o k, ¬ o = 17 → ¬ o = 18 → ¬ (148 ≤ o ∧ o ≤ 152) → h' o k = h o k) := by
  have z0_z : (0 : Int32).toInt = 0 := by decide
  have g0_z : am_get (lv_args 0 [.ref 148, .int b]) 0 = some (.ref 148) := rfl
  have g1_z : am_get (lv_args 0 [.ref 148, .int b]) 1 = some (.int b) := rfl
  replace hc_z := rn_aload_n (am_cur_of (i := (0, 1, .aload_n 0, (0, 0, 0), 0)) (by decide +kernel)) g0_z hc_z
  replace hc_z := rn_iload_n (am_cur_of (i := (1, 1, .iload_n 1, (0, 0, 0), 0)) (by decide +kernel)) g1_z hc_z
  replace hc_z := rn_callV (M' := am_m78) (o := 148) (ar := [.int b]) (rest := []) (L := lv_args 0 [.ref 148, .int b]) (am_cur_of (i := (2, 3, .invokevirtual 128, (78, 980, 3), 0)) (by decide +kernel)) rfl rfl rfl rfl hc_z
  obtain ⟨r28_z, h29_z, q30_z, hc_z⟩ := hc_z
  have yy := pu_of (a := 78) (by decide) rfl q30_z
  have er := se_78_2 C.1 q30_z
  replace yy := yy.symm
  subst yy
  rw [ed_z, ee, eS, y5_z] at er
  subst er
  replace hc_z : rn _ _ _ _ [.int (ef d e S rs)] _ _ _ := hc_z
  replace hc_z := rn_istore_n (am_cur_of (i := (5, 1, .istore_n 2, (0, 0, 0), 0)) (by decide +kernel)) hc_z
  obtain ⟨_, s31_z, s32_z, g2_z, hc_z⟩ := hc_z
  replace g0_z := s31_z 0 _ (by decide) rfl g0_z
  replace g1_z := s31_z 1 _ (by decide) rfl g1_z
  clear s31_z s32_z
  replace hc_z := rn_aload_n (am_cur_of (i := (6, 1, .aload_n 0, (0, 0, 0), 0)) (by decide +kernel)) g0_z hc_z
  replace hc_z := rn_aload_n (am_cur_of (i := (7, 1, .aload_n 0, (0, 0, 0), 0)) (by decide +kernel)) g0_z hc_z
  replace hc_z := rn_getM (x := 2) (am_cur_of (i := (8, 3, .getfield 18, (8, 0, 566), 0)) (by decide +kernel)) C.1 hc_z
  replace hc_z := rn_getR (x := 3) (am_cur_of (i := (11, 3, .getfield 116, (1, 3, 263), 0)) (by decide +kernel)) (by decide +kernel) hc_z
  replace hc_z := rn_iload_n (am_cur_of (i := (14, 1, .iload_n 1, (0, 0, 0), 0)) (by decide +kernel)) g1_z hc_z
  replace hc_z := rn_aaload (s := "AirBed$Blower") (N := 4) (q := b.toNatClampNeg) (am_cur_of (i := (15, 1, .aaload, (0, 0, 0), 0)) (by decide +kernel)) (by decide +kernel) rfl hc_z
  obtain ⟨p33_z, hc_z⟩ := hc_z
  rw [rp_bc2 (rn_G hc_z) p33_z.2] at hc_z
  replace hc_z := rn_getI (v := tk) (am_cur_of (i := (16, 3, .getfield 156, (3, 4, 215), 0)) (by decide +kernel)) (rp_bf2 _ p33_z.2 4 (by decide)) y4_z hc_z
  replace hc_z := rn_iconst (w := 0) (am_cur_of (i := (19, 1, .iconst 0, (0, 0, 0), 0)) (by decide +kernel)) (by decide) hc_z
  replace hc_z := rn_callV (M' := am_m75) (o := 148) (ar := [.int 0, .int tk]) (rest := []) (L := lv_args 0 [.ref 148, .int tk, .int 0]) (am_cur_of (i := (20, 3, .invokevirtual 146, (75, 965, 3), 0)) (by decide +kernel)) rfl rfl rfl rfl hc_z
  obtain ⟨r34_z, h35_z, q36_z, hc_z⟩ := hc_z
  obtain ⟨F1, rr, j4_z, j6_z, j7_z, j9_z, C1⟩ := gz_75_2_0 hL C eF eS H0 H9 p0_z p9_z l0_z l9_z F0 (by omega) S0 tk0_z (by omega) (by omega) q36_z
  subst rr
  have q1_z := gR_r H0 H9 p0_z l0_z (by decide) _ F S F1 F0 F9 j4_z
  have q2_z := ef_b (e := e) (t := S) (r := rs) (n := 998) d0_z d9_z
  have q3_z := brV_r (st := st) (le := le) (d := ef d e S rs) st0_z st9_z le0_z le9_z q2_z.1 (by omega)
  have cs := ab_iadd (x := S) (y := tk) (by omega) (by omega)
  have eS1 : rg_v h35_z 149 1 = S + tk := Int32.toInt_inj.mp (by rw [j7_z, cs])
  have z1_z : rg_v h35_z (19 + b.toNatClampNeg) 1 = st := (lw_v (j9_z _ _ (by omega) (by omega) (by omega) (by omega))).trans y1_z
  have z2_z : rg_v h35_z (19 + b.toNatClampNeg) 2 = le := (lw_v (j9_z _ _ (by omega) (by omega) (by omega) (by omega))).trans y2_z
  replace hc_z : rn _ _ _ _ [.int 1] _ _ _ := hc_z
  replace hc_z := rn_ifT (am_cur_of (i := (23, 3, .ifCond .ne 5, (16, 0, 0), 0)) (by decide +kernel)) (by decide) hc_z
  replace hc_z := rn_aload_n (am_cur_of (i := (28, 1, .aload_n 0, (0, 0, 0), 0)) (by decide +kernel)) g0_z hc_z
  replace hc_z := rn_aload_n (am_cur_of (i := (29, 1, .aload_n 0, (0, 0, 0), 0)) (by decide +kernel)) g0_z hc_z
  replace hc_z := rn_getM (x := 2) (am_cur_of (i := (30, 3, .getfield 18, (8, 0, 566), 0)) (by decide +kernel)) C1.1 hc_z
  replace hc_z := rn_getR (x := 3) (am_cur_of (i := (33, 3, .getfield 116, (1, 3, 263), 0)) (by decide +kernel)) (by decide +kernel) hc_z
  replace hc_z := rn_iload_n (am_cur_of (i := (36, 1, .iload_n 1, (0, 0, 0), 0)) (by decide +kernel)) g1_z hc_z
  replace hc_z := rn_aaload (s := "AirBed$Blower") (N := 4) (q := b.toNatClampNeg) (am_cur_of (i := (37, 1, .aaload, (0, 0, 0), 0)) (by decide +kernel)) (by decide +kernel) rfl hc_z
  obtain ⟨p37_z, hc_z⟩ := hc_z
  rw [rp_bc2 (rn_G hc_z) p37_z.2] at hc_z
  replace hc_z := rn_iload_n (am_cur_of (i := (38, 1, .iload_n 2, (0, 0, 0), 0)) (by decide +kernel)) g2_z hc_z
  replace hc_z := rn_callV (M' := am_m79) (o := (19 + b.toNatClampNeg)) (ar := [.int (ef d e S rs)]) (rest := [.ref 148]) (L := lv_args 0 [.ref (19 + b.toNatClampNeg), .int (ef d e S rs)]) (am_cur_of (i := (39, 3, .invokevirtual 131, (79, 984, 3), 0)) (by decide +kernel)) rfl rfl rfl rfl hc_z
  obtain ⟨r38_z, h39_z, q40_z, hc_z⟩ := hc_z
  have y7_z := pu_of (a := 79) (by decide) rfl q40_z
  have er := bv_79_2 b4_z q40_z
  replace y7_z := y7_z.symm
  subst y7_z
  rw [z1_z, z2_z] at er
  subst er
  replace hc_z : rn _ _ _ _ [.int (brV st le (ef d e S rs)), .ref 148] _ _ _ := hc_z
  replace hc_z := rn_callV (M' := am_m80) (o := 148) (ar := [.int (brV st le (ef d e S rs))]) (rest := []) (L := lv_args 0 [.ref 148, .int (brV st le (ef d e S rs))]) (am_cur_of (i := (42, 3, .invokevirtual 159, (80, 988, 3), 0)) (by decide +kernel)) rfl rfl rfl rfl hc_z
  obtain ⟨r41_z, h42_z, q43_z, hc_z⟩ := hc_z
  have vo := rn_void rfl q43_z
  subst vo
  obtain ⟨F2, k1_z, k2_z, k3_z⟩ := fb_80_2 hL C1 j6_z eS1 q1_z.1 q1_z.2 q3_z.1 q3_z.2 q43_z
  replace hc_z : rn _ _ _ _ [] _ _ _ := hc_z
  replace hc_z := rn_aload_n (am_cur_of (i := (45, 1, .aload_n 0, (0, 0, 0), 0)) (by decide +kernel)) g0_z hc_z
  replace hc_z := rn_getR (x := 149) (am_cur_of (i := (46, 3, .getfield 12, (8, 1, 569), 0)) (by decide +kernel)) (by decide +kernel) hc_z
  replace hc_z := rn_getR (x := 150) (am_cur_of (i := (49, 3, .getfield 125, (5, 5, 481), 0)) (by decide +kernel)) (by decide +kernel) hc_z
  replace hc_z := rn_iload_n (am_cur_of (i := (52, 1, .iload_n 1, (0, 0, 0), 0)) (by decide +kernel)) g1_z hc_z
  replace hc_z := rn_iload_n (am_cur_of (i := (53, 1, .iload_n 2, (0, 0, 0), 0)) (by decide +kernel)) g2_z hc_z
  replace hc_z := rn_iconst (w := 1) (am_cur_of (i := (54, 1, .iconst 1, (0, 0, 0), 0)) (by decide +kernel)) (by decide) hc_z
  replace hc_z := rn_iadd (w := (ef d e S rs) + 1) (am_cur_of (i := (55, 1, .iadd, (0, 0, 0), 0)) (by decide +kernel)) rfl hc_z
  replace hc_z := rn_iastore (N := 4) (q := b.toNatClampNeg) (am_cur_of (i := (56, 1, .iastore, (0, 0, 0), 0)) (by decide +kernel)) (by decide +kernel) rfl hc_z
  obtain ⟨p44_z, hc_z⟩ := hc_z
  replace hc_z := rn_aload_n (am_cur_of (i := (57, 1, .aload_n 0, (0, 0, 0), 0)) (by decide +kernel)) g0_z hc_z
  replace hc_z := rn_getR (x := 149) (am_cur_of (i := (58, 3, .getfield 12, (8, 1, 569), 0)) (by decide +kernel)) (by decide +kernel) hc_z
  replace hc_z := rn_getR (x := 151) (am_cur_of (i := (61, 3, .getfield 163, (5, 6, 484), 0)) (by decide +kernel)) (by decide +kernel) hc_z
  replace hc_z := rn_iload_n (am_cur_of (i := (64, 1, .iload_n 1, (0, 0, 0), 0)) (by decide +kernel)) g1_z hc_z
  replace hc_z := rn_dup2 (am_cur_of (i := (65, 1, .dup2, (0, 0, 0), 0)) (by decide +kernel)) hc_z
  replace hc_z := rn_iaload (N := 4) (q := b.toNatClampNeg) (v := rg_v h42_z 151 b.toNatClampNeg) (am_cur_of (i := (66, 1, .iaload, (0, 0, 0), 0)) (by decide +kernel)) (by decide +kernel) rfl ((rg_v_other (by omega)).trans (rfl)) hc_z
  obtain ⟨p45_z, hc_z⟩ := hc_z
  replace hc_z := rn_iconst (w := 1) (am_cur_of (i := (67, 1, .iconst 1, (0, 0, 0), 0)) (by decide +kernel)) (by decide) hc_z
  replace hc_z := rn_iadd (w := (rg_v h42_z 151 b.toNatClampNeg) + 1) (am_cur_of (i := (68, 1, .iadd, (0, 0, 0), 0)) (by decide +kernel)) rfl hc_z
  replace hc_z := rn_iastore (N := 4) (q := b.toNatClampNeg) (am_cur_of (i := (69, 1, .iastore, (0, 0, 0), 0)) (by decide +kernel)) (by decide +kernel) rfl hc_z
  obtain ⟨p46_z, hc_z⟩ := hc_z
  replace hc_z := rn_aload_n (am_cur_of (i := (70, 1, .aload_n 0, (0, 0, 0), 0)) (by decide +kernel)) g0_z hc_z
  replace hc_z := rn_getR (x := 149) (am_cur_of (i := (71, 3, .getfield 12, (8, 1, 569), 0)) (by decide +kernel)) (by decide +kernel) hc_z
  replace hc_z := rn_getR (x := 152) (am_cur_of (i := (74, 3, .getfield 113, (5, 7, 486), 0)) (by decide +kernel)) (by decide +kernel) hc_z
  replace hc_z := rn_iload_n (am_cur_of (i := (77, 1, .iload_n 1, (0, 0, 0), 0)) (by decide +kernel)) g1_z hc_z
  replace hc_z := rn_aload_n (am_cur_of (i := (78, 1, .aload_n 0, (0, 0, 0), 0)) (by decide +kernel)) g0_z hc_z
  replace hc_z := rn_getR (x := 149) (am_cur_of (i := (79, 3, .getfield 12, (8, 1, 569), 0)) (by decide +kernel)) (by decide +kernel) hc_z
  replace hc_z := rn_getI (v := rg_v h42_z 149 1) (am_cur_of (i := (82, 3, .getfield 59, (5, 1, 470), 0)) (by decide +kernel)) (by decide +kernel) ((rg_v_other (by omega)).trans ((rg_v_other (by omega)).trans (rfl))) hc_z
  replace hc_z := rn_iastore (N := 4) (q := b.toNatClampNeg) (am_cur_of (i := (85, 1, .iastore, (0, 0, 0), 0)) (by decide +kernel)) (by decide +kernel) rfl hc_z
  obtain ⟨p47_z, hc_z⟩ := hc_z
  replace hc_z := rn_aload_n (am_cur_of (i := (86, 1, .aload_n 0, (0, 0, 0), 0)) (by decide +kernel)) g0_z hc_z
  replace hc_z := rn_getR (x := 149) (am_cur_of (i := (87, 3, .getfield 12, (8, 1, 569), 0)) (by decide +kernel)) (by decide +kernel) hc_z
  replace hc_z := rn_iload_n (am_cur_of (i := (90, 1, .iload_n 1, (0, 0, 0), 0)) (by decide +kernel)) g1_z hc_z
  replace hc_z := rn_put (am_cur_of (i := (91, 3, .putfield 137, (5, 2, 474), 0)) (by decide +kernel)) (by decide +kernel) hc_z
  replace hc_z := rn_iconst (w := 1) (am_cur_of (i := (94, 1, .iconst 1, (0, 0, 0), 0)) (by decide +kernel)) (by decide) hc_z
  replace hc_z := rn_iret (am_cur_of (i := (95, 1, .ireturn, (0, 0, 0), 0)) (by decide +kernel)) hc_z
  obtain ⟨e48_z, e49_z⟩ := hc_z
  have fr : ∀ o k, ¬ o = 17 → ¬ o = 18 → ¬ (o = 149 ∧ k ≤ 3) → ¬ (150 ≤ o ∧ o ≤ 152) → ¬ (o = 148 ∧ k = 6) → h' o k = h o k := by
    intro o k a_ b_ c_ d_ e_
    rw [e49_z]
    exact (up_ne (by omega)).trans ((up_ne (by omega)).trans ((up_ne (by omega)).trans ((up_ne (by omega)).trans ((k3_z o k a_ b_ (by omega)).trans (j9_z o k a_ b_ (by omega) e_)))))
  refine ⟨F1, F2, e48_z, j4_z, k2_z, ?_, sC_k (by decide) fr C, fun o k a_ b_ c_ => fr o k a_ b_ (by omega) (by omega) (by omega)⟩
  rw [e49_z]
  exact (rg_v_other (by omega)).trans ((rg_v_other (by omega)).trans ((rg_v_other (by omega)).trans ((rg_v_other (by omega)).trans (k1_z))))
theorem fl_l2 {r : Option Value} {h0_z g : am_H} {Hd pf real pt lim : Int32} {lo : Nat → Int32} {h' : am_H} {b m st le rs tk : Int32} (hL : LW 2 h0_z g) (eL : lim = 2147483647) (H0 : 0 ≤ Hd.toInt) (H9 : Hd.toInt ≤ 9999) (p0_z : 0 ≤ pf.toInt) (p9_z : pf.toInt ≤ 9999) (l0_z : 0 ≤ (leZ real pt lo).toInt) (l9_z : (leZ real pt lo).toInt ≤ 999) (st0_z : 0 ≤ st.toInt) (st9_z : st.toInt ≤ 99) (le0_z : 0 ≤ le.toInt) (le9_z : le.toInt ≤ 99) (tk0_z : 0 ≤ tk.toInt) (tk9_z : tk.toInt ≤ 99) (b4_z : b.toNatClampNeg < 4) : ∀ (f k : Nat) (i F S d e : Int32) (ls : am_L) (h : am_H), sC 2 h0_z Hd pf real pt lim 0 0 lo h → rg_v h 149 0 = F → rg_v h 149 1 = S → rg_v h 150 b.toNatClampNeg = d → rg_v h 152 b.toNatClampNeg = e → rg_v h (19 + b.toNatClampNeg) 1 = st → rg_v h (19 + b.toNatClampNeg) 2 = le → rg_v h (19 + b.toNatClampNeg) 4 = tk → rg_v h (19 + b.toNatClampNeg) 5 = rs → 0 ≤ F.toInt → F.toInt ≤ 9999 → 0 ≤ S.toInt → S.toInt + k * tk.toInt < 2147483647 → S.toInt + k * tk.toInt ≤ lim.toInt → 0 ≤ d.toInt → d.toInt + k ≤ 998 → 0 ≤ (rg_v h 60 1).toInt → (rg_v h 60 1).toInt < 20 → 0 ≤ (rg_v h 60 2).toInt → (rg_v h 60 2).toInt ≤ 20 → am_get ls 0 = some (.ref 0) → am_get ls 1 = some (.int b) → am_get ls 2 = some (.int m) → am_get ls 4 = some (.int i) → i.toInt + k = m.toInt → rn f am_m69 56 ls [] h r h' → ∃ G : Int32, bR 2 h0_z 0 Hd pf (leZ real pt lo) st le rs tk k F S d e G ∧ rg_v h' 48 0 = G ∧ r = some (.int G) := by
  intro f
  induction f with
  | zero => intro k i F S d e ls h C eF eS ed_z ee y1_z y2_z y4_z y5_z F0 F9 S0 S9 L9 d0_z d9_z n0_z n1_z s0_z s20_z g0_z g1_z g2_z g4_z ik hc_z; exact absurd hc_z rn_0
  | succ f ih_z =>
    intro k i F S d e ls h C eF eS ed_z ee y1_z y2_z y4_z y5_z F0 F9 S0 S9 L9 d0_z d9_z n0_z n1_z s0_z s20_z g0_z g1_z g2_z g4_z ik hc_z
    have z0_z : (0 : Int32).toInt = 0 := by decide
    have z1_z : (1 : Int32).toInt = 1 := by decide
    replace hc_z := rn_iload (am_cur_of (i := (102, 2, .iload 4, (0, 0, 0), 0)) (by decide +kernel)) g4_z hc_z
    replace hc_z := rn_iload_n (am_cur_of (i := (104, 1, .iload_n 2, (0, 0, 0), 0)) (by decide +kernel)) g2_z hc_z
    replace hc_z := rn_cmp (am_cur_of (i := (105, 3, .if_icmp .ge 18, (66, 0, 0), 0)) (by decide +kernel)) hc_z
    rcases hc_z with ⟨b50_z, hc_z⟩ | ⟨b50_z, hc_z⟩
    · replace b50_z : m.toInt ≤ i.toInt := b50_z
      obtain rfl : k = 0 := by omega
      replace hc_z := rn_aload_n (am_cur_of (i := (123, 1, .aload_n 0, (0, 0, 0), 0)) (by decide +kernel)) g0_z hc_z
      replace hc_z := rn_callV (M' := am_m81) (o := 0) (ar := []) (rest := []) (L := lv_args 0 [.ref 0]) (am_cur_of (i := (124, 3, .invokevirtual 208, (81, 992, 3), 0)) (by decide +kernel)) rfl rfl rfl rfl hc_z
      obtain ⟨r51_z, h52_z, q53_z, hc_z⟩ := hc_z
      obtain ⟨rr, e0_z⟩ := sf_81 n0_z n1_z s0_z s20_z q53_z
      have e1_z : rg_v h52_z 48 0 = F := e0_z.trans eF
      rw [e1_z] at rr
      subst rr
      replace hc_z : rn _ _ _ _ [.int F] _ _ _ := hc_z
      replace hc_z := rn_iret (am_cur_of (i := (127, 1, .ireturn, (0, 0, 0), 0)) (by decide +kernel)) hc_z
      obtain ⟨e54_z, e55_z⟩ := hc_z
      exact ⟨F, rfl, by rw [e55_z]; exact e1_z, e54_z⟩
    · replace b50_z : i.toInt < m.toInt := b50_z
      obtain ⟨k, rfl⟩ : ∃ k2_z, k = k2_z + 1 := ⟨k - 1, by omega⟩
      have ci_z := fk_c1 b50_z
      rw [show ((k + 1 : Nat) : Int) * tk.toInt = k * tk.toInt + tk.toInt by rw [Int.natCast_add, Int.add_mul]; omega] at S9 L9
      have kn : 0 ≤ (k : Int) * tk.toInt := Int.mul_nonneg (Int.natCast_nonneg k) tk0_z
      replace hc_z := rn_aload_n (am_cur_of (i := (108, 1, .aload_n 0, (0, 0, 0), 0)) (by decide +kernel)) g0_z hc_z
      replace hc_z := rn_getR (x := 148) (am_cur_of (i := (109, 3, .getfield 64, (0, 11, 672), 0)) (by decide +kernel)) (by decide +kernel) hc_z
      replace hc_z := rn_iload_n (am_cur_of (i := (112, 1, .iload_n 1, (0, 0, 0), 0)) (by decide +kernel)) g1_z hc_z
      replace hc_z := rn_callV (M' := am_m77) (o := 148) (ar := [.int b]) (rest := []) (L := lv_args 0 [.ref 148, .int b]) (am_cur_of (i := (113, 3, .invokevirtual 205, (77, 976, 3), 0)) (by decide +kernel)) rfl rfl rfl rfl hc_z
      obtain ⟨r56_z, h57_z, q58_z, hc_z⟩ := hc_z
      obtain ⟨F1, F2, rr, a1_z, a2_z, a3_z, C2, fr⟩ := br_77_2 hL C eF eS b4_z ed_z ee y1_z y2_z y4_z y5_z H0 H9 p0_z p9_z l0_z l9_z st0_z st9_z le0_z le9_z tk0_z tk9_z F0 F9 S0 (by omega) (by omega) d0_z (by omega) q58_z
      obtain ⟨w0_z, w1_z, w2_z, w3_z, w4_z, w5_z, w6_z⟩ := se_77_2 C.1 (by rw [C.2.2.1, eL]) (by rw [eS]; exact S0) (by rw [y4_z]; exact tk0_z) (by rw [eS, y4_z]; omega) q58_z
      subst rr
      have cs := ab_iadd (x := S) (y := tk) (by omega) (by omega)
      have eS2 : rg_v h57_z 149 1 = S + tk := Int32.toInt_inj.mp (by rw [w1_z, eS, y4_z, cs])
      have ed2_z : rg_v h57_z 150 b.toNatClampNeg = ef d e S rs + 1 := by rw [w2_z, ed_z, ee, eS, y5_z]
      have ee2_z : rg_v h57_z 152 b.toNatClampNeg = S + tk := w4_z.trans eS2
      have q1_z := gR_r H0 H9 p0_z l0_z (by decide) _ F S F1 F0 F9 a1_z
      have q2_z := ef_b (e := e) (t := S) (r := rs) (n := 998) d0_z (by omega)
      have q3_z := brV_r (st := st) (le := le) (d := ef d e S rs) st0_z st9_z le0_z le9_z q2_z.1 (by omega)
      have q4_z := flZ_r (p := 2) (h0_z := h0_z) (U := 0) (S := S + tk) q3_z.1 q1_z.1 H0 H9
      rw [← a2_z] at q4_z
      have q5_z := ef_b (e := e) (t := S) (r := rs) (n := d.toInt) d0_z (Int.le_refl _)
      have c1_z := rt_c1 (x := ef d e S rs) q2_z.1 (by omega)
      replace hc_z : rn _ _ _ _ [.int 1] _ _ _ := hc_z
      replace hc_z := rn_pop (am_cur_of (i := (116, 1, .pop, (0, 0, 0), 0)) (by decide +kernel)) hc_z
      replace hc_z := rn_iinc (w := i + 1) (am_cur_of (i := (117, 3, .iinc 4 1, (0, 0, 0), 0)) (by decide +kernel)) g4_z rfl hc_z
      obtain ⟨_, s59_z, s60_z, g4_z, hc_z⟩ := hc_z
      replace g0_z := s59_z 0 _ (by decide) rfl g0_z
      replace g1_z := s59_z 1 _ (by decide) rfl g1_z
      replace g2_z := s59_z 2 _ (by decide) rfl g2_z
      clear s59_z s60_z
      replace hc_z := rn_gotoL (am_cur_of (i := (120, 3, .goto (-18), (56, 0, 0), 0)) (by decide +kernel)) hc_z
      obtain ⟨G, u1_z, u2_z, u3_z⟩ := ih_z k (i + 1) F2 (S + tk) (ef d e S rs + 1) (S + tk) _ _ C2 a3_z eS2 ed2_z ee2_z ((lw_v (fr _ _ (by omega) (by omega) (by omega))).trans y1_z) ((lw_v (fr _ _ (by omega) (by omega) (by omega))).trans y2_z) ((lw_v (fr _ _ (by omega) (by omega) (by omega))).trans y4_z) ((lw_v (fr _ _ (by omega) (by omega) (by omega))).trans y5_z) q4_z.1 q4_z.2 (by omega) (by omega) (by omega) (by omega) (by omega) (by rw [(lw_v (fr 60 1 (by decide) (by decide) (by decide)))]; exact n0_z) (by rw [(lw_v (fr 60 1 (by decide) (by decide) (by decide)))]; exact n1_z) (by rw [(lw_v (fr 60 2 (by decide) (by decide) (by decide)))]; exact s0_z) (by rw [(lw_v (fr 60 2 (by decide) (by decide) (by decide)))]; exact s20_z) g0_z g1_z g2_z g4_z (by omega) hc_z
      exact ⟨G, ⟨F1, F2, a1_z, a2_z, u1_z⟩, u2_z, u3_z⟩
theorem sb_70_2 {n : Nat} {h h' : am_H} {r : Option Value} {k : Int32} (D : h 0 2 = .ref 2) (hc_z : rn n am_m70 0 (lv_args 0 [.ref 0, .int k]) [] h r h') : ((k.toInt < (0 : Int32).toInt) ∧ r = some (.int 0) ∧ h' = h) ∨ (((0 : Int32).toInt ≤ k.toInt) ∧ ((rg_v h 2 2).toInt ≤ k.toInt) ∧ r = some (.int 0) ∧ h' = h) ∨ (((0 : Int32).toInt ≤ k.toInt) ∧ (k.toInt < (rg_v h 2 2).toInt) ∧ r = some (.int 1) ∧ h' = h) := by
  have g0_z : am_get (lv_args 0 [.ref 0, .int k]) 0 = some (.ref 0) := rfl
  have g1_z : am_get (lv_args 0 [.ref 0, .int k]) 1 = some (.int k) := rfl
  replace hc_z := rn_iload_n (am_cur_of (i := (0, 1, .iload_n 1, (0, 0, 0), 0)) (by decide +kernel)) g1_z hc_z
  replace hc_z := rn_if (am_cur_of (i := (1, 3, .ifCond .lt 18, (9, 0, 0), 0)) (by decide +kernel)) hc_z
  rcases hc_z with ⟨b61_z, hc_z⟩ | ⟨b61_z, hc_z⟩
  · replace b61_z : k.toInt < (0 : Int32).toInt := b61_z
    replace hc_z := rn_iconst (w := 0) (am_cur_of (i := (19, 1, .iconst 0, (0, 0, 0), 0)) (by decide +kernel)) (by decide) hc_z
    replace hc_z := rn_iret (am_cur_of (i := (20, 1, .ireturn, (0, 0, 0), 0)) (by decide +kernel)) hc_z
    obtain ⟨e62_z, e63_z⟩ := hc_z
    exact Or.inl ⟨b61_z, e62_z, e63_z⟩
  · replace b61_z : (0 : Int32).toInt ≤ k.toInt := b61_z
    replace hc_z := rn_iload_n (am_cur_of (i := (4, 1, .iload_n 1, (0, 0, 0), 0)) (by decide +kernel)) g1_z hc_z
    replace hc_z := rn_aload_n (am_cur_of (i := (5, 1, .aload_n 0, (0, 0, 0), 0)) (by decide +kernel)) g0_z hc_z
    replace hc_z := rn_getM (x := 2) (am_cur_of (i := (6, 3, .getfield 18, (0, 2, 663), 0)) (by decide +kernel)) D hc_z
    replace hc_z := rn_getI (v := rg_v h 2 2) (am_cur_of (i := (9, 3, .getfield 169, (1, 2, 258), 0)) (by decide +kernel)) (by decide +kernel) rfl hc_z
    replace hc_z := rn_cmp (am_cur_of (i := (12, 3, .if_icmp .ge 7, (9, 0, 0), 0)) (by decide +kernel)) hc_z
    rcases hc_z with ⟨b64_z, hc_z⟩ | ⟨b64_z, hc_z⟩
    · replace b64_z : (rg_v h 2 2).toInt ≤ k.toInt := b64_z
      replace hc_z := rn_iconst (w := 0) (am_cur_of (i := (19, 1, .iconst 0, (0, 0, 0), 0)) (by decide +kernel)) (by decide) hc_z
      replace hc_z := rn_iret (am_cur_of (i := (20, 1, .ireturn, (0, 0, 0), 0)) (by decide +kernel)) hc_z
      obtain ⟨e65_z, e66_z⟩ := hc_z
      exact Or.inr (Or.inl ⟨b61_z, b64_z, e65_z, e66_z⟩)
    · replace b64_z : k.toInt < (rg_v h 2 2).toInt := b64_z
      replace hc_z := rn_iconst (w := 1) (am_cur_of (i := (15, 1, .iconst 1, (0, 0, 0), 0)) (by decide +kernel)) (by decide) hc_z
      replace hc_z := rn_goto (am_cur_of (i := (16, 3, .goto 4, (10, 0, 0), 0)) (by decide +kernel)) hc_z
      replace hc_z := rn_iret (am_cur_of (i := (20, 1, .ireturn, (0, 0, 0), 0)) (by decide +kernel)) hc_z
      obtain ⟨e67_z, e68_z⟩ := hc_z
      exact Or.inr (Or.inr (⟨b61_z, b64_z, e67_z, e68_z⟩))
theorem hf_74_2 {n : Nat} {r : Option Value} {h0_z g : am_H} {Hd pf real pt lim : Int32} {lo : Nat → Int32} {h h' : am_H} {b F s1_z s2_z hd_z : Int32} (hL : LW 2 h0_z g) (C : sC 2 h0_z Hd pf real pt lim 0 0 lo h) (x0_z : rg_v h 149 0 = F) (x1_z : rg_v h 149 1 = s1_z) (x2_z : rg_v h 149 2 = s2_z) (w6_z : rg_v h (19 + b.toNatClampNeg) 6 = hd_z) (H0 : 0 ≤ Hd.toInt) (H9 : Hd.toInt ≤ 9999) (p0_z : 0 ≤ pf.toInt) (p9_z : pf.toInt ≤ 9999) (l0_z : 0 ≤ (leZ real pt lo).toInt) (l9_z : (leZ real pt lo).toInt ≤ 999) (F0 : 0 ≤ F.toInt) (F9 : F.toInt ≤ 9999) (S0 : 0 ≤ s1_z.toInt) (hn0_z : 0 ≤ (hn_z s2_z b hd_z).toInt) (S9 : s1_z.toInt + (hn_z s2_z b hd_z).toInt < 2147483647) (L9 : s1_z.toInt + (hn_z s2_z b hd_z).toInt ≤ lim.toInt) (b4_z : b.toNatClampNeg < 4) (hc_z : rn n am_m74 0 (lv_args 0 [.ref 148, .int b]) [] h r h') : ∃ v F1 : Int32, r = some (.int v) ∧ gR (secZ 2 h0_z 0 Hd 0 pf (leZ real pt lo) 1) (hn_z s2_z b hd_z).toInt.toNat F s1_z F1 ∧ rg_v h' 149 0 = F1 ∧ (rg_v h' 149 1).toInt = s1_z.toInt + (hn_z s2_z b hd_z).toInt ∧ gF 148 2 h h' ∧ sC 2 h0_z Hd pf real pt lim 0 0 lo h' := by
  have z0_z : (0 : Int32).toInt = 0 := by decide
  have g0_z : am_get (lv_args 0 [.ref 148, .int b]) 0 = some (.ref 148) := rfl
  have g1_z : am_get (lv_args 0 [.ref 148, .int b]) 1 = some (.int b) := rfl
  replace hc_z := rn_aload_n (am_cur_of (i := (0, 1, .aload_n 0, (0, 0, 0), 0)) (by decide +kernel)) g0_z hc_z
  replace hc_z := rn_aload_n (am_cur_of (i := (1, 1, .aload_n 0, (0, 0, 0), 0)) (by decide +kernel)) g0_z hc_z
  replace hc_z := rn_iload_n (am_cur_of (i := (2, 1, .iload_n 1, (0, 0, 0), 0)) (by decide +kernel)) g1_z hc_z
  replace hc_z := rn_callV (M' := am_m72) (o := 148) (ar := [.int b]) (rest := [.ref 148]) (L := lv_args 0 [.ref 148, .int b]) (am_cur_of (i := (3, 3, .invokevirtual 143, (72, 951, 3), 0)) (by decide +kernel)) rfl rfl rfl rfl hc_z
  obtain ⟨r122_z, h123_z, q124_z, hc_z⟩ := hc_z
  have yy := pu_of (a := 72) (by decide) rfl q124_z
  have er := se_72_2 C.1 q124_z
  replace yy := yy.symm
  subst yy
  rw [x2_z, w6_z] at er
  subst er
  replace hc_z : rn _ _ _ _ [.int (hn_z s2_z b hd_z), .ref 148] _ _ _ := hc_z
  replace hc_z := rn_iconst (w := 1) (am_cur_of (i := (6, 1, .iconst 1, (0, 0, 0), 0)) (by decide +kernel)) (by decide) hc_z
  replace hc_z := rn_callV (M' := am_m75) (o := 148) (ar := [.int 1, .int (hn_z s2_z b hd_z)]) (rest := []) (L := lv_args 0 [.ref 148, .int (hn_z s2_z b hd_z), .int 1]) (am_cur_of (i := (7, 3, .invokevirtual 146, (75, 965, 3), 0)) (by decide +kernel)) rfl rfl rfl rfl hc_z
  obtain ⟨r125_z, h126_z, q127_z, hc_z⟩ := hc_z
  obtain ⟨F1, rr, j4_z, j6_z, j7_z, j9_z, C2⟩ := gz_75_2_1 hL C x0_z x1_z H0 H9 p0_z p9_z l0_z l9_z F0 (by omega) S0 hn0_z S9 L9 q127_z
  subst rr
  replace hc_z : rn _ _ _ _ [.int 1] _ _ _ := hc_z
  replace hc_z := rn_iret (am_cur_of (i := (10, 1, .ireturn, (0, 0, 0), 0)) (by decide +kernel)) hc_z
  obtain ⟨e128_z, e129_z⟩ := hc_z
  rw [e129_z]
  exact ⟨_, F1, e128_z, j4_z, j6_z, j7_z, j9_z, C2⟩
theorem sf_69_2 {n : Nat} {r : Option Value} {h0_z g : am_H} {Hd pf real pt s1_z : Int32} {lo : Nat → Int32} {h h' : am_H} {b m F s2_z se en st le rs tk tm hd_z : Int32} (hL : LW 2 h0_z g) (C0 : dC 2 h0_z Hd pf real pt s1_z lo h) (nb4_z : (rg_v h 2 2).toInt ≤ 4) (eF : rg_v h 48 0 = F) (E2 : rg_v h 48 2 = s2_z) (E5 : rg_v h 49 b.toNatClampNeg = se) (En : rg_v h 51 b.toNatClampNeg = en) (Y1 : rg_v h (19 + b.toNatClampNeg) 1 = st) (Y2 : rg_v h (19 + b.toNatClampNeg) 2 = le) (Y3 : rg_v h (19 + b.toNatClampNeg) 3 = tm) (Y4 : rg_v h (19 + b.toNatClampNeg) 4 = tk) (Y5 : rg_v h (19 + b.toNatClampNeg) 5 = rs) (Y6 : rg_v h (19 + b.toNatClampNeg) 6 = hd_z) (H0 : 0 ≤ Hd.toInt) (H9 : Hd.toInt ≤ 9999) (p0_z : 0 ≤ pf.toInt) (p9_z : pf.toInt ≤ 9999) (l0_z : 0 ≤ (leZ real pt lo).toInt) (l9_z : (leZ real pt lo).toInt ≤ 999) (st0_z : 0 ≤ st.toInt) (st9_z : st.toInt ≤ 99) (le0_z : 0 ≤ le.toInt) (le9_z : le.toInt ≤ 99) (tk0_z : 0 ≤ tk.toInt) (tk9_z : tk.toInt ≤ 99) (hd0_z : 0 ≤ hd_z.toInt) (hd9_z : hd_z.toInt ≤ 99) (F0 : 0 ≤ F.toInt) (F9 : F.toInt ≤ 9999) (S0 : 0 ≤ s1_z.toInt) (S19 : s1_z.toInt ≤ 99999) (se0_z : 0 ≤ se.toInt) (se9_z : se.toInt ≤ 20) (n0_z : 0 ≤ (rg_v h 60 1).toInt) (n1_z : (rg_v h 60 1).toInt < 20) (s0_z : 0 ≤ (rg_v h 60 2).toInt) (sz20_z : (rg_v h 60 2).toInt ≤ 20) (va : 0 ≤ b.toInt) (vb : b.toInt < (rg_v h 2 2).toInt) (vc : 1 ≤ m.toInt) (vd : m.toInt ≤ 20) (nd : ¬ (0 < rs.toInt ∧ tm.toInt < (ef se en (s1_z + hn_z s2_z b hd_z) rs + m).toInt)) (nl : ¬ ((99999 - s1_z).toInt < (hn_z s2_z b hd_z + m * tk).toInt)) (hc_z : rn n am_m69 0 (lv_args 0 [.ref 0, .int b, .int m]) [] h r h') : ∃ F1 G : Int32, gR (secZ 2 h0_z 0 Hd 0 pf (leZ real pt lo) 1) (hn_z s2_z b hd_z).toInt.toNat F s1_z F1 ∧ bR 2 h0_z 0 Hd pf (leZ real pt lo) st le rs tk m.toInt.toNat F1 (s1_z + hn_z s2_z b hd_z) se en G ∧ rg_v h' 48 0 = G ∧ r = some (.int G) := by
  have z0_z : (0 : Int32).toInt = 0 := by decide
  have z1_z : (1 : Int32).toInt = 1 := by decide
  have z20_z : (20 : Int32).toInt = 20 := by decide
  have z2147483647_z : (2147483647 : Int32).toInt = 2147483647 := by decide
  obtain ⟨d0_z, d1_z, d2_z, d3_z, d4_z, d5_z, d6_z, d7_z⟩ := C0
  have g0_z : am_get (lv_args 0 [.ref 0, .int b, .int m]) 0 = some (.ref 0) := rfl
  have g1_z : am_get (lv_args 0 [.ref 0, .int b, .int m]) 1 = some (.int b) := rfl
  have g2_z : am_get (lv_args 0 [.ref 0, .int b, .int m]) 2 = some (.int m) := rfl
  replace hc_z := rn_aload_n (am_cur_of (i := (0, 1, .aload_n 0, (0, 0, 0), 0)) (by decide +kernel)) g0_z hc_z
  replace hc_z := rn_iload_n (am_cur_of (i := (1, 1, .iload_n 1, (0, 0, 0), 0)) (by decide +kernel)) g1_z hc_z
  replace hc_z := rn_callV (M' := am_m70) (o := 0) (ar := [.int b]) (rest := []) (L := lv_args 0 [.ref 0, .int b]) (am_cur_of (i := (2, 3, .invokevirtual 135, (70, 943, 3), 0)) (by decide +kernel)) rfl rfl rfl rfl hc_z
  obtain ⟨r69_z, h70_z, q71_z, hc_z⟩ := hc_z
  rcases sb_70_2 d0_z q71_z with ⟨b72_z, rfl, y73_z⟩ | ⟨b74_z, b75_z, rfl, y76_z⟩ | ⟨b77_z, b78_z, rfl, y79_z⟩
  · replace y73_z := y73_z.symm
    subst y73_z
    replace b72_z : b.toInt < (0 : Int32).toInt := b72_z
    replace hc_z : rn _ _ _ _ [.int 0] _ _ _ := hc_z
    replace hc_z := rn_ifT (am_cur_of (i := (5, 3, .ifCond .eq 13, (9, 0, 0), 0)) (by decide +kernel)) (by decide) hc_z
    replace hc_z := rn_iconst (w := (-1)) (am_cur_of (i := (18, 1, .iconst (-1), (0, 0, 0), 0)) (by decide +kernel)) (by decide) hc_z
    replace hc_z := rn_iret (am_cur_of (i := (19, 1, .ireturn, (0, 0, 0), 0)) (by decide +kernel)) hc_z
    obtain ⟨e80_z, e81_z⟩ := hc_z
    exfalso
    omega
  · replace y76_z := y76_z.symm
    subst y76_z
    replace b74_z : (0 : Int32).toInt ≤ b.toInt := b74_z
    replace b75_z : ((rg_v h 2 2)).toInt ≤ b.toInt := b75_z
    replace hc_z : rn _ _ _ _ [.int 0] _ _ _ := hc_z
    replace hc_z := rn_ifT (am_cur_of (i := (5, 3, .ifCond .eq 13, (9, 0, 0), 0)) (by decide +kernel)) (by decide) hc_z
    replace hc_z := rn_iconst (w := (-1)) (am_cur_of (i := (18, 1, .iconst (-1), (0, 0, 0), 0)) (by decide +kernel)) (by decide) hc_z
    replace hc_z := rn_iret (am_cur_of (i := (19, 1, .ireturn, (0, 0, 0), 0)) (by decide +kernel)) hc_z
    obtain ⟨e82_z, e83_z⟩ := hc_z
    exfalso
    omega
  · replace y79_z := y79_z.symm
    subst y79_z
    replace b77_z : (0 : Int32).toInt ≤ b.toInt := b77_z
    replace b78_z : b.toInt < ((rg_v h 2 2)).toInt := b78_z
    replace hc_z : rn _ _ _ _ [.int 1] _ _ _ := hc_z
    replace hc_z := rn_ifF (am_cur_of (i := (5, 3, .ifCond .eq 13, (9, 0, 0), 0)) (by decide +kernel)) (by decide) hc_z
    replace hc_z := rn_iload_n (am_cur_of (i := (8, 1, .iload_n 2, (0, 0, 0), 0)) (by decide +kernel)) g2_z hc_z
    replace hc_z := rn_iconst (w := 1) (am_cur_of (i := (9, 1, .iconst 1, (0, 0, 0), 0)) (by decide +kernel)) (by decide) hc_z
    replace hc_z := rn_bipush (w := 20) (am_cur_of (i := (10, 2, .bipush 20, (0, 0, 0), 0)) (by decide +kernel)) (by decide) hc_z
    replace hc_z := rn_callS (M' := am_m62) (ar := [.int 20, .int 1, .int m]) (rest := []) (L := lv_args 0 [.int m, .int 1, .int 20]) (am_cur_of (i := (12, 3, .invokestatic 172, (62, 908, 3), 0)) (by decide +kernel)) rfl rfl rfl rfl hc_z
    obtain ⟨r84_z, h85_z, q86_z, hc_z⟩ := hc_z
    rcases sb_62 q86_z with ⟨b87_z, rfl, y88_z⟩ | ⟨b89_z, b90_z, rfl, y91_z⟩ | ⟨b92_z, b93_z, rfl, y94_z⟩
    · replace y88_z := y88_z.symm
      subst y88_z
      replace b87_z : m.toInt < (1 : Int32).toInt := b87_z
      replace hc_z : rn _ _ _ _ [.int 0] _ _ _ := hc_z
      replace hc_z := rn_ifF (am_cur_of (i := (15, 3, .ifCond .ne 5, (11, 0, 0), 0)) (by decide +kernel)) (by decide) hc_z
      replace hc_z := rn_iconst (w := (-1)) (am_cur_of (i := (18, 1, .iconst (-1), (0, 0, 0), 0)) (by decide +kernel)) (by decide) hc_z
      replace hc_z := rn_iret (am_cur_of (i := (19, 1, .ireturn, (0, 0, 0), 0)) (by decide +kernel)) hc_z
      obtain ⟨e95_z, e96_z⟩ := hc_z
      exfalso
      omega
    · replace y91_z := y91_z.symm
      subst y91_z
      replace b89_z : (1 : Int32).toInt ≤ m.toInt := b89_z
      replace b90_z : (20 : Int32).toInt < m.toInt := b90_z
      replace hc_z : rn _ _ _ _ [.int 0] _ _ _ := hc_z
      replace hc_z := rn_ifF (am_cur_of (i := (15, 3, .ifCond .ne 5, (11, 0, 0), 0)) (by decide +kernel)) (by decide) hc_z
      replace hc_z := rn_iconst (w := (-1)) (am_cur_of (i := (18, 1, .iconst (-1), (0, 0, 0), 0)) (by decide +kernel)) (by decide) hc_z
      replace hc_z := rn_iret (am_cur_of (i := (19, 1, .ireturn, (0, 0, 0), 0)) (by decide +kernel)) hc_z
      obtain ⟨e97_z, e98_z⟩ := hc_z
      exfalso
      omega
    · replace y94_z := y94_z.symm
      subst y94_z
      replace b92_z : (1 : Int32).toInt ≤ m.toInt := b92_z
      replace b93_z : m.toInt ≤ (20 : Int32).toInt := b93_z
      replace hc_z : rn _ _ _ _ [.int 1] _ _ _ := hc_z
      replace hc_z := rn_ifT (am_cur_of (i := (15, 3, .ifCond .ne 5, (11, 0, 0), 0)) (by decide +kernel)) (by decide) hc_z
      replace hc_z := rn_aload_n (am_cur_of (i := (20, 1, .aload_n 0, (0, 0, 0), 0)) (by decide +kernel)) g0_z hc_z
      replace hc_z := rn_getR (x := 148) (am_cur_of (i := (21, 3, .getfield 64, (0, 11, 672), 0)) (by decide +kernel)) (by decide +kernel) hc_z
      replace hc_z := rn_aload_n (am_cur_of (i := (24, 1, .aload_n 0, (0, 0, 0), 0)) (by decide +kernel)) g0_z hc_z
      replace hc_z := rn_getM (x := 2) (am_cur_of (i := (25, 3, .getfield 18, (0, 2, 663), 0)) (by decide +kernel)) d0_z hc_z
      replace hc_z := rn_aload_n (am_cur_of (i := (28, 1, .aload_n 0, (0, 0, 0), 0)) (by decide +kernel)) g0_z hc_z
      replace hc_z := rn_getR (x := 48) (am_cur_of (i := (29, 3, .getfield 37, (0, 5, 666), 0)) (by decide +kernel)) (by decide +kernel) hc_z
      replace hc_z := rn_callV (M' := am_m63) (o := 148) (ar := [.ref 48, .ref 2]) (rest := []) (L := lv_args 0 [.ref 148, .ref 2, .ref 48]) (am_cur_of (i := (32, 3, .invokevirtual 146, (63, 912, 3), 0)) (by decide +kernel)) rfl rfl rfl rfl hc_z
      obtain ⟨r99_z, h100_z, q101_z, hc_z⟩ := hc_z
      have vo := rn_void rfl q101_z
      subst vo
      obtain ⟨b1_z, b5_z, b2_z, b3_z, bp, bS, bf⟩ := se_63_2 q101_z
      have C1 : sC 2 h0_z Hd pf real pt 2147483647 0 0 lo h100_z := ⟨b1_z, fun o q a_ b_ => (lw_v (bf o q (by omega))).trans (d1_z o q a_ b_), b5_z, (lw_v (bf 2 0 (by decide))).trans d2_z, b3_z, bp, (lw_v (bf 2 7 (by decide))).trans d3_z, b2_z.trans d4_z, (bS 4 (by decide)).trans d5_z, fun q => (lw_v (bf 7 q (by omega))).trans (d7_z q)⟩
      have b4_z : b.toNatClampNeg < 4 := by have := rt_cl (x := b) (by omega); omega
      have x0_z : rg_v h100_z 149 0 = F := (bS 0 (by decide)).trans eF
      have x1_z : rg_v h100_z 149 1 = s1_z := (bS 1 (by decide)).trans d6_z
      have x2_z : rg_v h100_z 149 2 = s2_z := (bS 2 (by decide)).trans E2
      have x5_z : rg_v h100_z 150 b.toNatClampNeg = se := (cS_s (a := 149) b4_z).symm.trans ((bS (5 + b.toNatClampNeg) (by omega)).trans ((cS_s b4_z).trans E5))
      have xn : rg_v h100_z 152 b.toNatClampNeg = en := (cS_n (a := 149) b4_z).symm.trans ((bS (13 + b.toNatClampNeg) (by omega)).trans ((cS_n b4_z).trans En))
      have bl : ∀ q, rg_v h100_z (19 + b.toNatClampNeg) q = rg_v h (19 + b.toNatClampNeg) q := fun q => lw_v (bf _ _ (by omega))
      have w1_z := (bl 1).trans Y1
      have w2_z := (bl 2).trans Y2
      have w3_z := (bl 3).trans Y3
      have w4_z := (bl 4).trans Y4
      have w5_z := (bl 5).trans Y5
      have w6_z := (bl 6).trans Y6
      have D1 : h100_z 0 2 = .ref 2 := (bf 0 2 (by omega)).trans d0_z
      have z1_z : rg_v h100_z 48 1 = s1_z := (lw_v (bf 48 1 (by omega))).trans d6_z
      replace hc_z : rn _ _ _ _ [] _ _ _ := hc_z
      replace hc_z := rn_aload_n (am_cur_of (i := (35, 1, .aload_n 0, (0, 0, 0), 0)) (by decide +kernel)) g0_z hc_z
      replace hc_z := rn_getR (x := 148) (am_cur_of (i := (36, 3, .getfield 64, (0, 11, 672), 0)) (by decide +kernel)) (by decide +kernel) hc_z
      replace hc_z := rn_iload_n (am_cur_of (i := (39, 1, .iload_n 1, (0, 0, 0), 0)) (by decide +kernel)) g1_z hc_z
      replace hc_z := rn_iload_n (am_cur_of (i := (40, 1, .iload_n 2, (0, 0, 0), 0)) (by decide +kernel)) g2_z hc_z
      replace hc_z := rn_callV (M' := am_m71) (o := 148) (ar := [.int m, .int b]) (rest := []) (L := lv_args 0 [.ref 148, .int b, .int m]) (am_cur_of (i := (41, 3, .invokevirtual 182, (71, 947, 3), 0)) (by decide +kernel)) rfl rfl rfl rfl hc_z
      obtain ⟨r102_z, h103_z, q104_z, hc_z⟩ := hc_z
      have yy := pu_of (a := 71) (by decide) rfl q104_z
      obtain ⟨wv, er, wq⟩ := se_71_2 b1_z q104_z
      replace yy := yy.symm
      subst yy
      subst er
      rw [x5_z, xn, x1_z, x2_z, w3_z, w5_z, w6_z] at wq
      replace hc_z : rn _ _ _ _ [.int wv] _ _ _ := hc_z
      replace hc_z := rn_if (am_cur_of (i := (44, 3, .ifCond .eq 6, (26, 0, 0), 0)) (by decide +kernel)) hc_z
      rcases hc_z with ⟨b105_z, hc_z⟩ | ⟨b105_z, hc_z⟩
      · replace b105_z : wv = (0 : Int32) ∧ wv.toInt = (0 : Int32).toInt := b105_z
        replace hc_z := rn_aload_n (am_cur_of (i := (50, 1, .aload_n 0, (0, 0, 0), 0)) (by decide +kernel)) g0_z hc_z
        replace hc_z := rn_getR (x := 148) (am_cur_of (i := (51, 3, .getfield 64, (0, 11, 672), 0)) (by decide +kernel)) (by decide +kernel) hc_z
        replace hc_z := rn_iload_n (am_cur_of (i := (54, 1, .iload_n 1, (0, 0, 0), 0)) (by decide +kernel)) g1_z hc_z
        replace hc_z := rn_callV (M' := am_m72) (o := 148) (ar := [.int b]) (rest := []) (L := lv_args 0 [.ref 148, .int b]) (am_cur_of (i := (55, 3, .invokevirtual 186, (72, 959, 3), 0)) (by decide +kernel)) rfl rfl rfl rfl hc_z
        obtain ⟨r106_z, h107_z, q108_z, hc_z⟩ := hc_z
        have yy := pu_of (a := 72) (by decide) rfl q108_z
        have er := se_72_2 b1_z q108_z
        replace yy := yy.symm
        subst yy
        rw [x2_z, w6_z] at er
        subst er
        replace hc_z : rn _ _ _ _ [.int (hn_z s2_z b hd_z)] _ _ _ := hc_z
        replace hc_z := rn_iload_n (am_cur_of (i := (58, 1, .iload_n 2, (0, 0, 0), 0)) (by decide +kernel)) g2_z hc_z
        replace hc_z := rn_aload_n (am_cur_of (i := (59, 1, .aload_n 0, (0, 0, 0), 0)) (by decide +kernel)) g0_z hc_z
        replace hc_z := rn_getM (x := 2) (am_cur_of (i := (60, 3, .getfield 18, (0, 2, 663), 0)) (by decide +kernel)) D1 hc_z
        replace hc_z := rn_getR (x := 3) (am_cur_of (i := (63, 3, .getfield 189, (1, 3, 264), 0)) (by decide +kernel)) (by decide +kernel) hc_z
        replace hc_z := rn_iload_n (am_cur_of (i := (66, 1, .iload_n 1, (0, 0, 0), 0)) (by decide +kernel)) g1_z hc_z
        replace hc_z := rn_aaload (s := "AirBed$Blower") (N := 4) (q := b.toNatClampNeg) (am_cur_of (i := (67, 1, .aaload, (0, 0, 0), 0)) (by decide +kernel)) (by decide +kernel) rfl hc_z
        obtain ⟨p109_z, hc_z⟩ := hc_z
        rw [rp_bc2 (rn_G hc_z) p109_z.2] at hc_z
        replace hc_z := rn_getI (v := tk) (am_cur_of (i := (68, 3, .getfield 193, (3, 4, 214), 0)) (by decide +kernel)) (rp_bf2 _ p109_z.2 4 (by decide)) w4_z hc_z
        replace hc_z := rn_imul (w := m * tk) (am_cur_of (i := (71, 1, .imul, (0, 0, 0), 0)) (by decide +kernel)) rfl hc_z
        replace hc_z := rn_iadd (w := (hn_z s2_z b hd_z) + (m * tk)) (am_cur_of (i := (72, 1, .iadd, (0, 0, 0), 0)) (by decide +kernel)) rfl hc_z
        replace hc_z := rn_istore_n (am_cur_of (i := (73, 1, .istore_n 3, (0, 0, 0), 0)) (by decide +kernel)) hc_z
        obtain ⟨_, s110_z, s111_z, g3_z, hc_z⟩ := hc_z
        replace g0_z := s110_z 0 _ (by decide) rfl g0_z
        replace g1_z := s110_z 1 _ (by decide) rfl g1_z
        replace g2_z := s110_z 2 _ (by decide) rfl g2_z
        clear s110_z s111_z
        replace hc_z := rn_iload_n (am_cur_of (i := (74, 1, .iload_n 3, (0, 0, 0), 0)) (by decide +kernel)) g3_z hc_z
        replace hc_z := rn_ldc (w := 99999) (am_cur_of (i := (75, 2, .ldc 198, (0, 0, 960), 99999)) (by decide +kernel)) (by decide) hc_z
        replace hc_z := rn_aload_n (am_cur_of (i := (77, 1, .aload_n 0, (0, 0, 0), 0)) (by decide +kernel)) g0_z hc_z
        replace hc_z := rn_getR (x := 48) (am_cur_of (i := (78, 3, .getfield 37, (0, 5, 666), 0)) (by decide +kernel)) (by decide +kernel) hc_z
        replace hc_z := rn_getI (v := s1_z) (am_cur_of (i := (81, 3, .getfield 199, (5, 1, 471), 0)) (by decide +kernel)) (by decide +kernel) z1_z hc_z
        replace hc_z := rn_isub (w := (99999 : Int32) - s1_z) (am_cur_of (i := (84, 1, .isub, (0, 0, 0), 0)) (by decide +kernel)) rfl hc_z
        replace hc_z := rn_cmp (am_cur_of (i := (85, 3, .if_icmp .le 5, (49, 0, 0), 0)) (by decide +kernel)) hc_z
        rcases hc_z with ⟨b112_z, hc_z⟩ | ⟨b112_z, hc_z⟩
        · replace b112_z : ((hn_z s2_z b hd_z) + (m * tk)).toInt ≤ ((99999 : Int32) - s1_z).toInt := b112_z
          replace hc_z := rn_aload_n (am_cur_of (i := (90, 1, .aload_n 0, (0, 0, 0), 0)) (by decide +kernel)) g0_z hc_z
          replace hc_z := rn_getR (x := 148) (am_cur_of (i := (91, 3, .getfield 64, (0, 11, 672), 0)) (by decide +kernel)) (by decide +kernel) hc_z
          replace hc_z := rn_iload_n (am_cur_of (i := (94, 1, .iload_n 1, (0, 0, 0), 0)) (by decide +kernel)) g1_z hc_z
          replace hc_z := rn_callV (M' := am_m74) (o := 148) (ar := [.int b]) (rest := []) (L := lv_args 0 [.ref 148, .int b]) (am_cur_of (i := (95, 3, .invokevirtual 202, (74, 961, 3), 0)) (by decide +kernel)) rfl rfl rfl rfl hc_z
          obtain ⟨r113_z, h114_z, q115_z, hc_z⟩ := hc_z
          have hr := hn_r (l := s2_z) (b := b) hd0_z hd9_z
          obtain ⟨v2_z, F1, rr, j4_z, j6_z, j7_z, j9_z, C2⟩ := hf_74_2 hL C1 x0_z x1_z x2_z w6_z H0 H9 p0_z p9_z l0_z l9_z F0 F9 S0 hr.1 (by omega) (by omega) b4_z q115_z
          subst rr
          have q1_z := gR_r H0 H9 p0_z l0_z (by decide) _ F s1_z F1 F0 F9 j4_z
          have cs := ab_iadd (x := s1_z) (y := hn_z s2_z b hd_z) (by omega) (by omega)
          have u1_z : rg_v h114_z 149 1 = s1_z + hn_z s2_z b hd_z := Int32.toInt_inj.mp (by rw [j7_z, cs])
          have u5_z : rg_v h114_z 150 b.toNatClampNeg = se := (lw_v (j9_z _ _ (by omega) (by omega) (by omega) (by omega))).trans x5_z
          have un : rg_v h114_z 152 b.toNatClampNeg = en := (lw_v (j9_z _ _ (by omega) (by omega) (by omega) (by omega))).trans xn
          have v1_z : rg_v h114_z (19 + b.toNatClampNeg) 1 = st := (lw_v (j9_z _ _ (by omega) (by omega) (by omega) (by omega))).trans w1_z
          have v2_ : rg_v h114_z (19 + b.toNatClampNeg) 2 = le := (lw_v (j9_z _ _ (by omega) (by omega) (by omega) (by omega))).trans w2_z
          have v4_z : rg_v h114_z (19 + b.toNatClampNeg) 4 = tk := (lw_v (j9_z _ _ (by omega) (by omega) (by omega) (by omega))).trans w4_z
          have v5_z : rg_v h114_z (19 + b.toNatClampNeg) 5 = rs := (lw_v (j9_z _ _ (by omega) (by omega) (by omega) (by omega))).trans w5_z
          have e60_z : ∀ k, rg_v h114_z 60 k = rg_v h 60 k := fun k => (lw_v (j9_z 60 k (by omega) (by omega) (by omega) (by omega))).trans (lw_v (bf 60 k (by omega)))
          replace hc_z : rn _ _ _ _ [.int v2_z] _ _ _ := hc_z
          replace hc_z := rn_pop (am_cur_of (i := (98, 1, .pop, (0, 0, 0), 0)) (by decide +kernel)) hc_z
          replace hc_z := rn_iconst (w := 0) (am_cur_of (i := (99, 1, .iconst 0, (0, 0, 0), 0)) (by decide +kernel)) (by decide) hc_z
          replace hc_z := rn_istore (am_cur_of (i := (100, 2, .istore 4, (0, 0, 0), 0)) (by decide +kernel)) hc_z
          obtain ⟨_, s116_z, s117_z, g4_z, hc_z⟩ := hc_z
          replace g0_z := s116_z 0 _ (by decide) rfl g0_z
          replace g1_z := s116_z 1 _ (by decide) rfl g1_z
          replace g2_z := s116_z 2 _ (by decide) rfl g2_z
          replace g3_z := s116_z 3 _ (by decide) rfl g3_z
          clear s116_z s117_z
          have em : ((m.toInt.toNat : Nat) : Int) = m.toInt := by omega
          have mt := se_mt (m := m) (t := tk) (by omega) (by omega) tk0_z tk9_z
          have la := ab_iadd (x := hn_z s2_z b hd_z) (y := m * tk) (by omega) (by omega)
          have sb := ab_isub (x := 99999) (y := s1_z) (by rw [show (99999 : Int32).toInt = 99999 by decide]; omega) (by rw [show (99999 : Int32).toInt = 99999 by decide]; omega)
          rw [show (99999 : Int32).toInt = 99999 by decide] at sb
          obtain ⟨G, a1_z, a2_z, a3_z⟩ := fl_l2 hL rfl H0 H9 p0_z p9_z l0_z l9_z st0_z st9_z le0_z le9_z tk0_z tk9_z b4_z _ m.toInt.toNat 0 F1 (s1_z + hn_z s2_z b hd_z) se en _ _ C2 j6_z u1_z u5_z un v1_z v2_ v4_z v5_z q1_z.1 q1_z.2 (by omega) (by rw [em]; omega) (by rw [em]; omega) se0_z (by omega) (by rw [e60_z]; exact n0_z) (by rw [e60_z]; exact n1_z) (by rw [e60_z]; exact s0_z) (by rw [e60_z]; exact sz20_z) g0_z g1_z g2_z g4_z (by omega) hc_z
          exact ⟨F1, G, j4_z, a1_z, a2_z, a3_z⟩
        · replace b112_z : ((99999 : Int32) - s1_z).toInt < ((hn_z s2_z b hd_z) + (m * tk)).toInt := b112_z
          replace hc_z := rn_iconst (w := (-1)) (am_cur_of (i := (88, 1, .iconst (-1), (0, 0, 0), 0)) (by decide +kernel)) (by decide) hc_z
          replace hc_z := rn_iret (am_cur_of (i := (89, 1, .ireturn, (0, 0, 0), 0)) (by decide +kernel)) hc_z
          obtain ⟨e118_z, e119_z⟩ := hc_z
          exfalso
          omega
      · replace b105_z : ¬ wv = (0 : Int32) ∧ ¬ wv.toInt = (0 : Int32).toInt := b105_z
        replace hc_z := rn_bipush (w := (-2)) (am_cur_of (i := (47, 2, .bipush (-2), (0, 0, 0), 0)) (by decide +kernel)) (by decide) hc_z
        replace hc_z := rn_iret (am_cur_of (i := (49, 1, .ireturn, (0, 0, 0), 0)) (by decide +kernel)) hc_z
        obtain ⟨e120_z, e121_z⟩ := hc_z
        exact absurd (wq.resolve_right (fun q => b105_z.1 q.1)).2 nd
theorem bv_79_23 {n q : Nat} {r : Option Value} {h h' : am_H} {x : Int32} (q4_z : q < 4) (hc_z : rn n am_m79 0 (lv_args 0 [.ref (40 + q), .int x]) [] h r h') : r = some (.int (brV (rg_v h (40 + q) 1) (rg_v h (40 + q) 2) x)) := by
  have z0_z : (0 : Int32).toInt = 0 := by decide
  have g0_z : am_get (lv_args 0 [.ref (40 + q), .int x]) 0 = some (.ref (40 + q)) := rfl
  have g1_z : am_get (lv_args 0 [.ref (40 + q), .int x]) 1 = some (.int x) := rfl
  replace hc_z := rn_aload_n (am_cur_of (i := (0, 1, .aload_n 0, (0, 0, 0), 0)) (by decide +kernel)) g0_z hc_z
  replace hc_z := rn_getI (v := rg_v h (40 + q) 1) (am_cur_of (i := (1, 3, .getfield 7, (3, 1, 205), 0)) (by decide +kernel)) (rp_bf23 _ q4_z 1 (by decide)) rfl hc_z
  replace hc_z := rn_aload_n (am_cur_of (i := (4, 1, .aload_n 0, (0, 0, 0), 0)) (by decide +kernel)) g0_z hc_z
  replace hc_z := rn_getI (v := rg_v h (40 + q) 2) (am_cur_of (i := (5, 3, .getfield 13, (3, 2, 207), 0)) (by decide +kernel)) (rp_bf23 _ q4_z 2 (by decide)) rfl hc_z
  replace hc_z := rn_iload_n (am_cur_of (i := (8, 1, .iload_n 1, (0, 0, 0), 0)) (by decide +kernel)) g1_z hc_z
  replace hc_z := rn_imul (w := (rg_v h (40 + q) 2) * x) (am_cur_of (i := (9, 1, .imul, (0, 0, 0), 0)) (by decide +kernel)) rfl hc_z
  replace hc_z := rn_isub (w := (rg_v h (40 + q) 1) - ((rg_v h (40 + q) 2) * x)) (am_cur_of (i := (10, 1, .isub, (0, 0, 0), 0)) (by decide +kernel)) rfl hc_z
  replace hc_z := rn_istore_n (am_cur_of (i := (11, 1, .istore_n 2, (0, 0, 0), 0)) (by decide +kernel)) hc_z
  obtain ⟨_, s130_z, s131_z, g2_z, hc_z⟩ := hc_z
  replace g0_z := s130_z 0 _ (by decide) rfl g0_z
  replace g1_z := s130_z 1 _ (by decide) rfl g1_z
  clear s130_z s131_z
  replace hc_z := rn_iload_n (am_cur_of (i := (12, 1, .iload_n 2, (0, 0, 0), 0)) (by decide +kernel)) g2_z hc_z
  replace hc_z := rn_if (am_cur_of (i := (13, 3, .ifCond .le 7, (12, 0, 0), 0)) (by decide +kernel)) hc_z
  rcases hc_z with ⟨b132_z, hc_z⟩ | ⟨b132_z, hc_z⟩
  · replace b132_z : ((rg_v h (40 + q) 1) - ((rg_v h (40 + q) 2) * x)).toInt ≤ (0 : Int32).toInt := b132_z
    replace hc_z := rn_iconst (w := 0) (am_cur_of (i := (20, 1, .iconst 0, (0, 0, 0), 0)) (by decide +kernel)) (by decide) hc_z
    replace hc_z := rn_iret (am_cur_of (i := (21, 1, .ireturn, (0, 0, 0), 0)) (by decide +kernel)) hc_z
    obtain ⟨e133_z, e134_z⟩ := hc_z
    refine e133_z.trans (congrArg (fun z => some (Value.int z)) ?_)
    unfold brV
    rw [if_neg (by omega)]
  · replace b132_z : (0 : Int32).toInt < ((rg_v h (40 + q) 1) - ((rg_v h (40 + q) 2) * x)).toInt := b132_z
    replace hc_z := rn_iload_n (am_cur_of (i := (16, 1, .iload_n 2, (0, 0, 0), 0)) (by decide +kernel)) g2_z hc_z
    replace hc_z := rn_goto (am_cur_of (i := (17, 3, .goto 4, (13, 0, 0), 0)) (by decide +kernel)) hc_z
    replace hc_z := rn_iret (am_cur_of (i := (21, 1, .ireturn, (0, 0, 0), 0)) (by decide +kernel)) hc_z
    obtain ⟨e135_z, e136_z⟩ := hc_z
    refine e135_z.trans (congrArg (fun z => some (Value.int z)) ?_)
    unfold brV
    rw [if_pos (by omega)]
theorem fb_80_23 {n : Nat} {r : Option Value} {h0_z g : am_H} {Hd pf real pt lim : Int32} {lo : Nat → Int32} {h h' : am_H} {x F S : Int32} (hL : LW 23 h0_z g) (C : sC 23 h0_z Hd pf real pt lim 0 0 lo h) (eF : rg_v h 149 0 = F) (eS : rg_v h 149 1 = S) (F0 : 0 ≤ F.toInt) (F9 : F.toInt ≤ 9999) (x0_z : 0 ≤ x.toInt) (x9_z : x.toInt ≤ 99) (hc_z : rn n am_m80 0 (lv_args 0 [.ref 148, .int x]) [] h r h') : ∃ G : Int32, rg_v h' 149 0 = G ∧ G.toInt = flZ 23 h0_z 0 Hd x F S ∧ ∀ o k, ¬ o = 38 → ¬ o = 39 → ¬ (o = 149 ∧ k = 0) → h' o k = h o k := by
  have z0_z : (0 : Int32).toInt = 0 := by decide
  obtain ⟨c0_z, c1_z, c2_z, c3_z, c4_z, c5_z, c6_z, c7_z, c8_z, c9_z⟩ := C
  have g0_z : am_get (lv_args 0 [.ref 148, .int x]) 0 = some (.ref 148) := rfl
  have g1_z : am_get (lv_args 0 [.ref 148, .int x]) 1 = some (.int x) := rfl
  replace hc_z := rn_aload_n (am_cur_of (i := (0, 1, .aload_n 0, (0, 0, 0), 0)) (by decide +kernel)) g0_z hc_z
  replace hc_z := rn_iconst (w := 1) (am_cur_of (i := (1, 1, .iconst 1, (0, 0, 0), 0)) (by decide +kernel)) (by decide) hc_z
  replace hc_z := rn_iconst (w := 0) (am_cur_of (i := (2, 1, .iconst 0, (0, 0, 0), 0)) (by decide +kernel)) (by decide) hc_z
  replace hc_z := rn_iload_n (am_cur_of (i := (3, 1, .iload_n 1, (0, 0, 0), 0)) (by decide +kernel)) g1_z hc_z
  replace hc_z := rn_callV (M' := am_m65) (o := 148) (ar := [.int x, .int 0, .int 1]) (rest := []) (L := lv_args 0 [.ref 148, .int 1, .int 0, .int x]) (am_cur_of (i := (4, 3, .invokevirtual 94, (65, 973, 3), 0)) (by decide +kernel)) rfl rfl rfl rfl hc_z
  obtain ⟨r137_z, h138_z, q139_z, hc_z⟩ := hc_z
  obtain ⟨wx, rr, -, x2_z, fx⟩ := wo_65_148_23 c0_z (LW_e c1_z (fun _ _ _ => rfl) hL) eF eS c3_z c4_z (by decide) q139_z
  subst rr
  have x3_z := x2_z (by decide)
  rw [show (1 : Int32).toNatClampNeg = 1 by decide, ldX_c c1_z, lawX_c c1_z] at x3_z
  have c01_z : h138_z 148 0 = .ref 23 := (fx 148 0 (by decide) (by decide)).trans c0_z
  have eF1 : rg_v h138_z 149 0 = F := (lw_v (fx 149 0 (by decide) (by decide))).trans eF
  have c31_z : rg_v h138_z 23 0 = Hd := (lw_v (fx 23 0 (by decide) (by decide))).trans c3_z
  replace hc_z : rn _ _ _ _ [.long wx] _ _ _ := hc_z
  replace hc_z := rn_bipush (w := 99) (am_cur_of (i := (7, 2, .bipush 99, (0, 0, 0), 0)) (by decide +kernel)) (by decide) hc_z
  replace hc_z := rn_iload_n (am_cur_of (i := (9, 1, .iload_n 1, (0, 0, 0), 0)) (by decide +kernel)) g1_z hc_z
  replace hc_z := rn_callS (M' := am_m68) (ar := [.int x, .int 99, .long wx]) (rest := []) (L := lv_args 0 [.long wx, .int 99, .int x]) (am_cur_of (i := (10, 3, .invokestatic 80, (68, 935, 3), 0)) (by decide +kernel)) rfl rfl rfl rfl hc_z
  obtain ⟨r140_z, h141_z, q142_z, hc_z⟩ := hc_z
  obtain ⟨xl, rr, hh, xe⟩ := wi_68 x3_z (fun z e => lawX_b (hL 1 (by decide)) (fun q _ => eC_b q) e) (by decide) q142_z
  replace hh := hh.symm
  subst rr
  subst hh
  rw [show (99 : Int32).toInt = 99 by decide] at xe
  have bw := bnd_w (q := lawX 23 h0_z 1 (eC (ldX 23 h0_z 0 F (Hd - F) 0 S) F (Hd - F) 0 S x)) (wo := x.toInt) (mo := 99) x0_z (by decide)
  rw [← xe] at bw
  have ca_z := ab_iadd (x := F) (y := xl) (by omega) (by omega)
  replace hc_z : rn _ _ _ _ [.int xl] _ _ _ := hc_z
  replace hc_z := rn_istore_n (am_cur_of (i := (13, 1, .istore_n 2, (0, 0, 0), 0)) (by decide +kernel)) hc_z
  obtain ⟨_, s143_z, s144_z, g2_z, hc_z⟩ := hc_z
  replace g0_z := s143_z 0 _ (by decide) rfl g0_z
  replace g1_z := s143_z 1 _ (by decide) rfl g1_z
  clear s143_z s144_z
  replace hc_z := rn_aload_n (am_cur_of (i := (14, 1, .aload_n 0, (0, 0, 0), 0)) (by decide +kernel)) g0_z hc_z
  replace hc_z := rn_getR (x := 149) (am_cur_of (i := (15, 3, .getfield 12, (8, 1, 569), 0)) (by decide +kernel)) (by decide +kernel) hc_z
  replace hc_z := rn_aload_n (am_cur_of (i := (18, 1, .aload_n 0, (0, 0, 0), 0)) (by decide +kernel)) g0_z hc_z
  replace hc_z := rn_getR (x := 149) (am_cur_of (i := (19, 3, .getfield 12, (8, 1, 569), 0)) (by decide +kernel)) (by decide +kernel) hc_z
  replace hc_z := rn_getI (v := F) (am_cur_of (i := (22, 3, .getfield 49, (5, 0, 463), 0)) (by decide +kernel)) (by decide +kernel) eF1 hc_z
  replace hc_z := rn_iload_n (am_cur_of (i := (25, 1, .iload_n 2, (0, 0, 0), 0)) (by decide +kernel)) g2_z hc_z
  replace hc_z := rn_iadd (w := F + xl) (am_cur_of (i := (26, 1, .iadd, (0, 0, 0), 0)) (by decide +kernel)) rfl hc_z
  replace hc_z := rn_aload_n (am_cur_of (i := (27, 1, .aload_n 0, (0, 0, 0), 0)) (by decide +kernel)) g0_z hc_z
  replace hc_z := rn_getM (x := 23) (am_cur_of (i := (28, 3, .getfield 18, (8, 0, 566), 0)) (by decide +kernel)) c01_z hc_z
  replace hc_z := rn_getI (v := Hd) (am_cur_of (i := (31, 3, .getfield 52, (1, 0, 249), 0)) (by decide +kernel)) (by decide +kernel) c31_z hc_z
  obtain ⟨m145_z, e146_z⟩ : ∃ mq : Int32, (if Hd < F + xl then Hd else F + xl) = mq := ⟨_, rfl⟩
  replace hc_z := rn_min (w := m145_z) (am_cur_of (i := (34, 3, .invokestatic 107, (0, 975, 2), 0)) (by decide +kernel)) e146_z hc_z
  replace e146_z := mn_2 e146_z
  replace hc_z := rn_put (am_cur_of (i := (37, 3, .putfield 49, (5, 0, 463), 0)) (by decide +kernel)) (by decide +kernel) hc_z
  replace hc_z := rn_vret (am_cur_of (i := (40, 1, .return_, (0, 0, 0), 0)) (by decide +kernel)) hc_z
  obtain ⟨e147_z, e148_z⟩ := hc_z
  refine ⟨m145_z, ?_, ?_, fun o k a_ b_ d_ => ?_⟩
  · rw [e148_z]
    exact rg_v_self
  · unfold flZ
    rw [← xe]
    omega
  · rw [e148_z]
    exact (up_ne d_).trans (fx o k a_ b_)
theorem br_77_23 {n : Nat} {r : Option Value} {h0_z g : am_H} {Hd pf real pt lim : Int32} {lo : Nat → Int32} {h h' : am_H} {b F S d e st le rs tk : Int32} (hL : LW 23 h0_z g) (C : sC 23 h0_z Hd pf real pt lim 0 0 lo h) (eF : rg_v h 149 0 = F) (eS : rg_v h 149 1 = S) (b4_z : b.toNatClampNeg < 4) (ed_z : rg_v h 150 b.toNatClampNeg = d) (ee : rg_v h 152 b.toNatClampNeg = e) (y1_z : rg_v h (40 + b.toNatClampNeg) 1 = st) (y2_z : rg_v h (40 + b.toNatClampNeg) 2 = le) (y4_z : rg_v h (40 + b.toNatClampNeg) 4 = tk) (y5_z : rg_v h (40 + b.toNatClampNeg) 5 = rs) (H0 : 0 ≤ Hd.toInt) (H9 : Hd.toInt ≤ 9999) (p0_z : 0 ≤ pf.toInt) (p9_z : pf.toInt ≤ 9999) (l0_z : 0 ≤ (leZ real pt lo).toInt) (l9_z : (leZ real pt lo).toInt ≤ 999) (st0_z : 0 ≤ st.toInt) (st9_z : st.toInt ≤ 99) (le0_z : 0 ≤ le.toInt) (le9_z : le.toInt ≤ 99) (tk0_z : 0 ≤ tk.toInt) (tk9_z : tk.toInt ≤ 99) (F0 : 0 ≤ F.toInt) (F9 : F.toInt ≤ 9999) (S0 : 0 ≤ S.toInt) (S9 : S.toInt + tk.toInt < 2147483647) (L9 : S.toInt + tk.toInt ≤ lim.toInt) (d0_z : 0 ≤ d.toInt) (d9_z : d.toInt ≤ 998) (hc_z : rn n am_m77 0 (lv_args 0 [.ref 148, .int b]) [] h r h') : ∃ F1 F2 : Int32, r = some (.int 1) ∧ gR (secZ 23 h0_z 0 Hd 0 pf (leZ real pt lo) 0) tk.toInt.toNat F S F1 ∧ F2.toInt = flZ 23 h0_z 0 Hd (brV st le (ef d e S rs)) F1 (S + tk) ∧ rg_v h' 149 0 = F2 ∧ sC 23 h0_z Hd pf real pt lim 0 0 lo h' ∧ (∀ o k, ¬ o = 38 → ¬ o = 39 → ¬ (148 ≤ o ∧ o ≤ 152) → h' o k = h o k) := by
  have z0_z : (0 : Int32).toInt = 0 := by decide
  have g0_z : am_get (lv_args 0 [.ref 148, .int b]) 0 = some (.ref 148) := rfl
  have g1_z : am_get (lv_args 0 [.ref 148, .int b]) 1 = some (.int b) := rfl
  replace hc_z := rn_aload_n (am_cur_of (i := (0, 1, .aload_n 0, (0, 0, 0), 0)) (by decide +kernel)) g0_z hc_z
  replace hc_z := rn_iload_n (am_cur_of (i := (1, 1, .iload_n 1, (0, 0, 0), 0)) (by decide +kernel)) g1_z hc_z
  replace hc_z := rn_callV (M' := am_m78) (o := 148) (ar := [.int b]) (rest := []) (L := lv_args 0 [.ref 148, .int b]) (am_cur_of (i := (2, 3, .invokevirtual 128, (78, 980, 3), 0)) (by decide +kernel)) rfl rfl rfl rfl hc_z
  obtain ⟨r149_z, h150_z, q151_z, hc_z⟩ := hc_z
  have yy := pu_of (a := 78) (by decide) rfl q151_z
  have er := se_78_23 C.1 q151_z
  replace yy := yy.symm
  subst yy
  rw [ed_z, ee, eS, y5_z] at er
  subst er
  replace hc_z : rn _ _ _ _ [.int (ef d e S rs)] _ _ _ := hc_z
  replace hc_z := rn_istore_n (am_cur_of (i := (5, 1, .istore_n 2, (0, 0, 0), 0)) (by decide +kernel)) hc_z
  obtain ⟨_, s152_z, s153_z, g2_z, hc_z⟩ := hc_z
  replace g0_z := s152_z 0 _ (by decide) rfl g0_z
  replace g1_z := s152_z 1 _ (by decide) rfl g1_z
  clear s152_z s153_z
  replace hc_z := rn_aload_n (am_cur_of (i := (6, 1, .aload_n 0, (0, 0, 0), 0)) (by decide +kernel)) g0_z hc_z
  replace hc_z := rn_aload_n (am_cur_of (i := (7, 1, .aload_n 0, (0, 0, 0), 0)) (by decide +kernel)) g0_z hc_z
  replace hc_z := rn_getM (x := 23) (am_cur_of (i := (8, 3, .getfield 18, (8, 0, 566), 0)) (by decide +kernel)) C.1 hc_z
  replace hc_z := rn_getR (x := 24) (am_cur_of (i := (11, 3, .getfield 116, (1, 3, 263), 0)) (by decide +kernel)) (by decide +kernel) hc_z
  replace hc_z := rn_iload_n (am_cur_of (i := (14, 1, .iload_n 1, (0, 0, 0), 0)) (by decide +kernel)) g1_z hc_z
  replace hc_z := rn_aaload (s := "AirBed$Blower") (N := 4) (q := b.toNatClampNeg) (am_cur_of (i := (15, 1, .aaload, (0, 0, 0), 0)) (by decide +kernel)) (by decide +kernel) rfl hc_z
  obtain ⟨p154_z, hc_z⟩ := hc_z
  rw [rp_bc23 (rn_G hc_z) p154_z.2] at hc_z
  replace hc_z := rn_getI (v := tk) (am_cur_of (i := (16, 3, .getfield 156, (3, 4, 215), 0)) (by decide +kernel)) (rp_bf23 _ p154_z.2 4 (by decide)) y4_z hc_z
  replace hc_z := rn_iconst (w := 0) (am_cur_of (i := (19, 1, .iconst 0, (0, 0, 0), 0)) (by decide +kernel)) (by decide) hc_z
  replace hc_z := rn_callV (M' := am_m75) (o := 148) (ar := [.int 0, .int tk]) (rest := []) (L := lv_args 0 [.ref 148, .int tk, .int 0]) (am_cur_of (i := (20, 3, .invokevirtual 146, (75, 965, 3), 0)) (by decide +kernel)) rfl rfl rfl rfl hc_z
  obtain ⟨r155_z, h156_z, q157_z, hc_z⟩ := hc_z
  obtain ⟨F1, rr, j4_z, j6_z, j7_z, j9_z, C1⟩ := gz_75_23_0 hL C eF eS H0 H9 p0_z p9_z l0_z l9_z F0 (by omega) S0 tk0_z (by omega) (by omega) q157_z
  subst rr
  have q1_z := gR_r H0 H9 p0_z l0_z (by decide) _ F S F1 F0 F9 j4_z
  have q2_z := ef_b (e := e) (t := S) (r := rs) (n := 998) d0_z d9_z
  have q3_z := brV_r (st := st) (le := le) (d := ef d e S rs) st0_z st9_z le0_z le9_z q2_z.1 (by omega)
  have cs := ab_iadd (x := S) (y := tk) (by omega) (by omega)
  have eS1 : rg_v h156_z 149 1 = S + tk := Int32.toInt_inj.mp (by rw [j7_z, cs])
  have z1_z : rg_v h156_z (40 + b.toNatClampNeg) 1 = st := (lw_v (j9_z _ _ (by omega) (by omega) (by omega) (by omega))).trans y1_z
  have z2_z : rg_v h156_z (40 + b.toNatClampNeg) 2 = le := (lw_v (j9_z _ _ (by omega) (by omega) (by omega) (by omega))).trans y2_z
  replace hc_z : rn _ _ _ _ [.int 1] _ _ _ := hc_z
  replace hc_z := rn_ifT (am_cur_of (i := (23, 3, .ifCond .ne 5, (16, 0, 0), 0)) (by decide +kernel)) (by decide) hc_z
  replace hc_z := rn_aload_n (am_cur_of (i := (28, 1, .aload_n 0, (0, 0, 0), 0)) (by decide +kernel)) g0_z hc_z
  replace hc_z := rn_aload_n (am_cur_of (i := (29, 1, .aload_n 0, (0, 0, 0), 0)) (by decide +kernel)) g0_z hc_z
  replace hc_z := rn_getM (x := 23) (am_cur_of (i := (30, 3, .getfield 18, (8, 0, 566), 0)) (by decide +kernel)) C1.1 hc_z
  replace hc_z := rn_getR (x := 24) (am_cur_of (i := (33, 3, .getfield 116, (1, 3, 263), 0)) (by decide +kernel)) (by decide +kernel) hc_z
  replace hc_z := rn_iload_n (am_cur_of (i := (36, 1, .iload_n 1, (0, 0, 0), 0)) (by decide +kernel)) g1_z hc_z
  replace hc_z := rn_aaload (s := "AirBed$Blower") (N := 4) (q := b.toNatClampNeg) (am_cur_of (i := (37, 1, .aaload, (0, 0, 0), 0)) (by decide +kernel)) (by decide +kernel) rfl hc_z
  obtain ⟨p158_z, hc_z⟩ := hc_z
  rw [rp_bc23 (rn_G hc_z) p158_z.2] at hc_z
  replace hc_z := rn_iload_n (am_cur_of (i := (38, 1, .iload_n 2, (0, 0, 0), 0)) (by decide +kernel)) g2_z hc_z
  replace hc_z := rn_callV (M' := am_m79) (o := (40 + b.toNatClampNeg)) (ar := [.int (ef d e S rs)]) (rest := [.ref 148]) (L := lv_args 0 [.ref (40 + b.toNatClampNeg), .int (ef d e S rs)]) (am_cur_of (i := (39, 3, .invokevirtual 131, (79, 984, 3), 0)) (by decide +kernel)) rfl rfl rfl rfl hc_z
  obtain ⟨r159_z, h160_z, q161_z, hc_z⟩ := hc_z
  have y7_z := pu_of (a := 79) (by decide) rfl q161_z
  have er := bv_79_23 b4_z q161_z
  replace y7_z := y7_z.symm
  subst y7_z
  rw [z1_z, z2_z] at er
  subst er
  replace hc_z : rn _ _ _ _ [.int (brV st le (ef d e S rs)), .ref 148] _ _ _ := hc_z
  replace hc_z := rn_callV (M' := am_m80) (o := 148) (ar := [.int (brV st le (ef d e S rs))]) (rest := []) (L := lv_args 0 [.ref 148, .int (brV st le (ef d e S rs))]) (am_cur_of (i := (42, 3, .invokevirtual 159, (80, 988, 3), 0)) (by decide +kernel)) rfl rfl rfl rfl hc_z
  obtain ⟨r162_z, h163_z, q164_z, hc_z⟩ := hc_z
  have vo := rn_void rfl q164_z
  subst vo
  obtain ⟨F2, k1_z, k2_z, k3_z⟩ := fb_80_23 hL C1 j6_z eS1 q1_z.1 q1_z.2 q3_z.1 q3_z.2 q164_z
  replace hc_z : rn _ _ _ _ [] _ _ _ := hc_z
  replace hc_z := rn_aload_n (am_cur_of (i := (45, 1, .aload_n 0, (0, 0, 0), 0)) (by decide +kernel)) g0_z hc_z
  replace hc_z := rn_getR (x := 149) (am_cur_of (i := (46, 3, .getfield 12, (8, 1, 569), 0)) (by decide +kernel)) (by decide +kernel) hc_z
  replace hc_z := rn_getR (x := 150) (am_cur_of (i := (49, 3, .getfield 125, (5, 5, 481), 0)) (by decide +kernel)) (by decide +kernel) hc_z
  replace hc_z := rn_iload_n (am_cur_of (i := (52, 1, .iload_n 1, (0, 0, 0), 0)) (by decide +kernel)) g1_z hc_z
  replace hc_z := rn_iload_n (am_cur_of (i := (53, 1, .iload_n 2, (0, 0, 0), 0)) (by decide +kernel)) g2_z hc_z
  replace hc_z := rn_iconst (w := 1) (am_cur_of (i := (54, 1, .iconst 1, (0, 0, 0), 0)) (by decide +kernel)) (by decide) hc_z
  replace hc_z := rn_iadd (w := (ef d e S rs) + 1) (am_cur_of (i := (55, 1, .iadd, (0, 0, 0), 0)) (by decide +kernel)) rfl hc_z
  replace hc_z := rn_iastore (N := 4) (q := b.toNatClampNeg) (am_cur_of (i := (56, 1, .iastore, (0, 0, 0), 0)) (by decide +kernel)) (by decide +kernel) rfl hc_z
  obtain ⟨p165_z, hc_z⟩ := hc_z
  replace hc_z := rn_aload_n (am_cur_of (i := (57, 1, .aload_n 0, (0, 0, 0), 0)) (by decide +kernel)) g0_z hc_z
  replace hc_z := rn_getR (x := 149) (am_cur_of (i := (58, 3, .getfield 12, (8, 1, 569), 0)) (by decide +kernel)) (by decide +kernel) hc_z
  replace hc_z := rn_getR (x := 151) (am_cur_of (i := (61, 3, .getfield 163, (5, 6, 484), 0)) (by decide +kernel)) (by decide +kernel) hc_z
  replace hc_z := rn_iload_n (am_cur_of (i := (64, 1, .iload_n 1, (0, 0, 0), 0)) (by decide +kernel)) g1_z hc_z
  replace hc_z := rn_dup2 (am_cur_of (i := (65, 1, .dup2, (0, 0, 0), 0)) (by decide +kernel)) hc_z
  replace hc_z := rn_iaload (N := 4) (q := b.toNatClampNeg) (v := rg_v h163_z 151 b.toNatClampNeg) (am_cur_of (i := (66, 1, .iaload, (0, 0, 0), 0)) (by decide +kernel)) (by decide +kernel) rfl ((rg_v_other (by omega)).trans (rfl)) hc_z
  obtain ⟨p166_z, hc_z⟩ := hc_z
  replace hc_z := rn_iconst (w := 1) (am_cur_of (i := (67, 1, .iconst 1, (0, 0, 0), 0)) (by decide +kernel)) (by decide) hc_z
  replace hc_z := rn_iadd (w := (rg_v h163_z 151 b.toNatClampNeg) + 1) (am_cur_of (i := (68, 1, .iadd, (0, 0, 0), 0)) (by decide +kernel)) rfl hc_z
  replace hc_z := rn_iastore (N := 4) (q := b.toNatClampNeg) (am_cur_of (i := (69, 1, .iastore, (0, 0, 0), 0)) (by decide +kernel)) (by decide +kernel) rfl hc_z
  obtain ⟨p167_z, hc_z⟩ := hc_z
  replace hc_z := rn_aload_n (am_cur_of (i := (70, 1, .aload_n 0, (0, 0, 0), 0)) (by decide +kernel)) g0_z hc_z
  replace hc_z := rn_getR (x := 149) (am_cur_of (i := (71, 3, .getfield 12, (8, 1, 569), 0)) (by decide +kernel)) (by decide +kernel) hc_z
  replace hc_z := rn_getR (x := 152) (am_cur_of (i := (74, 3, .getfield 113, (5, 7, 486), 0)) (by decide +kernel)) (by decide +kernel) hc_z
  replace hc_z := rn_iload_n (am_cur_of (i := (77, 1, .iload_n 1, (0, 0, 0), 0)) (by decide +kernel)) g1_z hc_z
  replace hc_z := rn_aload_n (am_cur_of (i := (78, 1, .aload_n 0, (0, 0, 0), 0)) (by decide +kernel)) g0_z hc_z
  replace hc_z := rn_getR (x := 149) (am_cur_of (i := (79, 3, .getfield 12, (8, 1, 569), 0)) (by decide +kernel)) (by decide +kernel) hc_z
  replace hc_z := rn_getI (v := rg_v h163_z 149 1) (am_cur_of (i := (82, 3, .getfield 59, (5, 1, 470), 0)) (by decide +kernel)) (by decide +kernel) ((rg_v_other (by omega)).trans ((rg_v_other (by omega)).trans (rfl))) hc_z
  replace hc_z := rn_iastore (N := 4) (q := b.toNatClampNeg) (am_cur_of (i := (85, 1, .iastore, (0, 0, 0), 0)) (by decide +kernel)) (by decide +kernel) rfl hc_z
  obtain ⟨p168_z, hc_z⟩ := hc_z
  replace hc_z := rn_aload_n (am_cur_of (i := (86, 1, .aload_n 0, (0, 0, 0), 0)) (by decide +kernel)) g0_z hc_z
  replace hc_z := rn_getR (x := 149) (am_cur_of (i := (87, 3, .getfield 12, (8, 1, 569), 0)) (by decide +kernel)) (by decide +kernel) hc_z
  replace hc_z := rn_iload_n (am_cur_of (i := (90, 1, .iload_n 1, (0, 0, 0), 0)) (by decide +kernel)) g1_z hc_z
  replace hc_z := rn_put (am_cur_of (i := (91, 3, .putfield 137, (5, 2, 474), 0)) (by decide +kernel)) (by decide +kernel) hc_z
  replace hc_z := rn_iconst (w := 1) (am_cur_of (i := (94, 1, .iconst 1, (0, 0, 0), 0)) (by decide +kernel)) (by decide) hc_z
  replace hc_z := rn_iret (am_cur_of (i := (95, 1, .ireturn, (0, 0, 0), 0)) (by decide +kernel)) hc_z
  obtain ⟨e169_z, e170_z⟩ := hc_z
  have fr : ∀ o k, ¬ o = 38 → ¬ o = 39 → ¬ (o = 149 ∧ k ≤ 3) → ¬ (150 ≤ o ∧ o ≤ 152) → ¬ (o = 148 ∧ k = 6) → h' o k = h o k := by
    intro o k a_ b_ c_ d_ e_
    rw [e170_z]
    exact (up_ne (by omega)).trans ((up_ne (by omega)).trans ((up_ne (by omega)).trans ((up_ne (by omega)).trans ((k3_z o k a_ b_ (by omega)).trans (j9_z o k a_ b_ (by omega) e_)))))
  refine ⟨F1, F2, e169_z, j4_z, k2_z, ?_, sC_k (by decide) fr C, fun o k a_ b_ c_ => fr o k a_ b_ (by omega) (by omega) (by omega)⟩
  rw [e170_z]
  exact (rg_v_other (by omega)).trans ((rg_v_other (by omega)).trans ((rg_v_other (by omega)).trans ((rg_v_other (by omega)).trans (k1_z))))
theorem fl_l23 {r : Option Value} {h0_z g : am_H} {Hd pf real pt lim : Int32} {lo : Nat → Int32} {h' : am_H} {b m st le rs tk : Int32} (hL : LW 23 h0_z g) (eL : lim = 2147483647) (H0 : 0 ≤ Hd.toInt) (H9 : Hd.toInt ≤ 9999) (p0_z : 0 ≤ pf.toInt) (p9_z : pf.toInt ≤ 9999) (l0_z : 0 ≤ (leZ real pt lo).toInt) (l9_z : (leZ real pt lo).toInt ≤ 999) (st0_z : 0 ≤ st.toInt) (st9_z : st.toInt ≤ 99) (le0_z : 0 ≤ le.toInt) (le9_z : le.toInt ≤ 99) (tk0_z : 0 ≤ tk.toInt) (tk9_z : tk.toInt ≤ 99) (b4_z : b.toNatClampNeg < 4) : ∀ (f k : Nat) (i F S d e : Int32) (ls : am_L) (h : am_H), sC 23 h0_z Hd pf real pt lim 0 0 lo h → rg_v h 149 0 = F → rg_v h 149 1 = S → rg_v h 150 b.toNatClampNeg = d → rg_v h 152 b.toNatClampNeg = e → rg_v h (40 + b.toNatClampNeg) 1 = st → rg_v h (40 + b.toNatClampNeg) 2 = le → rg_v h (40 + b.toNatClampNeg) 4 = tk → rg_v h (40 + b.toNatClampNeg) 5 = rs → 0 ≤ F.toInt → F.toInt ≤ 9999 → 0 ≤ S.toInt → S.toInt + k * tk.toInt < 2147483647 → S.toInt + k * tk.toInt ≤ lim.toInt → 0 ≤ d.toInt → d.toInt + k ≤ 998 → 0 ≤ (rg_v h 60 1).toInt → (rg_v h 60 1).toInt < 20 → 0 ≤ (rg_v h 60 2).toInt → (rg_v h 60 2).toInt ≤ 20 → am_get ls 0 = some (.ref 0) → am_get ls 1 = some (.int b) → am_get ls 2 = some (.int m) → am_get ls 4 = some (.int i) → i.toInt + k = m.toInt → rn f am_m69 56 ls [] h r h' → ∃ G : Int32, bR 23 h0_z 0 Hd pf (leZ real pt lo) st le rs tk k F S d e G ∧ rg_v h' 48 0 = G ∧ r = some (.int G) := by
  intro f
  induction f with
  | zero => intro k i F S d e ls h C eF eS ed_z ee y1_z y2_z y4_z y5_z F0 F9 S0 S9 L9 d0_z d9_z n0_z n1_z s0_z s20_z g0_z g1_z g2_z g4_z ik hc_z; exact absurd hc_z rn_0
  | succ f ih_z =>
    intro k i F S d e ls h C eF eS ed_z ee y1_z y2_z y4_z y5_z F0 F9 S0 S9 L9 d0_z d9_z n0_z n1_z s0_z s20_z g0_z g1_z g2_z g4_z ik hc_z
    have z0_z : (0 : Int32).toInt = 0 := by decide
    have z1_z : (1 : Int32).toInt = 1 := by decide
    replace hc_z := rn_iload (am_cur_of (i := (102, 2, .iload 4, (0, 0, 0), 0)) (by decide +kernel)) g4_z hc_z
    replace hc_z := rn_iload_n (am_cur_of (i := (104, 1, .iload_n 2, (0, 0, 0), 0)) (by decide +kernel)) g2_z hc_z
    replace hc_z := rn_cmp (am_cur_of (i := (105, 3, .if_icmp .ge 18, (66, 0, 0), 0)) (by decide +kernel)) hc_z
    rcases hc_z with ⟨b171_z, hc_z⟩ | ⟨b171_z, hc_z⟩
    · replace b171_z : m.toInt ≤ i.toInt := b171_z
      obtain rfl : k = 0 := by omega
      replace hc_z := rn_aload_n (am_cur_of (i := (123, 1, .aload_n 0, (0, 0, 0), 0)) (by decide +kernel)) g0_z hc_z
      replace hc_z := rn_callV (M' := am_m81) (o := 0) (ar := []) (rest := []) (L := lv_args 0 [.ref 0]) (am_cur_of (i := (124, 3, .invokevirtual 208, (81, 992, 3), 0)) (by decide +kernel)) rfl rfl rfl rfl hc_z
      obtain ⟨r172_z, h173_z, q174_z, hc_z⟩ := hc_z
      obtain ⟨rr, e0_z⟩ := sf_81 n0_z n1_z s0_z s20_z q174_z
      have e1_z : rg_v h173_z 48 0 = F := e0_z.trans eF
      rw [e1_z] at rr
      subst rr
      replace hc_z : rn _ _ _ _ [.int F] _ _ _ := hc_z
      replace hc_z := rn_iret (am_cur_of (i := (127, 1, .ireturn, (0, 0, 0), 0)) (by decide +kernel)) hc_z
      obtain ⟨e175_z, e176_z⟩ := hc_z
      exact ⟨F, rfl, by rw [e176_z]; exact e1_z, e175_z⟩
    · replace b171_z : i.toInt < m.toInt := b171_z
      obtain ⟨k, rfl⟩ : ∃ k2_z, k = k2_z + 1 := ⟨k - 1, by omega⟩
      have ci_z := fk_c1 b171_z
      rw [show ((k + 1 : Nat) : Int) * tk.toInt = k * tk.toInt + tk.toInt by rw [Int.natCast_add, Int.add_mul]; omega] at S9 L9
      have kn : 0 ≤ (k : Int) * tk.toInt := Int.mul_nonneg (Int.natCast_nonneg k) tk0_z
      replace hc_z := rn_aload_n (am_cur_of (i := (108, 1, .aload_n 0, (0, 0, 0), 0)) (by decide +kernel)) g0_z hc_z
      replace hc_z := rn_getR (x := 148) (am_cur_of (i := (109, 3, .getfield 64, (0, 11, 672), 0)) (by decide +kernel)) (by decide +kernel) hc_z
      replace hc_z := rn_iload_n (am_cur_of (i := (112, 1, .iload_n 1, (0, 0, 0), 0)) (by decide +kernel)) g1_z hc_z
      replace hc_z := rn_callV (M' := am_m77) (o := 148) (ar := [.int b]) (rest := []) (L := lv_args 0 [.ref 148, .int b]) (am_cur_of (i := (113, 3, .invokevirtual 205, (77, 976, 3), 0)) (by decide +kernel)) rfl rfl rfl rfl hc_z
      obtain ⟨r177_z, h178_z, q179_z, hc_z⟩ := hc_z
      obtain ⟨F1, F2, rr, a1_z, a2_z, a3_z, C2, fr⟩ := br_77_23 hL C eF eS b4_z ed_z ee y1_z y2_z y4_z y5_z H0 H9 p0_z p9_z l0_z l9_z st0_z st9_z le0_z le9_z tk0_z tk9_z F0 F9 S0 (by omega) (by omega) d0_z (by omega) q179_z
      obtain ⟨w0_z, w1_z, w2_z, w3_z, w4_z, w5_z, w6_z⟩ := se_77_23 C.1 (by rw [C.2.2.1, eL]) (by rw [eS]; exact S0) (by rw [y4_z]; exact tk0_z) (by rw [eS, y4_z]; omega) q179_z
      subst rr
      have cs := ab_iadd (x := S) (y := tk) (by omega) (by omega)
      have eS2 : rg_v h178_z 149 1 = S + tk := Int32.toInt_inj.mp (by rw [w1_z, eS, y4_z, cs])
      have ed2_z : rg_v h178_z 150 b.toNatClampNeg = ef d e S rs + 1 := by rw [w2_z, ed_z, ee, eS, y5_z]
      have ee2_z : rg_v h178_z 152 b.toNatClampNeg = S + tk := w4_z.trans eS2
      have q1_z := gR_r H0 H9 p0_z l0_z (by decide) _ F S F1 F0 F9 a1_z
      have q2_z := ef_b (e := e) (t := S) (r := rs) (n := 998) d0_z (by omega)
      have q3_z := brV_r (st := st) (le := le) (d := ef d e S rs) st0_z st9_z le0_z le9_z q2_z.1 (by omega)
      have q4_z := flZ_r (p := 23) (h0_z := h0_z) (U := 0) (S := S + tk) q3_z.1 q1_z.1 H0 H9
      rw [← a2_z] at q4_z
      have q5_z := ef_b (e := e) (t := S) (r := rs) (n := d.toInt) d0_z (Int.le_refl _)
      have c1_z := rt_c1 (x := ef d e S rs) q2_z.1 (by omega)
      replace hc_z : rn _ _ _ _ [.int 1] _ _ _ := hc_z
      replace hc_z := rn_pop (am_cur_of (i := (116, 1, .pop, (0, 0, 0), 0)) (by decide +kernel)) hc_z
      replace hc_z := rn_iinc (w := i + 1) (am_cur_of (i := (117, 3, .iinc 4 1, (0, 0, 0), 0)) (by decide +kernel)) g4_z rfl hc_z
      obtain ⟨_, s180_z, s181_z, g4_z, hc_z⟩ := hc_z
      replace g0_z := s180_z 0 _ (by decide) rfl g0_z
      replace g1_z := s180_z 1 _ (by decide) rfl g1_z
      replace g2_z := s180_z 2 _ (by decide) rfl g2_z
      clear s180_z s181_z
      replace hc_z := rn_gotoL (am_cur_of (i := (120, 3, .goto (-18), (56, 0, 0), 0)) (by decide +kernel)) hc_z
      obtain ⟨G, u1_z, u2_z, u3_z⟩ := ih_z k (i + 1) F2 (S + tk) (ef d e S rs + 1) (S + tk) _ _ C2 a3_z eS2 ed2_z ee2_z ((lw_v (fr _ _ (by omega) (by omega) (by omega))).trans y1_z) ((lw_v (fr _ _ (by omega) (by omega) (by omega))).trans y2_z) ((lw_v (fr _ _ (by omega) (by omega) (by omega))).trans y4_z) ((lw_v (fr _ _ (by omega) (by omega) (by omega))).trans y5_z) q4_z.1 q4_z.2 (by omega) (by omega) (by omega) (by omega) (by omega) (by rw [(lw_v (fr 60 1 (by decide) (by decide) (by decide)))]; exact n0_z) (by rw [(lw_v (fr 60 1 (by decide) (by decide) (by decide)))]; exact n1_z) (by rw [(lw_v (fr 60 2 (by decide) (by decide) (by decide)))]; exact s0_z) (by rw [(lw_v (fr 60 2 (by decide) (by decide) (by decide)))]; exact s20_z) g0_z g1_z g2_z g4_z (by omega) hc_z
      exact ⟨G, ⟨F1, F2, a1_z, a2_z, u1_z⟩, u2_z, u3_z⟩
theorem sb_70_23 {n : Nat} {h h' : am_H} {r : Option Value} {k : Int32} (D : h 0 2 = .ref 23) (hc_z : rn n am_m70 0 (lv_args 0 [.ref 0, .int k]) [] h r h') : ((k.toInt < (0 : Int32).toInt) ∧ r = some (.int 0) ∧ h' = h) ∨ (((0 : Int32).toInt ≤ k.toInt) ∧ ((rg_v h 23 2).toInt ≤ k.toInt) ∧ r = some (.int 0) ∧ h' = h) ∨ (((0 : Int32).toInt ≤ k.toInt) ∧ (k.toInt < (rg_v h 23 2).toInt) ∧ r = some (.int 1) ∧ h' = h) := by
  have g0_z : am_get (lv_args 0 [.ref 0, .int k]) 0 = some (.ref 0) := rfl
  have g1_z : am_get (lv_args 0 [.ref 0, .int k]) 1 = some (.int k) := rfl
  replace hc_z := rn_iload_n (am_cur_of (i := (0, 1, .iload_n 1, (0, 0, 0), 0)) (by decide +kernel)) g1_z hc_z
  replace hc_z := rn_if (am_cur_of (i := (1, 3, .ifCond .lt 18, (9, 0, 0), 0)) (by decide +kernel)) hc_z
  rcases hc_z with ⟨b182_z, hc_z⟩ | ⟨b182_z, hc_z⟩
  · replace b182_z : k.toInt < (0 : Int32).toInt := b182_z
    replace hc_z := rn_iconst (w := 0) (am_cur_of (i := (19, 1, .iconst 0, (0, 0, 0), 0)) (by decide +kernel)) (by decide) hc_z
    replace hc_z := rn_iret (am_cur_of (i := (20, 1, .ireturn, (0, 0, 0), 0)) (by decide +kernel)) hc_z
    obtain ⟨e183_z, e184_z⟩ := hc_z
    exact Or.inl ⟨b182_z, e183_z, e184_z⟩
  · replace b182_z : (0 : Int32).toInt ≤ k.toInt := b182_z
    replace hc_z := rn_iload_n (am_cur_of (i := (4, 1, .iload_n 1, (0, 0, 0), 0)) (by decide +kernel)) g1_z hc_z
    replace hc_z := rn_aload_n (am_cur_of (i := (5, 1, .aload_n 0, (0, 0, 0), 0)) (by decide +kernel)) g0_z hc_z
    replace hc_z := rn_getM (x := 23) (am_cur_of (i := (6, 3, .getfield 18, (0, 2, 663), 0)) (by decide +kernel)) D hc_z
    replace hc_z := rn_getI (v := rg_v h 23 2) (am_cur_of (i := (9, 3, .getfield 169, (1, 2, 258), 0)) (by decide +kernel)) (by decide +kernel) rfl hc_z
    replace hc_z := rn_cmp (am_cur_of (i := (12, 3, .if_icmp .ge 7, (9, 0, 0), 0)) (by decide +kernel)) hc_z
    rcases hc_z with ⟨b185_z, hc_z⟩ | ⟨b185_z, hc_z⟩
    · replace b185_z : (rg_v h 23 2).toInt ≤ k.toInt := b185_z
      replace hc_z := rn_iconst (w := 0) (am_cur_of (i := (19, 1, .iconst 0, (0, 0, 0), 0)) (by decide +kernel)) (by decide) hc_z
      replace hc_z := rn_iret (am_cur_of (i := (20, 1, .ireturn, (0, 0, 0), 0)) (by decide +kernel)) hc_z
      obtain ⟨e186_z, e187_z⟩ := hc_z
      exact Or.inr (Or.inl ⟨b182_z, b185_z, e186_z, e187_z⟩)
    · replace b185_z : k.toInt < (rg_v h 23 2).toInt := b185_z
      replace hc_z := rn_iconst (w := 1) (am_cur_of (i := (15, 1, .iconst 1, (0, 0, 0), 0)) (by decide +kernel)) (by decide) hc_z
      replace hc_z := rn_goto (am_cur_of (i := (16, 3, .goto 4, (10, 0, 0), 0)) (by decide +kernel)) hc_z
      replace hc_z := rn_iret (am_cur_of (i := (20, 1, .ireturn, (0, 0, 0), 0)) (by decide +kernel)) hc_z
      obtain ⟨e188_z, e189_z⟩ := hc_z
      exact Or.inr (Or.inr (⟨b182_z, b185_z, e188_z, e189_z⟩))
theorem hf_74_23 {n : Nat} {r : Option Value} {h0_z g : am_H} {Hd pf real pt lim : Int32} {lo : Nat → Int32} {h h' : am_H} {b F s1_z s2_z hd_z : Int32} (hL : LW 23 h0_z g) (C : sC 23 h0_z Hd pf real pt lim 0 0 lo h) (x0_z : rg_v h 149 0 = F) (x1_z : rg_v h 149 1 = s1_z) (x2_z : rg_v h 149 2 = s2_z) (w6_z : rg_v h (40 + b.toNatClampNeg) 6 = hd_z) (H0 : 0 ≤ Hd.toInt) (H9 : Hd.toInt ≤ 9999) (p0_z : 0 ≤ pf.toInt) (p9_z : pf.toInt ≤ 9999) (l0_z : 0 ≤ (leZ real pt lo).toInt) (l9_z : (leZ real pt lo).toInt ≤ 999) (F0 : 0 ≤ F.toInt) (F9 : F.toInt ≤ 9999) (S0 : 0 ≤ s1_z.toInt) (hn0_z : 0 ≤ (hn_z s2_z b hd_z).toInt) (S9 : s1_z.toInt + (hn_z s2_z b hd_z).toInt < 2147483647) (L9 : s1_z.toInt + (hn_z s2_z b hd_z).toInt ≤ lim.toInt) (b4_z : b.toNatClampNeg < 4) (hc_z : rn n am_m74 0 (lv_args 0 [.ref 148, .int b]) [] h r h') : ∃ v F1 : Int32, r = some (.int v) ∧ gR (secZ 23 h0_z 0 Hd 0 pf (leZ real pt lo) 1) (hn_z s2_z b hd_z).toInt.toNat F s1_z F1 ∧ rg_v h' 149 0 = F1 ∧ (rg_v h' 149 1).toInt = s1_z.toInt + (hn_z s2_z b hd_z).toInt ∧ gF 148 23 h h' ∧ sC 23 h0_z Hd pf real pt lim 0 0 lo h' := by
  have z0_z : (0 : Int32).toInt = 0 := by decide
  have g0_z : am_get (lv_args 0 [.ref 148, .int b]) 0 = some (.ref 148) := rfl
  have g1_z : am_get (lv_args 0 [.ref 148, .int b]) 1 = some (.int b) := rfl
  replace hc_z := rn_aload_n (am_cur_of (i := (0, 1, .aload_n 0, (0, 0, 0), 0)) (by decide +kernel)) g0_z hc_z
  replace hc_z := rn_aload_n (am_cur_of (i := (1, 1, .aload_n 0, (0, 0, 0), 0)) (by decide +kernel)) g0_z hc_z
  replace hc_z := rn_iload_n (am_cur_of (i := (2, 1, .iload_n 1, (0, 0, 0), 0)) (by decide +kernel)) g1_z hc_z
  replace hc_z := rn_callV (M' := am_m72) (o := 148) (ar := [.int b]) (rest := [.ref 148]) (L := lv_args 0 [.ref 148, .int b]) (am_cur_of (i := (3, 3, .invokevirtual 143, (72, 951, 3), 0)) (by decide +kernel)) rfl rfl rfl rfl hc_z
  obtain ⟨r243_z, h244_z, q245_z, hc_z⟩ := hc_z
  have yy := pu_of (a := 72) (by decide) rfl q245_z
  have er := se_72_23 C.1 q245_z
  replace yy := yy.symm
  subst yy
  rw [x2_z, w6_z] at er
  subst er
  replace hc_z : rn _ _ _ _ [.int (hn_z s2_z b hd_z), .ref 148] _ _ _ := hc_z
  replace hc_z := rn_iconst (w := 1) (am_cur_of (i := (6, 1, .iconst 1, (0, 0, 0), 0)) (by decide +kernel)) (by decide) hc_z
  replace hc_z := rn_callV (M' := am_m75) (o := 148) (ar := [.int 1, .int (hn_z s2_z b hd_z)]) (rest := []) (L := lv_args 0 [.ref 148, .int (hn_z s2_z b hd_z), .int 1]) (am_cur_of (i := (7, 3, .invokevirtual 146, (75, 965, 3), 0)) (by decide +kernel)) rfl rfl rfl rfl hc_z
  obtain ⟨r246_z, h247_z, q248_z, hc_z⟩ := hc_z
  obtain ⟨F1, rr, j4_z, j6_z, j7_z, j9_z, C2⟩ := gz_75_23_1 hL C x0_z x1_z H0 H9 p0_z p9_z l0_z l9_z F0 (by omega) S0 hn0_z S9 L9 q248_z
  subst rr
  replace hc_z : rn _ _ _ _ [.int 1] _ _ _ := hc_z
  replace hc_z := rn_iret (am_cur_of (i := (10, 1, .ireturn, (0, 0, 0), 0)) (by decide +kernel)) hc_z
  obtain ⟨e249_z, e250_z⟩ := hc_z
  rw [e250_z]
  exact ⟨_, F1, e249_z, j4_z, j6_z, j7_z, j9_z, C2⟩
theorem sf_69_23 {n : Nat} {r : Option Value} {h0_z g : am_H} {Hd pf real pt s1_z : Int32} {lo : Nat → Int32} {h h' : am_H} {b m F s2_z se en st le rs tk tm hd_z : Int32} (hL : LW 23 h0_z g) (C0 : dC 23 h0_z Hd pf real pt s1_z lo h) (nb4_z : (rg_v h 23 2).toInt ≤ 4) (eF : rg_v h 48 0 = F) (E2 : rg_v h 48 2 = s2_z) (E5 : rg_v h 49 b.toNatClampNeg = se) (En : rg_v h 51 b.toNatClampNeg = en) (Y1 : rg_v h (40 + b.toNatClampNeg) 1 = st) (Y2 : rg_v h (40 + b.toNatClampNeg) 2 = le) (Y3 : rg_v h (40 + b.toNatClampNeg) 3 = tm) (Y4 : rg_v h (40 + b.toNatClampNeg) 4 = tk) (Y5 : rg_v h (40 + b.toNatClampNeg) 5 = rs) (Y6 : rg_v h (40 + b.toNatClampNeg) 6 = hd_z) (H0 : 0 ≤ Hd.toInt) (H9 : Hd.toInt ≤ 9999) (p0_z : 0 ≤ pf.toInt) (p9_z : pf.toInt ≤ 9999) (l0_z : 0 ≤ (leZ real pt lo).toInt) (l9_z : (leZ real pt lo).toInt ≤ 999) (st0_z : 0 ≤ st.toInt) (st9_z : st.toInt ≤ 99) (le0_z : 0 ≤ le.toInt) (le9_z : le.toInt ≤ 99) (tk0_z : 0 ≤ tk.toInt) (tk9_z : tk.toInt ≤ 99) (hd0_z : 0 ≤ hd_z.toInt) (hd9_z : hd_z.toInt ≤ 99) (F0 : 0 ≤ F.toInt) (F9 : F.toInt ≤ 9999) (S0 : 0 ≤ s1_z.toInt) (S19 : s1_z.toInt ≤ 99999) (se0_z : 0 ≤ se.toInt) (se9_z : se.toInt ≤ 20) (n0_z : 0 ≤ (rg_v h 60 1).toInt) (n1_z : (rg_v h 60 1).toInt < 20) (s0_z : 0 ≤ (rg_v h 60 2).toInt) (sz20_z : (rg_v h 60 2).toInt ≤ 20) (va : 0 ≤ b.toInt) (vb : b.toInt < (rg_v h 23 2).toInt) (vc : 1 ≤ m.toInt) (vd : m.toInt ≤ 20) (nd : ¬ (0 < rs.toInt ∧ tm.toInt < (ef se en (s1_z + hn_z s2_z b hd_z) rs + m).toInt)) (nl : ¬ ((99999 - s1_z).toInt < (hn_z s2_z b hd_z + m * tk).toInt)) (hc_z : rn n am_m69 0 (lv_args 0 [.ref 0, .int b, .int m]) [] h r h') : ∃ F1 G : Int32, gR (secZ 23 h0_z 0 Hd 0 pf (leZ real pt lo) 1) (hn_z s2_z b hd_z).toInt.toNat F s1_z F1 ∧ bR 23 h0_z 0 Hd pf (leZ real pt lo) st le rs tk m.toInt.toNat F1 (s1_z + hn_z s2_z b hd_z) se en G ∧ rg_v h' 48 0 = G ∧ r = some (.int G) := by
  have z0_z : (0 : Int32).toInt = 0 := by decide
  have z1_z : (1 : Int32).toInt = 1 := by decide
  have z20_z : (20 : Int32).toInt = 20 := by decide
  have z2147483647_z : (2147483647 : Int32).toInt = 2147483647 := by decide
  obtain ⟨d0_z, d1_z, d2_z, d3_z, d4_z, d5_z, d6_z, d7_z⟩ := C0
  have g0_z : am_get (lv_args 0 [.ref 0, .int b, .int m]) 0 = some (.ref 0) := rfl
  have g1_z : am_get (lv_args 0 [.ref 0, .int b, .int m]) 1 = some (.int b) := rfl
  have g2_z : am_get (lv_args 0 [.ref 0, .int b, .int m]) 2 = some (.int m) := rfl
  replace hc_z := rn_aload_n (am_cur_of (i := (0, 1, .aload_n 0, (0, 0, 0), 0)) (by decide +kernel)) g0_z hc_z
  replace hc_z := rn_iload_n (am_cur_of (i := (1, 1, .iload_n 1, (0, 0, 0), 0)) (by decide +kernel)) g1_z hc_z
  replace hc_z := rn_callV (M' := am_m70) (o := 0) (ar := [.int b]) (rest := []) (L := lv_args 0 [.ref 0, .int b]) (am_cur_of (i := (2, 3, .invokevirtual 135, (70, 943, 3), 0)) (by decide +kernel)) rfl rfl rfl rfl hc_z
  obtain ⟨r190_z, h191_z, q192_z, hc_z⟩ := hc_z
  rcases sb_70_23 d0_z q192_z with ⟨b193_z, rfl, y194_z⟩ | ⟨b195_z, b196_z, rfl, y197_z⟩ | ⟨b198_z, b199_z, rfl, y200_z⟩
  · replace y194_z := y194_z.symm
    subst y194_z
    replace b193_z : b.toInt < (0 : Int32).toInt := b193_z
    replace hc_z : rn _ _ _ _ [.int 0] _ _ _ := hc_z
    replace hc_z := rn_ifT (am_cur_of (i := (5, 3, .ifCond .eq 13, (9, 0, 0), 0)) (by decide +kernel)) (by decide) hc_z
    replace hc_z := rn_iconst (w := (-1)) (am_cur_of (i := (18, 1, .iconst (-1), (0, 0, 0), 0)) (by decide +kernel)) (by decide) hc_z
    replace hc_z := rn_iret (am_cur_of (i := (19, 1, .ireturn, (0, 0, 0), 0)) (by decide +kernel)) hc_z
    obtain ⟨e201_z, e202_z⟩ := hc_z
    exfalso
    omega
  · replace y197_z := y197_z.symm
    subst y197_z
    replace b195_z : (0 : Int32).toInt ≤ b.toInt := b195_z
    replace b196_z : ((rg_v h 23 2)).toInt ≤ b.toInt := b196_z
    replace hc_z : rn _ _ _ _ [.int 0] _ _ _ := hc_z
    replace hc_z := rn_ifT (am_cur_of (i := (5, 3, .ifCond .eq 13, (9, 0, 0), 0)) (by decide +kernel)) (by decide) hc_z
    replace hc_z := rn_iconst (w := (-1)) (am_cur_of (i := (18, 1, .iconst (-1), (0, 0, 0), 0)) (by decide +kernel)) (by decide) hc_z
    replace hc_z := rn_iret (am_cur_of (i := (19, 1, .ireturn, (0, 0, 0), 0)) (by decide +kernel)) hc_z
    obtain ⟨e203_z, e204_z⟩ := hc_z
    exfalso
    omega
  · replace y200_z := y200_z.symm
    subst y200_z
    replace b198_z : (0 : Int32).toInt ≤ b.toInt := b198_z
    replace b199_z : b.toInt < ((rg_v h 23 2)).toInt := b199_z
    replace hc_z : rn _ _ _ _ [.int 1] _ _ _ := hc_z
    replace hc_z := rn_ifF (am_cur_of (i := (5, 3, .ifCond .eq 13, (9, 0, 0), 0)) (by decide +kernel)) (by decide) hc_z
    replace hc_z := rn_iload_n (am_cur_of (i := (8, 1, .iload_n 2, (0, 0, 0), 0)) (by decide +kernel)) g2_z hc_z
    replace hc_z := rn_iconst (w := 1) (am_cur_of (i := (9, 1, .iconst 1, (0, 0, 0), 0)) (by decide +kernel)) (by decide) hc_z
    replace hc_z := rn_bipush (w := 20) (am_cur_of (i := (10, 2, .bipush 20, (0, 0, 0), 0)) (by decide +kernel)) (by decide) hc_z
    replace hc_z := rn_callS (M' := am_m62) (ar := [.int 20, .int 1, .int m]) (rest := []) (L := lv_args 0 [.int m, .int 1, .int 20]) (am_cur_of (i := (12, 3, .invokestatic 172, (62, 908, 3), 0)) (by decide +kernel)) rfl rfl rfl rfl hc_z
    obtain ⟨r205_z, h206_z, q207_z, hc_z⟩ := hc_z
    rcases sb_62 q207_z with ⟨b208_z, rfl, y209_z⟩ | ⟨b210_z, b211_z, rfl, y212_z⟩ | ⟨b213_z, b214_z, rfl, y215_z⟩
    · replace y209_z := y209_z.symm
      subst y209_z
      replace b208_z : m.toInt < (1 : Int32).toInt := b208_z
      replace hc_z : rn _ _ _ _ [.int 0] _ _ _ := hc_z
      replace hc_z := rn_ifF (am_cur_of (i := (15, 3, .ifCond .ne 5, (11, 0, 0), 0)) (by decide +kernel)) (by decide) hc_z
      replace hc_z := rn_iconst (w := (-1)) (am_cur_of (i := (18, 1, .iconst (-1), (0, 0, 0), 0)) (by decide +kernel)) (by decide) hc_z
      replace hc_z := rn_iret (am_cur_of (i := (19, 1, .ireturn, (0, 0, 0), 0)) (by decide +kernel)) hc_z
      obtain ⟨e216_z, e217_z⟩ := hc_z
      exfalso
      omega
    · replace y212_z := y212_z.symm
      subst y212_z
      replace b210_z : (1 : Int32).toInt ≤ m.toInt := b210_z
      replace b211_z : (20 : Int32).toInt < m.toInt := b211_z
      replace hc_z : rn _ _ _ _ [.int 0] _ _ _ := hc_z
      replace hc_z := rn_ifF (am_cur_of (i := (15, 3, .ifCond .ne 5, (11, 0, 0), 0)) (by decide +kernel)) (by decide) hc_z
      replace hc_z := rn_iconst (w := (-1)) (am_cur_of (i := (18, 1, .iconst (-1), (0, 0, 0), 0)) (by decide +kernel)) (by decide) hc_z
      replace hc_z := rn_iret (am_cur_of (i := (19, 1, .ireturn, (0, 0, 0), 0)) (by decide +kernel)) hc_z
      obtain ⟨e218_z, e219_z⟩ := hc_z
      exfalso
      omega
    · replace y215_z := y215_z.symm
      subst y215_z
      replace b213_z : (1 : Int32).toInt ≤ m.toInt := b213_z
      replace b214_z : m.toInt ≤ (20 : Int32).toInt := b214_z
      replace hc_z : rn _ _ _ _ [.int 1] _ _ _ := hc_z
      replace hc_z := rn_ifT (am_cur_of (i := (15, 3, .ifCond .ne 5, (11, 0, 0), 0)) (by decide +kernel)) (by decide) hc_z
      replace hc_z := rn_aload_n (am_cur_of (i := (20, 1, .aload_n 0, (0, 0, 0), 0)) (by decide +kernel)) g0_z hc_z
      replace hc_z := rn_getR (x := 148) (am_cur_of (i := (21, 3, .getfield 64, (0, 11, 672), 0)) (by decide +kernel)) (by decide +kernel) hc_z
      replace hc_z := rn_aload_n (am_cur_of (i := (24, 1, .aload_n 0, (0, 0, 0), 0)) (by decide +kernel)) g0_z hc_z
      replace hc_z := rn_getM (x := 23) (am_cur_of (i := (25, 3, .getfield 18, (0, 2, 663), 0)) (by decide +kernel)) d0_z hc_z
      replace hc_z := rn_aload_n (am_cur_of (i := (28, 1, .aload_n 0, (0, 0, 0), 0)) (by decide +kernel)) g0_z hc_z
      replace hc_z := rn_getR (x := 48) (am_cur_of (i := (29, 3, .getfield 37, (0, 5, 666), 0)) (by decide +kernel)) (by decide +kernel) hc_z
      replace hc_z := rn_callV (M' := am_m63) (o := 148) (ar := [.ref 48, .ref 23]) (rest := []) (L := lv_args 0 [.ref 148, .ref 23, .ref 48]) (am_cur_of (i := (32, 3, .invokevirtual 146, (63, 912, 3), 0)) (by decide +kernel)) rfl rfl rfl rfl hc_z
      obtain ⟨r220_z, h221_z, q222_z, hc_z⟩ := hc_z
      have vo := rn_void rfl q222_z
      subst vo
      obtain ⟨b1_z, b5_z, b2_z, b3_z, bp, bS, bf⟩ := se_63_23 q222_z
      have C1 : sC 23 h0_z Hd pf real pt 2147483647 0 0 lo h221_z := ⟨b1_z, fun o q a_ b_ => (lw_v (bf o q (by omega))).trans (d1_z o q a_ b_), b5_z, (lw_v (bf 23 0 (by decide))).trans d2_z, b3_z, bp, (lw_v (bf 23 7 (by decide))).trans d3_z, b2_z.trans d4_z, (bS 4 (by decide)).trans d5_z, fun q => (lw_v (bf 28 q (by omega))).trans (d7_z q)⟩
      have b4_z : b.toNatClampNeg < 4 := by have := rt_cl (x := b) (by omega); omega
      have x0_z : rg_v h221_z 149 0 = F := (bS 0 (by decide)).trans eF
      have x1_z : rg_v h221_z 149 1 = s1_z := (bS 1 (by decide)).trans d6_z
      have x2_z : rg_v h221_z 149 2 = s2_z := (bS 2 (by decide)).trans E2
      have x5_z : rg_v h221_z 150 b.toNatClampNeg = se := (cS_s (a := 149) b4_z).symm.trans ((bS (5 + b.toNatClampNeg) (by omega)).trans ((cS_s b4_z).trans E5))
      have xn : rg_v h221_z 152 b.toNatClampNeg = en := (cS_n (a := 149) b4_z).symm.trans ((bS (13 + b.toNatClampNeg) (by omega)).trans ((cS_n b4_z).trans En))
      have bl : ∀ q, rg_v h221_z (40 + b.toNatClampNeg) q = rg_v h (40 + b.toNatClampNeg) q := fun q => lw_v (bf _ _ (by omega))
      have w1_z := (bl 1).trans Y1
      have w2_z := (bl 2).trans Y2
      have w3_z := (bl 3).trans Y3
      have w4_z := (bl 4).trans Y4
      have w5_z := (bl 5).trans Y5
      have w6_z := (bl 6).trans Y6
      have D1 : h221_z 0 2 = .ref 23 := (bf 0 2 (by omega)).trans d0_z
      have z1_z : rg_v h221_z 48 1 = s1_z := (lw_v (bf 48 1 (by omega))).trans d6_z
      replace hc_z : rn _ _ _ _ [] _ _ _ := hc_z
      replace hc_z := rn_aload_n (am_cur_of (i := (35, 1, .aload_n 0, (0, 0, 0), 0)) (by decide +kernel)) g0_z hc_z
      replace hc_z := rn_getR (x := 148) (am_cur_of (i := (36, 3, .getfield 64, (0, 11, 672), 0)) (by decide +kernel)) (by decide +kernel) hc_z
      replace hc_z := rn_iload_n (am_cur_of (i := (39, 1, .iload_n 1, (0, 0, 0), 0)) (by decide +kernel)) g1_z hc_z
      replace hc_z := rn_iload_n (am_cur_of (i := (40, 1, .iload_n 2, (0, 0, 0), 0)) (by decide +kernel)) g2_z hc_z
      replace hc_z := rn_callV (M' := am_m71) (o := 148) (ar := [.int m, .int b]) (rest := []) (L := lv_args 0 [.ref 148, .int b, .int m]) (am_cur_of (i := (41, 3, .invokevirtual 182, (71, 947, 3), 0)) (by decide +kernel)) rfl rfl rfl rfl hc_z
      obtain ⟨r223_z, h224_z, q225_z, hc_z⟩ := hc_z
      have yy := pu_of (a := 71) (by decide) rfl q225_z
      obtain ⟨wv, er, wq⟩ := se_71_23 b1_z q225_z
      replace yy := yy.symm
      subst yy
      subst er
      rw [x5_z, xn, x1_z, x2_z, w3_z, w5_z, w6_z] at wq
      replace hc_z : rn _ _ _ _ [.int wv] _ _ _ := hc_z
      replace hc_z := rn_if (am_cur_of (i := (44, 3, .ifCond .eq 6, (26, 0, 0), 0)) (by decide +kernel)) hc_z
      rcases hc_z with ⟨b226_z, hc_z⟩ | ⟨b226_z, hc_z⟩
      · replace b226_z : wv = (0 : Int32) ∧ wv.toInt = (0 : Int32).toInt := b226_z
        replace hc_z := rn_aload_n (am_cur_of (i := (50, 1, .aload_n 0, (0, 0, 0), 0)) (by decide +kernel)) g0_z hc_z
        replace hc_z := rn_getR (x := 148) (am_cur_of (i := (51, 3, .getfield 64, (0, 11, 672), 0)) (by decide +kernel)) (by decide +kernel) hc_z
        replace hc_z := rn_iload_n (am_cur_of (i := (54, 1, .iload_n 1, (0, 0, 0), 0)) (by decide +kernel)) g1_z hc_z
        replace hc_z := rn_callV (M' := am_m72) (o := 148) (ar := [.int b]) (rest := []) (L := lv_args 0 [.ref 148, .int b]) (am_cur_of (i := (55, 3, .invokevirtual 186, (72, 959, 3), 0)) (by decide +kernel)) rfl rfl rfl rfl hc_z
        obtain ⟨r227_z, h228_z, q229_z, hc_z⟩ := hc_z
        have yy := pu_of (a := 72) (by decide) rfl q229_z
        have er := se_72_23 b1_z q229_z
        replace yy := yy.symm
        subst yy
        rw [x2_z, w6_z] at er
        subst er
        replace hc_z : rn _ _ _ _ [.int (hn_z s2_z b hd_z)] _ _ _ := hc_z
        replace hc_z := rn_iload_n (am_cur_of (i := (58, 1, .iload_n 2, (0, 0, 0), 0)) (by decide +kernel)) g2_z hc_z
        replace hc_z := rn_aload_n (am_cur_of (i := (59, 1, .aload_n 0, (0, 0, 0), 0)) (by decide +kernel)) g0_z hc_z
        replace hc_z := rn_getM (x := 23) (am_cur_of (i := (60, 3, .getfield 18, (0, 2, 663), 0)) (by decide +kernel)) D1 hc_z
        replace hc_z := rn_getR (x := 24) (am_cur_of (i := (63, 3, .getfield 189, (1, 3, 264), 0)) (by decide +kernel)) (by decide +kernel) hc_z
        replace hc_z := rn_iload_n (am_cur_of (i := (66, 1, .iload_n 1, (0, 0, 0), 0)) (by decide +kernel)) g1_z hc_z
        replace hc_z := rn_aaload (s := "AirBed$Blower") (N := 4) (q := b.toNatClampNeg) (am_cur_of (i := (67, 1, .aaload, (0, 0, 0), 0)) (by decide +kernel)) (by decide +kernel) rfl hc_z
        obtain ⟨p230_z, hc_z⟩ := hc_z
        rw [rp_bc23 (rn_G hc_z) p230_z.2] at hc_z
        replace hc_z := rn_getI (v := tk) (am_cur_of (i := (68, 3, .getfield 193, (3, 4, 214), 0)) (by decide +kernel)) (rp_bf23 _ p230_z.2 4 (by decide)) w4_z hc_z
        replace hc_z := rn_imul (w := m * tk) (am_cur_of (i := (71, 1, .imul, (0, 0, 0), 0)) (by decide +kernel)) rfl hc_z
        replace hc_z := rn_iadd (w := (hn_z s2_z b hd_z) + (m * tk)) (am_cur_of (i := (72, 1, .iadd, (0, 0, 0), 0)) (by decide +kernel)) rfl hc_z
        replace hc_z := rn_istore_n (am_cur_of (i := (73, 1, .istore_n 3, (0, 0, 0), 0)) (by decide +kernel)) hc_z
        obtain ⟨_, s231_z, s232_z, g3_z, hc_z⟩ := hc_z
        replace g0_z := s231_z 0 _ (by decide) rfl g0_z
        replace g1_z := s231_z 1 _ (by decide) rfl g1_z
        replace g2_z := s231_z 2 _ (by decide) rfl g2_z
        clear s231_z s232_z
        replace hc_z := rn_iload_n (am_cur_of (i := (74, 1, .iload_n 3, (0, 0, 0), 0)) (by decide +kernel)) g3_z hc_z
        replace hc_z := rn_ldc (w := 99999) (am_cur_of (i := (75, 2, .ldc 198, (0, 0, 960), 99999)) (by decide +kernel)) (by decide) hc_z
        replace hc_z := rn_aload_n (am_cur_of (i := (77, 1, .aload_n 0, (0, 0, 0), 0)) (by decide +kernel)) g0_z hc_z
        replace hc_z := rn_getR (x := 48) (am_cur_of (i := (78, 3, .getfield 37, (0, 5, 666), 0)) (by decide +kernel)) (by decide +kernel) hc_z
        replace hc_z := rn_getI (v := s1_z) (am_cur_of (i := (81, 3, .getfield 199, (5, 1, 471), 0)) (by decide +kernel)) (by decide +kernel) z1_z hc_z
        replace hc_z := rn_isub (w := (99999 : Int32) - s1_z) (am_cur_of (i := (84, 1, .isub, (0, 0, 0), 0)) (by decide +kernel)) rfl hc_z
        replace hc_z := rn_cmp (am_cur_of (i := (85, 3, .if_icmp .le 5, (49, 0, 0), 0)) (by decide +kernel)) hc_z
        rcases hc_z with ⟨b233_z, hc_z⟩ | ⟨b233_z, hc_z⟩
        · replace b233_z : ((hn_z s2_z b hd_z) + (m * tk)).toInt ≤ ((99999 : Int32) - s1_z).toInt := b233_z
          replace hc_z := rn_aload_n (am_cur_of (i := (90, 1, .aload_n 0, (0, 0, 0), 0)) (by decide +kernel)) g0_z hc_z
          replace hc_z := rn_getR (x := 148) (am_cur_of (i := (91, 3, .getfield 64, (0, 11, 672), 0)) (by decide +kernel)) (by decide +kernel) hc_z
          replace hc_z := rn_iload_n (am_cur_of (i := (94, 1, .iload_n 1, (0, 0, 0), 0)) (by decide +kernel)) g1_z hc_z
          replace hc_z := rn_callV (M' := am_m74) (o := 148) (ar := [.int b]) (rest := []) (L := lv_args 0 [.ref 148, .int b]) (am_cur_of (i := (95, 3, .invokevirtual 202, (74, 961, 3), 0)) (by decide +kernel)) rfl rfl rfl rfl hc_z
          obtain ⟨r234_z, h235_z, q236_z, hc_z⟩ := hc_z
          have hr := hn_r (l := s2_z) (b := b) hd0_z hd9_z
          obtain ⟨v2_z, F1, rr, j4_z, j6_z, j7_z, j9_z, C2⟩ := hf_74_23 hL C1 x0_z x1_z x2_z w6_z H0 H9 p0_z p9_z l0_z l9_z F0 F9 S0 hr.1 (by omega) (by omega) b4_z q236_z
          subst rr
          have q1_z := gR_r H0 H9 p0_z l0_z (by decide) _ F s1_z F1 F0 F9 j4_z
          have cs := ab_iadd (x := s1_z) (y := hn_z s2_z b hd_z) (by omega) (by omega)
          have u1_z : rg_v h235_z 149 1 = s1_z + hn_z s2_z b hd_z := Int32.toInt_inj.mp (by rw [j7_z, cs])
          have u5_z : rg_v h235_z 150 b.toNatClampNeg = se := (lw_v (j9_z _ _ (by omega) (by omega) (by omega) (by omega))).trans x5_z
          have un : rg_v h235_z 152 b.toNatClampNeg = en := (lw_v (j9_z _ _ (by omega) (by omega) (by omega) (by omega))).trans xn
          have v1_z : rg_v h235_z (40 + b.toNatClampNeg) 1 = st := (lw_v (j9_z _ _ (by omega) (by omega) (by omega) (by omega))).trans w1_z
          have v2_ : rg_v h235_z (40 + b.toNatClampNeg) 2 = le := (lw_v (j9_z _ _ (by omega) (by omega) (by omega) (by omega))).trans w2_z
          have v4_z : rg_v h235_z (40 + b.toNatClampNeg) 4 = tk := (lw_v (j9_z _ _ (by omega) (by omega) (by omega) (by omega))).trans w4_z
          have v5_z : rg_v h235_z (40 + b.toNatClampNeg) 5 = rs := (lw_v (j9_z _ _ (by omega) (by omega) (by omega) (by omega))).trans w5_z
          have e60_z : ∀ k, rg_v h235_z 60 k = rg_v h 60 k := fun k => (lw_v (j9_z 60 k (by omega) (by omega) (by omega) (by omega))).trans (lw_v (bf 60 k (by omega)))
          replace hc_z : rn _ _ _ _ [.int v2_z] _ _ _ := hc_z
          replace hc_z := rn_pop (am_cur_of (i := (98, 1, .pop, (0, 0, 0), 0)) (by decide +kernel)) hc_z
          replace hc_z := rn_iconst (w := 0) (am_cur_of (i := (99, 1, .iconst 0, (0, 0, 0), 0)) (by decide +kernel)) (by decide) hc_z
          replace hc_z := rn_istore (am_cur_of (i := (100, 2, .istore 4, (0, 0, 0), 0)) (by decide +kernel)) hc_z
          obtain ⟨_, s237_z, s238_z, g4_z, hc_z⟩ := hc_z
          replace g0_z := s237_z 0 _ (by decide) rfl g0_z
          replace g1_z := s237_z 1 _ (by decide) rfl g1_z
          replace g2_z := s237_z 2 _ (by decide) rfl g2_z
          replace g3_z := s237_z 3 _ (by decide) rfl g3_z
          clear s237_z s238_z
          have em : ((m.toInt.toNat : Nat) : Int) = m.toInt := by omega
          have mt := se_mt (m := m) (t := tk) (by omega) (by omega) tk0_z tk9_z
          have la := ab_iadd (x := hn_z s2_z b hd_z) (y := m * tk) (by omega) (by omega)
          have sb := ab_isub (x := 99999) (y := s1_z) (by rw [show (99999 : Int32).toInt = 99999 by decide]; omega) (by rw [show (99999 : Int32).toInt = 99999 by decide]; omega)
          rw [show (99999 : Int32).toInt = 99999 by decide] at sb
          obtain ⟨G, a1_z, a2_z, a3_z⟩ := fl_l23 hL rfl H0 H9 p0_z p9_z l0_z l9_z st0_z st9_z le0_z le9_z tk0_z tk9_z b4_z _ m.toInt.toNat 0 F1 (s1_z + hn_z s2_z b hd_z) se en _ _ C2 j6_z u1_z u5_z un v1_z v2_ v4_z v5_z q1_z.1 q1_z.2 (by omega) (by rw [em]; omega) (by rw [em]; omega) se0_z (by omega) (by rw [e60_z]; exact n0_z) (by rw [e60_z]; exact n1_z) (by rw [e60_z]; exact s0_z) (by rw [e60_z]; exact sz20_z) g0_z g1_z g2_z g4_z (by omega) hc_z
          exact ⟨F1, G, j4_z, a1_z, a2_z, a3_z⟩
        · replace b233_z : ((99999 : Int32) - s1_z).toInt < ((hn_z s2_z b hd_z) + (m * tk)).toInt := b233_z
          replace hc_z := rn_iconst (w := (-1)) (am_cur_of (i := (88, 1, .iconst (-1), (0, 0, 0), 0)) (by decide +kernel)) (by decide) hc_z
          replace hc_z := rn_iret (am_cur_of (i := (89, 1, .ireturn, (0, 0, 0), 0)) (by decide +kernel)) hc_z
          obtain ⟨e239_z, e240_z⟩ := hc_z
          exfalso
          omega
      · replace b226_z : ¬ wv = (0 : Int32) ∧ ¬ wv.toInt = (0 : Int32).toInt := b226_z
        replace hc_z := rn_bipush (w := (-2)) (am_cur_of (i := (47, 2, .bipush (-2), (0, 0, 0), 0)) (by decide +kernel)) (by decide) hc_z
        replace hc_z := rn_iret (am_cur_of (i := (49, 1, .ireturn, (0, 0, 0), 0)) (by decide +kernel)) hc_z
        obtain ⟨e241_z, e242_z⟩ := hc_z
        exact absurd (wq.resolve_right (fun q => b226_z.1 q.1)).2 nd
