set_option maxHeartbeats 400000
/-! ===== waits AND pump OF THE MODEL, WITH FULL (wip/r/gen99so.py) ===== -/
/-- what a second of the model rests on -/
def mC (p : Nat) (h0_z : am_H) (Hd pf U ra re nl ls pt mo : Int32) (g : am_H) : Prop := LW p h0_z g ∧ rg_v g 168 0 = Hd ∧ rg_v g 168 2 = pf ∧ rg_v g 164 61 = U ∧ rg_v g 164 62 = ra ∧ rg_v g 164 58 = re ∧ rg_v g 164 60 = nl ∧ rg_v g 164 14 = ls ∧ rg_v g 164 57 = pt ∧ leM ra re nl ls pt (fun q => rg_v g 174 q) = mo
def mQ2 (o q : Nat) : Prop := ¬ (o = 164 ∧ (q = 49 ∨ q = 77)) ∧ ¬ (186 ≤ o ∧ o ≤ 190) ∧ ¬ o = 194 ∧ ¬ o = 200
theorem mC_e {p : Nat} {h0_z g g' : am_H} {Hd pf U ra re nl ls pt mo : Int32} (e : ∀ o q, mQ2 o q → g' o q = g o q) (c : mC p h0_z Hd pf U ra re nl ls pt mo g) : mC p h0_z Hd pf U ra re nl ls pt mo g' := by
  obtain ⟨c0_z, c1_z, c2_z, c3_z, c4_z, c5_z, c6_z, c7_z, c8_z, c9_z⟩ := c
  refine ⟨LW_e (fun _ _ _ _ => rfl) (fun o q x => lw_v (e o q (by unfold lwQ at x; unfold mQ2; omega))) c0_z, (lw_v (e 168 0 (by unfold mQ2; omega))).trans c1_z, (lw_v (e 168 2 (by unfold mQ2; omega))).trans c2_z, (lw_v (e 164 61 (by unfold mQ2; omega))).trans c3_z, (lw_v (e 164 62 (by unfold mQ2; omega))).trans c4_z, (lw_v (e 164 58 (by unfold mQ2; omega))).trans c5_z, (lw_v (e 164 60 (by unfold mQ2; omega))).trans c6_z, (lw_v (e 164 14 (by unfold mQ2; omega))).trans c7_z, (lw_v (e 164 57 (by unfold mQ2; omega))).trans c8_z, ?_⟩
  rw [show (fun q => rg_v g' 174 q) = (fun q => rg_v g 174 q) from funext (fun q => lw_v (e 174 q (by unfold mQ2; omega)))]
  exact c9_z
theorem sf_l209_0 {p : Nat} {r : Option Value} {h0_z g' : am_H} {m Hd pf U ra re nl lk pt mo : Int32} (H0 : 0 ≤ Hd.toInt) (H9 : Hd.toInt ≤ 9999) (p0_z : 0 ≤ pf.toInt) (p9_z : pf.toInt ≤ 9999) (m0_z : 0 ≤ mo.toInt) (m9_z : mo.toInt ≤ 999) : ∀ (f k : Nat) (i F S : Int32) (ls : am_L) (g : am_H), mC p h0_z Hd pf U ra re nl lk pt mo g → rg_v g 188 0 = F → rg_v g 189 0 = S → 0 ≤ F.toInt → F.toInt ≤ 9999 → 0 ≤ S.toInt → S.toInt + k < 2147483647 → am_get ls 0 = some (.ref 164) → am_get ls 1 = some (.int m) → am_get ls 2 = some (.int 0) → am_get ls 3 = some (.int i) → i.toInt + k = m.toInt → rn f am_m209 22 ls [] g r g' → ∃ G, gR (secZ p h0_z U Hd 0 pf mo 0) k F S G ∧ rg_v g' 188 0 = G ∧ r = some (.int G) := by
  intro f
  induction f with
  | zero => intro k i F S ls g C eF eS F0 F9 S0 S9 g0_z g1_z g2_z g3_z ik hm_z; exact absurd hm_z rn_0
  | succ f ih_z =>
    intro k i F S ls g C eF eS F0 F9 S0 S9 g0_z g1_z g2_z g3_z ik hm_z
    have n0e : (0 : Int32).toNatClampNeg = 0 := by decide
    have z0_z : (0 : Int32).toInt = 0 := by decide
    have z1_z : (1 : Int32).toInt = 1 := by decide
    replace hm_z := rn_iload_n (am_cur_of (i := (37, 1, .iload_n 3, (0, 0, 0), 0)) (by decide +kernel)) g3_z hm_z
    replace hm_z := rn_iload_n (am_cur_of (i := (38, 1, .iload_n 1, (0, 0, 0), 0)) (by decide +kernel)) g1_z hm_z
    replace hm_z := rn_cmp (am_cur_of (i := (39, 3, .if_icmp .ge 16, (32, 0, 0), 0)) (by decide +kernel)) hm_z
    rcases hm_z with ⟨b179_z, hm_z⟩ | ⟨b179_z, hm_z⟩
    · replace b179_z : m.toInt ≤ i.toInt := b179_z
      obtain rfl : k = 0 := by omega
      replace hm_z := rn_aload_n (am_cur_of (i := (55, 1, .aload_n 0, (0, 0, 0), 0)) (by decide +kernel)) g0_z hm_z
      replace hm_z := rn_getR (x := 188) (am_cur_of (i := (56, 3, .getfield 85, (12, 50, 1434), 0)) (by decide +kernel)) (by decide +kernel) hm_z
      replace hm_z := rn_iconst (w := 0) (am_cur_of (i := (59, 1, .iconst 0, (0, 0, 0), 0)) (by decide +kernel)) (by decide) hm_z
      replace hm_z := rn_iaload (N := 4) (q := 0) (v := F) (am_cur_of (i := (60, 1, .iaload, (0, 0, 0), 0)) (by decide +kernel)) (by decide +kernel) rfl eF hm_z
      obtain ⟨p180_z, hm_z⟩ := hm_z
      replace hm_z := rn_iret (am_cur_of (i := (61, 1, .ireturn, (0, 0, 0), 0)) (by decide +kernel)) hm_z
      obtain ⟨e181_z, e182_z⟩ := hm_z
      exact ⟨F, rfl, by rw [e182_z]; exact eF, e181_z⟩
    · replace b179_z : i.toInt < m.toInt := b179_z
      obtain ⟨k, rfl⟩ : ∃ k2_z, k = k2_z + 1 := ⟨k - 1, by omega⟩
      have ci_z := fk_c1 b179_z
      have cs := ab_iadd (x := S) (y := 1) (by omega) (by omega)
      replace hm_z := rn_aload_n (am_cur_of (i := (42, 1, .aload_n 0, (0, 0, 0), 0)) (by decide +kernel)) g0_z hm_z
      replace hm_z := rn_iconst (w := 0) (am_cur_of (i := (43, 1, .iconst 0, (0, 0, 0), 0)) (by decide +kernel)) (by decide) hm_z
      replace hm_z := rn_iload_n (am_cur_of (i := (44, 1, .iload_n 2, (0, 0, 0), 0)) (by decide +kernel)) g2_z hm_z
      replace hm_z := rn_iconst (w := 0) (am_cur_of (i := (45, 1, .iconst 0, (0, 0, 0), 0)) (by decide +kernel)) (by decide) hm_z
      replace hm_z := rn_callV (M' := am_m199) (o := 164) (ar := [.int 0, .int 0, .int 0]) (rest := []) (L := lv_args 0 [.ref 164, .int 0, .int 0, .int 0]) (am_cur_of (i := (46, 3, .invokevirtual 434, (199, 1828, 3), 0)) (by decide +kernel)) rfl rfl rfl rfl hm_z
      obtain ⟨r183_z, h184_z, q185_z, hm_z⟩ := hm_z
      have vo := rn_void rfl q185_z
      subst vo
      obtain ⟨c0_z, c1_z, c2_z, c3_z, c4_z, c5_z, c6_z, c7_z, c8_z, c9_z⟩ := C
      obtain ⟨x, xe, x1_z, x2_z, xf⟩ := as_199_0 (S := S) c0_z (by rw [n0e]; exact eF) (by rw [n0e]; exact eS) c1_z c2_z c3_z c4_z c5_z c6_z c7_z c8_z c9_z H0 H9 p0_z p9_z m0_z m9_z F0 (by omega) q185_z
      rw [n0e] at x1_z x2_z xf
      have C2 : mC p h0_z Hd pf U ra re nl lk pt mo h184_z := mC_e (fun o q e => xf o q (by unfold mQ2 at e; omega) (by unfold mQ2 at e; omega) (by unfold mQ2 at e; omega) (by unfold mQ2 at e; omega) (by unfold mQ2 at e; omega)) ⟨c0_z, c1_z, c2_z, c3_z, c4_z, c5_z, c6_z, c7_z, c8_z, c9_z⟩
      have zr := secZ_r (p := p) (h0_z := h0_z) (U := U) (pu := 0) (S := S) (o := 0) H0 H9 p0_z m0_z F0 F9 (by decide)
      rw [← xe] at zr
      replace hm_z : rn _ _ _ _ [] _ _ _ := hm_z
      replace hm_z := rn_iinc (w := i + 1) (am_cur_of (i := (49, 3, .iinc 3 1, (0, 0, 0), 0)) (by decide +kernel)) g3_z rfl hm_z
      obtain ⟨_, s186_z, s187_z, g3_z, hm_z⟩ := hm_z
      replace g0_z := s186_z 0 _ (by decide) rfl g0_z
      replace g1_z := s186_z 1 _ (by decide) rfl g1_z
      replace g2_z := s186_z 2 _ (by decide) rfl g2_z
      clear s186_z s187_z
      replace hm_z := rn_gotoL (am_cur_of (i := (52, 3, .goto (-15), (22, 0, 0), 0)) (by decide +kernel)) hm_z
      obtain ⟨G, q1_z, q2_z, q3_z⟩ := ih_z k (i + 1) x (S + 1) _ _ C2 x1_z x2_z zr.1 zr.2 (by omega) (by omega) g0_z g1_z g2_z g3_z (by omega) hm_z
      exact ⟨G, ⟨x, xe, q1_z⟩, q2_z, q3_z⟩
theorem sw_162 {n : Nat} {h h' : am_H} {r : Option Value} {x : Int32} {y : Int32} {z : Int32}  (hc_z : rn n am_m162 0 (lv_args 0 [.int x, .int y, .int z]) [] h r h') : ((x.toInt < y.toInt) ∧ r = some (.int 0) ∧ h' = h) ∨ ((y.toInt ≤ x.toInt) ∧ (z.toInt < x.toInt) ∧ r = some (.int 0) ∧ h' = h) ∨ ((y.toInt ≤ x.toInt) ∧ (x.toInt ≤ z.toInt) ∧ r = some (.int 1) ∧ h' = h) := by
  have g0_z : am_get (lv_args 0 [.int x, .int y, .int z]) 0 = some (.int x) := rfl
  have g1_z : am_get (lv_args 0 [.int x, .int y, .int z]) 1 = some (.int y) := rfl
  have g2_z : am_get (lv_args 0 [.int x, .int y, .int z]) 2 = some (.int z) := rfl
  replace hc_z := rn_iload_n (am_cur_of (i := (0, 1, .iload_n 0, (0, 0, 0), 0)) (by decide +kernel)) g0_z hc_z
  replace hc_z := rn_iload_n (am_cur_of (i := (1, 1, .iload_n 1, (0, 0, 0), 0)) (by decide +kernel)) g1_z hc_z
  replace hc_z := rn_cmp (am_cur_of (i := (2, 3, .if_icmp .lt 12, (8, 0, 0), 0)) (by decide +kernel)) hc_z
  rcases hc_z with ⟨b188_z, hc_z⟩ | ⟨b188_z, hc_z⟩
  · replace b188_z : x.toInt < y.toInt := b188_z
    replace hc_z := rn_iconst (w := 0) (am_cur_of (i := (14, 1, .iconst 0, (0, 0, 0), 0)) (by decide +kernel)) (by decide) hc_z
    replace hc_z := rn_iret (am_cur_of (i := (15, 1, .ireturn, (0, 0, 0), 0)) (by decide +kernel)) hc_z
    obtain ⟨e189_z, e190_z⟩ := hc_z
    exact Or.inl ⟨b188_z, e189_z, e190_z⟩
  · replace b188_z : y.toInt ≤ x.toInt := b188_z
    replace hc_z := rn_iload_n (am_cur_of (i := (5, 1, .iload_n 0, (0, 0, 0), 0)) (by decide +kernel)) g0_z hc_z
    replace hc_z := rn_iload_n (am_cur_of (i := (6, 1, .iload_n 2, (0, 0, 0), 0)) (by decide +kernel)) g2_z hc_z
    replace hc_z := rn_cmp (am_cur_of (i := (7, 3, .if_icmp .gt 7, (8, 0, 0), 0)) (by decide +kernel)) hc_z
    rcases hc_z with ⟨b191_z, hc_z⟩ | ⟨b191_z, hc_z⟩
    · replace b191_z : z.toInt < x.toInt := b191_z
      replace hc_z := rn_iconst (w := 0) (am_cur_of (i := (14, 1, .iconst 0, (0, 0, 0), 0)) (by decide +kernel)) (by decide) hc_z
      replace hc_z := rn_iret (am_cur_of (i := (15, 1, .ireturn, (0, 0, 0), 0)) (by decide +kernel)) hc_z
      obtain ⟨e192_z, e193_z⟩ := hc_z
      exact Or.inr (Or.inl ⟨b188_z, b191_z, e192_z, e193_z⟩)
    · replace b191_z : x.toInt ≤ z.toInt := b191_z
      replace hc_z := rn_iconst (w := 1) (am_cur_of (i := (10, 1, .iconst 1, (0, 0, 0), 0)) (by decide +kernel)) (by decide) hc_z
      replace hc_z := rn_goto (am_cur_of (i := (11, 3, .goto 4, (9, 0, 0), 0)) (by decide +kernel)) hc_z
      replace hc_z := rn_iret (am_cur_of (i := (15, 1, .ireturn, (0, 0, 0), 0)) (by decide +kernel)) hc_z
      obtain ⟨e194_z, e195_z⟩ := hc_z
      exact Or.inr (Or.inr (⟨b188_z, b191_z, e194_z, e195_z⟩))
theorem sf_209_0 {n : Nat} {p : Nat} {r : Option Value} {h0_z g g' : am_H} {F S m Hd pf U ra re nl ls pt mo : Int32} (H0 : 0 ≤ Hd.toInt) (H9 : Hd.toInt ≤ 9999) (p0_z : 0 ≤ pf.toInt) (p9_z : pf.toInt ≤ 9999) (m0_z : 0 ≤ mo.toInt) (m9_z : mo.toInt ≤ 999) (C : mC p h0_z Hd pf U ra re nl ls pt mo g) (eF : rg_v g 188 0 = F) (eS : rg_v g 189 0 = S) (F0 : 0 ≤ F.toInt) (F9 : F.toInt ≤ 9999) (S0 : 0 ≤ S.toInt) (u0_z : 0 ≤ (rg_v g 164 77).toInt) (u20_z : (rg_v g 164 77).toInt ≤ 20) (v1_z : 1 ≤ m.toInt) (v2_z : m.toInt ≤ 999) (v3_z : S.toInt + m.toInt ≤ 99999) (hm_z : rn n am_m209 0 (lv_args 0 [.ref 164, .int m, .int 0]) [] g r g') : ∃ G, gR (secZ p h0_z U Hd 0 pf mo 0) m.toInt.toNat F S G ∧ rg_v g' 188 0 = G ∧ r = some (.int G) := by
  have z0_z : (0 : Int32).toInt = 0 := by decide
  have z1_z : (1 : Int32).toInt = 1 := by decide
  have z999_z : (999 : Int32).toInt = 999 := by decide
  have z99999_z : (99999 : Int32).toInt = 99999 := by decide
  have g0_z : am_get (lv_args 0 [.ref 164, .int m, .int 0]) 0 = some (.ref 164) := rfl
  have g1_z : am_get (lv_args 0 [.ref 164, .int m, .int 0]) 1 = some (.int m) := rfl
  have g2_z : am_get (lv_args 0 [.ref 164, .int m, .int 0]) 2 = some (.int 0) := rfl
  replace hm_z := rn_aload_n (am_cur_of (i := (0, 1, .aload_n 0, (0, 0, 0), 0)) (by decide +kernel)) g0_z hm_z
  replace hm_z := rn_iconst (w := 0) (am_cur_of (i := (1, 1, .iconst 0, (0, 0, 0), 0)) (by decide +kernel)) (by decide) hm_z
  replace hm_z := rn_put (am_cur_of (i := (2, 3, .putfield 139, (12, 2, 1386), 0)) (by decide +kernel)) (by decide +kernel) hm_z
  replace hm_z := rn_iload_n (am_cur_of (i := (5, 1, .iload_n 1, (0, 0, 0), 0)) (by decide +kernel)) g1_z hm_z
  replace hm_z := rn_iconst (w := 1) (am_cur_of (i := (6, 1, .iconst 1, (0, 0, 0), 0)) (by decide +kernel)) (by decide) hm_z
  replace hm_z := rn_sipush (w := 999) (am_cur_of (i := (7, 3, .sipush 999, (0, 0, 0), 0)) (by decide +kernel)) (by decide) hm_z
  replace hm_z := rn_callS (M' := am_m162) (ar := [.int 999, .int 1, .int m]) (rest := []) (L := lv_args 0 [.int m, .int 1, .int 999]) (am_cur_of (i := (10, 3, .invokestatic 184, (162, 1681, 3), 0)) (by decide +kernel)) rfl rfl rfl rfl hm_z
  obtain ⟨r196_z, h197_z, q198_z, hm_z⟩ := hm_z
  rcases sw_162 q198_z with ⟨b199_z, rfl, y200_z⟩ | ⟨b201_z, b202_z, rfl, y203_z⟩ | ⟨b204_z, b205_z, rfl, y206_z⟩
  · replace y200_z := y200_z.symm
    subst y200_z
    replace b199_z : m.toInt < (1 : Int32).toInt := b199_z
    replace hm_z : rn _ _ _ _ [.int 0] _ _ _ := hm_z
    replace hm_z := rn_ifT (am_cur_of (i := (13, 3, .ifCond .eq 16, (16, 0, 0), 0)) (by decide +kernel)) (by decide) hm_z
    replace hm_z := rn_iconst (w := (-1)) (am_cur_of (i := (29, 1, .iconst (-1), (0, 0, 0), 0)) (by decide +kernel)) (by decide) hm_z
    replace hm_z := rn_iret (am_cur_of (i := (30, 1, .ireturn, (0, 0, 0), 0)) (by decide +kernel)) hm_z
    obtain ⟨e207_z, e208_z⟩ := hm_z
    exfalso
    have sa := ab_iadd (x := S) (y := m) (by omega) (by omega)
    omega
  · replace y203_z := y203_z.symm
    subst y203_z
    replace b201_z : (1 : Int32).toInt ≤ m.toInt := b201_z
    replace b202_z : (999 : Int32).toInt < m.toInt := b202_z
    replace hm_z : rn _ _ _ _ [.int 0] _ _ _ := hm_z
    replace hm_z := rn_ifT (am_cur_of (i := (13, 3, .ifCond .eq 16, (16, 0, 0), 0)) (by decide +kernel)) (by decide) hm_z
    replace hm_z := rn_iconst (w := (-1)) (am_cur_of (i := (29, 1, .iconst (-1), (0, 0, 0), 0)) (by decide +kernel)) (by decide) hm_z
    replace hm_z := rn_iret (am_cur_of (i := (30, 1, .ireturn, (0, 0, 0), 0)) (by decide +kernel)) hm_z
    obtain ⟨e209_z, e210_z⟩ := hm_z
    exfalso
    have sa := ab_iadd (x := S) (y := m) (by omega) (by omega)
    omega
  · replace y206_z := y206_z.symm
    subst y206_z
    replace b204_z : (1 : Int32).toInt ≤ m.toInt := b204_z
    replace b205_z : m.toInt ≤ (999 : Int32).toInt := b205_z
    replace hm_z : rn _ _ _ _ [.int 1] _ _ _ := hm_z
    replace hm_z := rn_ifF (am_cur_of (i := (13, 3, .ifCond .eq 16, (16, 0, 0), 0)) (by decide +kernel)) (by decide) hm_z
    replace hm_z := rn_aload_n (am_cur_of (i := (16, 1, .aload_n 0, (0, 0, 0), 0)) (by decide +kernel)) g0_z hm_z
    replace hm_z := rn_getR (x := 189) (am_cur_of (i := (17, 3, .getfield 88, (12, 51, 1435), 0)) (by decide +kernel)) (by decide +kernel) hm_z
    replace hm_z := rn_iconst (w := 0) (am_cur_of (i := (20, 1, .iconst 0, (0, 0, 0), 0)) (by decide +kernel)) (by decide) hm_z
    replace hm_z := rn_iaload (N := 4) (q := 0) (v := S) (am_cur_of (i := (21, 1, .iaload, (0, 0, 0), 0)) (by decide +kernel)) (by decide +kernel) rfl ((rg_v_other (by omega)).trans (eS)) hm_z
    obtain ⟨p211_z, hm_z⟩ := hm_z
    replace hm_z := rn_iload_n (am_cur_of (i := (22, 1, .iload_n 1, (0, 0, 0), 0)) (by decide +kernel)) g1_z hm_z
    replace hm_z := rn_iadd (w := S + m) (am_cur_of (i := (23, 1, .iadd, (0, 0, 0), 0)) (by decide +kernel)) rfl hm_z
    replace hm_z := rn_ldc (w := 99999) (am_cur_of (i := (24, 2, .ldc 177, (0, 0, 1656), 99999)) (by decide +kernel)) (by decide) hm_z
    replace hm_z := rn_cmp (am_cur_of (i := (26, 3, .if_icmp .le 5, (18, 0, 0), 0)) (by decide +kernel)) hm_z
    rcases hm_z with ⟨b212_z, hm_z⟩ | ⟨b212_z, hm_z⟩
    · replace b212_z : (S + m).toInt ≤ (99999 : Int32).toInt := b212_z
      replace hm_z := rn_aload_n (am_cur_of (i := (31, 1, .aload_n 0, (0, 0, 0), 0)) (by decide +kernel)) g0_z hm_z
      replace hm_z := rn_callV (M' := am_m207) (o := 164) (ar := []) (rest := []) (L := lv_args 0 [.ref 164]) (am_cur_of (i := (32, 3, .invokevirtual 444, (207, 1859, 3), 0)) (by decide +kernel)) rfl rfl rfl rfl hm_z
      obtain ⟨r213_z, h214_z, q215_z, hm_z⟩ := hm_z
      have vo := rn_void rfl q215_z
      subst vo
      obtain ⟨-, -, -, -, y5_z⟩ := rm_207 rfl u0_z u20_z q215_z
      have yf : ∀ o q, ¬ o = 200 → ¬ (o = 164 ∧ (q = 77 ∨ q = 2)) → h214_z o q = g o q := fun o q a b => (y5_z o q a (by omega)).trans ((up_ne (by omega)).trans (rfl))
      have yv : ∀ o q, ¬ o = 200 → ¬ (o = 164 ∧ (q = 77 ∨ q = 2)) → rg_v h214_z o q = rg_v g o q := fun o q a b => lw_v (yf o q a b)
      have C1 : mC p h0_z Hd pf U ra re nl ls pt mo h214_z := by
        obtain ⟨c0_z, c1_z, c2_z, c3_z, c4_z, c5_z, c6_z, c7_z, c8_z, c9_z⟩ := C
        refine ⟨LW_e (fun _ _ _ _ => rfl) (fun o q x => yv o q (by unfold lwQ at x; omega) (by unfold lwQ at x; omega)) c0_z, (yv 168 0 (by omega) (by omega)).trans c1_z, (yv 168 2 (by omega) (by omega)).trans c2_z, (yv 164 61 (by omega) (by omega)).trans c3_z, (yv 164 62 (by omega) (by omega)).trans c4_z, (yv 164 58 (by omega) (by omega)).trans c5_z, (yv 164 60 (by omega) (by omega)).trans c6_z, (yv 164 14 (by omega) (by omega)).trans c7_z, (yv 164 57 (by omega) (by omega)).trans c8_z, ?_⟩
        rw [show (fun q => rg_v h214_z 174 q) = (fun q => rg_v g 174 q) from funext (fun q => yv 174 q (by omega) (by omega))]
        exact c9_z
      have eF1 : rg_v h214_z 188 0 = F := (yv 188 0 (by omega) (by omega)).trans eF
      have eS1 : rg_v h214_z 189 0 = S := (yv 189 0 (by omega) (by omega)).trans eS
      replace hm_z : rn _ _ _ _ [] _ _ _ := hm_z
      replace hm_z := rn_iconst (w := 0) (am_cur_of (i := (35, 1, .iconst 0, (0, 0, 0), 0)) (by decide +kernel)) (by decide) hm_z
      replace hm_z := rn_istore_n (am_cur_of (i := (36, 1, .istore_n 3, (0, 0, 0), 0)) (by decide +kernel)) hm_z
      obtain ⟨_, s216_z, s217_z, g3_z, hm_z⟩ := hm_z
      replace g0_z := s216_z 0 _ (by decide) rfl g0_z
      replace g1_z := s216_z 1 _ (by decide) rfl g1_z
      replace g2_z := s216_z 2 _ (by decide) rfl g2_z
      clear s216_z s217_z
      obtain ⟨G, q1_z, q2_z, q3_z⟩ := sf_l209_0 H0 H9 p0_z p9_z m0_z m9_z _ m.toInt.toNat 0 F S _ _ C1 eF1 eS1 F0 F9 S0 (by omega) g0_z g1_z g2_z g3_z (by rw [z0_z]; omega) hm_z
      exact ⟨G, q1_z, q2_z, q3_z⟩
    · replace b212_z : (99999 : Int32).toInt < (S + m).toInt := b212_z
      replace hm_z := rn_iconst (w := (-1)) (am_cur_of (i := (29, 1, .iconst (-1), (0, 0, 0), 0)) (by decide +kernel)) (by decide) hm_z
      replace hm_z := rn_iret (am_cur_of (i := (30, 1, .ireturn, (0, 0, 0), 0)) (by decide +kernel)) hm_z
      obtain ⟨e218_z, e219_z⟩ := hm_z
      exfalso
      have sa := ab_iadd (x := S) (y := m) (by omega) (by omega)
      omega
theorem sf_l209_1 {p : Nat} {r : Option Value} {h0_z g' : am_H} {m Hd pf U ra re nl lk pt mo : Int32} (H0 : 0 ≤ Hd.toInt) (H9 : Hd.toInt ≤ 9999) (p0_z : 0 ≤ pf.toInt) (p9_z : pf.toInt ≤ 9999) (m0_z : 0 ≤ mo.toInt) (m9_z : mo.toInt ≤ 999) : ∀ (f k : Nat) (i F S : Int32) (ls : am_L) (g : am_H), mC p h0_z Hd pf U ra re nl lk pt mo g → rg_v g 188 0 = F → rg_v g 189 0 = S → 0 ≤ F.toInt → F.toInt ≤ 9999 → 0 ≤ S.toInt → S.toInt + k < 2147483647 → am_get ls 0 = some (.ref 164) → am_get ls 1 = some (.int m) → am_get ls 2 = some (.int 1) → am_get ls 3 = some (.int i) → i.toInt + k = m.toInt → rn f am_m209 22 ls [] g r g' → ∃ G, gR (secZ p h0_z U Hd 0 pf mo 1) k F S G ∧ rg_v g' 188 0 = G ∧ r = some (.int G) := by
  intro f
  induction f with
  | zero => intro k i F S ls g C eF eS F0 F9 S0 S9 g0_z g1_z g2_z g3_z ik hm_z; exact absurd hm_z rn_0
  | succ f ih_z =>
    intro k i F S ls g C eF eS F0 F9 S0 S9 g0_z g1_z g2_z g3_z ik hm_z
    have n0e : (0 : Int32).toNatClampNeg = 0 := by decide
    have z0_z : (0 : Int32).toInt = 0 := by decide
    have z1_z : (1 : Int32).toInt = 1 := by decide
    replace hm_z := rn_iload_n (am_cur_of (i := (37, 1, .iload_n 3, (0, 0, 0), 0)) (by decide +kernel)) g3_z hm_z
    replace hm_z := rn_iload_n (am_cur_of (i := (38, 1, .iload_n 1, (0, 0, 0), 0)) (by decide +kernel)) g1_z hm_z
    replace hm_z := rn_cmp (am_cur_of (i := (39, 3, .if_icmp .ge 16, (32, 0, 0), 0)) (by decide +kernel)) hm_z
    rcases hm_z with ⟨b220_z, hm_z⟩ | ⟨b220_z, hm_z⟩
    · replace b220_z : m.toInt ≤ i.toInt := b220_z
      obtain rfl : k = 0 := by omega
      replace hm_z := rn_aload_n (am_cur_of (i := (55, 1, .aload_n 0, (0, 0, 0), 0)) (by decide +kernel)) g0_z hm_z
      replace hm_z := rn_getR (x := 188) (am_cur_of (i := (56, 3, .getfield 85, (12, 50, 1434), 0)) (by decide +kernel)) (by decide +kernel) hm_z
      replace hm_z := rn_iconst (w := 0) (am_cur_of (i := (59, 1, .iconst 0, (0, 0, 0), 0)) (by decide +kernel)) (by decide) hm_z
      replace hm_z := rn_iaload (N := 4) (q := 0) (v := F) (am_cur_of (i := (60, 1, .iaload, (0, 0, 0), 0)) (by decide +kernel)) (by decide +kernel) rfl eF hm_z
      obtain ⟨p221_z, hm_z⟩ := hm_z
      replace hm_z := rn_iret (am_cur_of (i := (61, 1, .ireturn, (0, 0, 0), 0)) (by decide +kernel)) hm_z
      obtain ⟨e222_z, e223_z⟩ := hm_z
      exact ⟨F, rfl, by rw [e223_z]; exact eF, e222_z⟩
    · replace b220_z : i.toInt < m.toInt := b220_z
      obtain ⟨k, rfl⟩ : ∃ k2_z, k = k2_z + 1 := ⟨k - 1, by omega⟩
      have ci_z := fk_c1 b220_z
      have cs := ab_iadd (x := S) (y := 1) (by omega) (by omega)
      replace hm_z := rn_aload_n (am_cur_of (i := (42, 1, .aload_n 0, (0, 0, 0), 0)) (by decide +kernel)) g0_z hm_z
      replace hm_z := rn_iconst (w := 0) (am_cur_of (i := (43, 1, .iconst 0, (0, 0, 0), 0)) (by decide +kernel)) (by decide) hm_z
      replace hm_z := rn_iload_n (am_cur_of (i := (44, 1, .iload_n 2, (0, 0, 0), 0)) (by decide +kernel)) g2_z hm_z
      replace hm_z := rn_iconst (w := 0) (am_cur_of (i := (45, 1, .iconst 0, (0, 0, 0), 0)) (by decide +kernel)) (by decide) hm_z
      replace hm_z := rn_callV (M' := am_m199) (o := 164) (ar := [.int 0, .int 1, .int 0]) (rest := []) (L := lv_args 0 [.ref 164, .int 0, .int 1, .int 0]) (am_cur_of (i := (46, 3, .invokevirtual 434, (199, 1828, 3), 0)) (by decide +kernel)) rfl rfl rfl rfl hm_z
      obtain ⟨r224_z, h225_z, q226_z, hm_z⟩ := hm_z
      have vo := rn_void rfl q226_z
      subst vo
      obtain ⟨c0_z, c1_z, c2_z, c3_z, c4_z, c5_z, c6_z, c7_z, c8_z, c9_z⟩ := C
      obtain ⟨x, xe, x1_z, x2_z, xf⟩ := as_199_1 (S := S) c0_z (by rw [n0e]; exact eF) (by rw [n0e]; exact eS) c1_z c2_z c3_z c4_z c5_z c6_z c7_z c8_z c9_z H0 H9 p0_z p9_z m0_z m9_z F0 (by omega) q226_z
      rw [n0e] at x1_z x2_z xf
      have C2 : mC p h0_z Hd pf U ra re nl lk pt mo h225_z := mC_e (fun o q e => xf o q (by unfold mQ2 at e; omega) (by unfold mQ2 at e; omega) (by unfold mQ2 at e; omega) (by unfold mQ2 at e; omega) (by unfold mQ2 at e; omega)) ⟨c0_z, c1_z, c2_z, c3_z, c4_z, c5_z, c6_z, c7_z, c8_z, c9_z⟩
      have zr := secZ_r (p := p) (h0_z := h0_z) (U := U) (pu := 0) (S := S) (o := 1) H0 H9 p0_z m0_z F0 F9 (by decide)
      rw [← xe] at zr
      replace hm_z : rn _ _ _ _ [] _ _ _ := hm_z
      replace hm_z := rn_iinc (w := i + 1) (am_cur_of (i := (49, 3, .iinc 3 1, (0, 0, 0), 0)) (by decide +kernel)) g3_z rfl hm_z
      obtain ⟨_, s227_z, s228_z, g3_z, hm_z⟩ := hm_z
      replace g0_z := s227_z 0 _ (by decide) rfl g0_z
      replace g1_z := s227_z 1 _ (by decide) rfl g1_z
      replace g2_z := s227_z 2 _ (by decide) rfl g2_z
      clear s227_z s228_z
      replace hm_z := rn_gotoL (am_cur_of (i := (52, 3, .goto (-15), (22, 0, 0), 0)) (by decide +kernel)) hm_z
      obtain ⟨G, q1_z, q2_z, q3_z⟩ := ih_z k (i + 1) x (S + 1) _ _ C2 x1_z x2_z zr.1 zr.2 (by omega) (by omega) g0_z g1_z g2_z g3_z (by omega) hm_z
      exact ⟨G, ⟨x, xe, q1_z⟩, q2_z, q3_z⟩
theorem sf_209_1 {n : Nat} {p : Nat} {r : Option Value} {h0_z g g' : am_H} {F S m Hd pf U ra re nl ls pt mo : Int32} (H0 : 0 ≤ Hd.toInt) (H9 : Hd.toInt ≤ 9999) (p0_z : 0 ≤ pf.toInt) (p9_z : pf.toInt ≤ 9999) (m0_z : 0 ≤ mo.toInt) (m9_z : mo.toInt ≤ 999) (C : mC p h0_z Hd pf U ra re nl ls pt mo g) (eF : rg_v g 188 0 = F) (eS : rg_v g 189 0 = S) (F0 : 0 ≤ F.toInt) (F9 : F.toInt ≤ 9999) (S0 : 0 ≤ S.toInt) (u0_z : 0 ≤ (rg_v g 164 77).toInt) (u20_z : (rg_v g 164 77).toInt ≤ 20) (v1_z : 1 ≤ m.toInt) (v2_z : m.toInt ≤ 999) (v3_z : S.toInt + m.toInt ≤ 99999) (hm_z : rn n am_m209 0 (lv_args 0 [.ref 164, .int m, .int 1]) [] g r g') : ∃ G, gR (secZ p h0_z U Hd 0 pf mo 1) m.toInt.toNat F S G ∧ rg_v g' 188 0 = G ∧ r = some (.int G) := by
  have z0_z : (0 : Int32).toInt = 0 := by decide
  have z1_z : (1 : Int32).toInt = 1 := by decide
  have z999_z : (999 : Int32).toInt = 999 := by decide
  have z99999_z : (99999 : Int32).toInt = 99999 := by decide
  have g0_z : am_get (lv_args 0 [.ref 164, .int m, .int 1]) 0 = some (.ref 164) := rfl
  have g1_z : am_get (lv_args 0 [.ref 164, .int m, .int 1]) 1 = some (.int m) := rfl
  have g2_z : am_get (lv_args 0 [.ref 164, .int m, .int 1]) 2 = some (.int 1) := rfl
  replace hm_z := rn_aload_n (am_cur_of (i := (0, 1, .aload_n 0, (0, 0, 0), 0)) (by decide +kernel)) g0_z hm_z
  replace hm_z := rn_iconst (w := 0) (am_cur_of (i := (1, 1, .iconst 0, (0, 0, 0), 0)) (by decide +kernel)) (by decide) hm_z
  replace hm_z := rn_put (am_cur_of (i := (2, 3, .putfield 139, (12, 2, 1386), 0)) (by decide +kernel)) (by decide +kernel) hm_z
  replace hm_z := rn_iload_n (am_cur_of (i := (5, 1, .iload_n 1, (0, 0, 0), 0)) (by decide +kernel)) g1_z hm_z
  replace hm_z := rn_iconst (w := 1) (am_cur_of (i := (6, 1, .iconst 1, (0, 0, 0), 0)) (by decide +kernel)) (by decide) hm_z
  replace hm_z := rn_sipush (w := 999) (am_cur_of (i := (7, 3, .sipush 999, (0, 0, 0), 0)) (by decide +kernel)) (by decide) hm_z
  replace hm_z := rn_callS (M' := am_m162) (ar := [.int 999, .int 1, .int m]) (rest := []) (L := lv_args 0 [.int m, .int 1, .int 999]) (am_cur_of (i := (10, 3, .invokestatic 184, (162, 1681, 3), 0)) (by decide +kernel)) rfl rfl rfl rfl hm_z
  obtain ⟨r229_z, h230_z, q231_z, hm_z⟩ := hm_z
  rcases sw_162 q231_z with ⟨b232_z, rfl, y233_z⟩ | ⟨b234_z, b235_z, rfl, y236_z⟩ | ⟨b237_z, b238_z, rfl, y239_z⟩
  · replace y233_z := y233_z.symm
    subst y233_z
    replace b232_z : m.toInt < (1 : Int32).toInt := b232_z
    replace hm_z : rn _ _ _ _ [.int 0] _ _ _ := hm_z
    replace hm_z := rn_ifT (am_cur_of (i := (13, 3, .ifCond .eq 16, (16, 0, 0), 0)) (by decide +kernel)) (by decide) hm_z
    replace hm_z := rn_iconst (w := (-1)) (am_cur_of (i := (29, 1, .iconst (-1), (0, 0, 0), 0)) (by decide +kernel)) (by decide) hm_z
    replace hm_z := rn_iret (am_cur_of (i := (30, 1, .ireturn, (0, 0, 0), 0)) (by decide +kernel)) hm_z
    obtain ⟨e240_z, e241_z⟩ := hm_z
    exfalso
    have sa := ab_iadd (x := S) (y := m) (by omega) (by omega)
    omega
  · replace y236_z := y236_z.symm
    subst y236_z
    replace b234_z : (1 : Int32).toInt ≤ m.toInt := b234_z
    replace b235_z : (999 : Int32).toInt < m.toInt := b235_z
    replace hm_z : rn _ _ _ _ [.int 0] _ _ _ := hm_z
    replace hm_z := rn_ifT (am_cur_of (i := (13, 3, .ifCond .eq 16, (16, 0, 0), 0)) (by decide +kernel)) (by decide) hm_z
    replace hm_z := rn_iconst (w := (-1)) (am_cur_of (i := (29, 1, .iconst (-1), (0, 0, 0), 0)) (by decide +kernel)) (by decide) hm_z
    replace hm_z := rn_iret (am_cur_of (i := (30, 1, .ireturn, (0, 0, 0), 0)) (by decide +kernel)) hm_z
    obtain ⟨e242_z, e243_z⟩ := hm_z
    exfalso
    have sa := ab_iadd (x := S) (y := m) (by omega) (by omega)
    omega
  · replace y239_z := y239_z.symm
    subst y239_z
    replace b237_z : (1 : Int32).toInt ≤ m.toInt := b237_z
    replace b238_z : m.toInt ≤ (999 : Int32).toInt := b238_z
    replace hm_z : rn _ _ _ _ [.int 1] _ _ _ := hm_z
    replace hm_z := rn_ifF (am_cur_of (i := (13, 3, .ifCond .eq 16, (16, 0, 0), 0)) (by decide +kernel)) (by decide) hm_z
    replace hm_z := rn_aload_n (am_cur_of (i := (16, 1, .aload_n 0, (0, 0, 0), 0)) (by decide +kernel)) g0_z hm_z
    replace hm_z := rn_getR (x := 189) (am_cur_of (i := (17, 3, .getfield 88, (12, 51, 1435), 0)) (by decide +kernel)) (by decide +kernel) hm_z
    replace hm_z := rn_iconst (w := 0) (am_cur_of (i := (20, 1, .iconst 0, (0, 0, 0), 0)) (by decide +kernel)) (by decide) hm_z
    replace hm_z := rn_iaload (N := 4) (q := 0) (v := S) (am_cur_of (i := (21, 1, .iaload, (0, 0, 0), 0)) (by decide +kernel)) (by decide +kernel) rfl ((rg_v_other (by omega)).trans (eS)) hm_z
    obtain ⟨p244_z, hm_z⟩ := hm_z
    replace hm_z := rn_iload_n (am_cur_of (i := (22, 1, .iload_n 1, (0, 0, 0), 0)) (by decide +kernel)) g1_z hm_z
    replace hm_z := rn_iadd (w := S + m) (am_cur_of (i := (23, 1, .iadd, (0, 0, 0), 0)) (by decide +kernel)) rfl hm_z
    replace hm_z := rn_ldc (w := 99999) (am_cur_of (i := (24, 2, .ldc 177, (0, 0, 1656), 99999)) (by decide +kernel)) (by decide) hm_z
    replace hm_z := rn_cmp (am_cur_of (i := (26, 3, .if_icmp .le 5, (18, 0, 0), 0)) (by decide +kernel)) hm_z
    rcases hm_z with ⟨b245_z, hm_z⟩ | ⟨b245_z, hm_z⟩
    · replace b245_z : (S + m).toInt ≤ (99999 : Int32).toInt := b245_z
      replace hm_z := rn_aload_n (am_cur_of (i := (31, 1, .aload_n 0, (0, 0, 0), 0)) (by decide +kernel)) g0_z hm_z
      replace hm_z := rn_callV (M' := am_m207) (o := 164) (ar := []) (rest := []) (L := lv_args 0 [.ref 164]) (am_cur_of (i := (32, 3, .invokevirtual 444, (207, 1859, 3), 0)) (by decide +kernel)) rfl rfl rfl rfl hm_z
      obtain ⟨r246_z, h247_z, q248_z, hm_z⟩ := hm_z
      have vo := rn_void rfl q248_z
      subst vo
      obtain ⟨-, -, -, -, y5_z⟩ := rm_207 rfl u0_z u20_z q248_z
      have yf : ∀ o q, ¬ o = 200 → ¬ (o = 164 ∧ (q = 77 ∨ q = 2)) → h247_z o q = g o q := fun o q a b => (y5_z o q a (by omega)).trans ((up_ne (by omega)).trans (rfl))
      have yv : ∀ o q, ¬ o = 200 → ¬ (o = 164 ∧ (q = 77 ∨ q = 2)) → rg_v h247_z o q = rg_v g o q := fun o q a b => lw_v (yf o q a b)
      have C1 : mC p h0_z Hd pf U ra re nl ls pt mo h247_z := by
        obtain ⟨c0_z, c1_z, c2_z, c3_z, c4_z, c5_z, c6_z, c7_z, c8_z, c9_z⟩ := C
        refine ⟨LW_e (fun _ _ _ _ => rfl) (fun o q x => yv o q (by unfold lwQ at x; omega) (by unfold lwQ at x; omega)) c0_z, (yv 168 0 (by omega) (by omega)).trans c1_z, (yv 168 2 (by omega) (by omega)).trans c2_z, (yv 164 61 (by omega) (by omega)).trans c3_z, (yv 164 62 (by omega) (by omega)).trans c4_z, (yv 164 58 (by omega) (by omega)).trans c5_z, (yv 164 60 (by omega) (by omega)).trans c6_z, (yv 164 14 (by omega) (by omega)).trans c7_z, (yv 164 57 (by omega) (by omega)).trans c8_z, ?_⟩
        rw [show (fun q => rg_v h247_z 174 q) = (fun q => rg_v g 174 q) from funext (fun q => yv 174 q (by omega) (by omega))]
        exact c9_z
      have eF1 : rg_v h247_z 188 0 = F := (yv 188 0 (by omega) (by omega)).trans eF
      have eS1 : rg_v h247_z 189 0 = S := (yv 189 0 (by omega) (by omega)).trans eS
      replace hm_z : rn _ _ _ _ [] _ _ _ := hm_z
      replace hm_z := rn_iconst (w := 0) (am_cur_of (i := (35, 1, .iconst 0, (0, 0, 0), 0)) (by decide +kernel)) (by decide) hm_z
      replace hm_z := rn_istore_n (am_cur_of (i := (36, 1, .istore_n 3, (0, 0, 0), 0)) (by decide +kernel)) hm_z
      obtain ⟨_, s249_z, s250_z, g3_z, hm_z⟩ := hm_z
      replace g0_z := s249_z 0 _ (by decide) rfl g0_z
      replace g1_z := s249_z 1 _ (by decide) rfl g1_z
      replace g2_z := s249_z 2 _ (by decide) rfl g2_z
      clear s249_z s250_z
      obtain ⟨G, q1_z, q2_z, q3_z⟩ := sf_l209_1 H0 H9 p0_z p9_z m0_z m9_z _ m.toInt.toNat 0 F S _ _ C1 eF1 eS1 F0 F9 S0 (by omega) g0_z g1_z g2_z g3_z (by rw [z0_z]; omega) hm_z
      exact ⟨G, q1_z, q2_z, q3_z⟩
    · replace b245_z : (99999 : Int32).toInt < (S + m).toInt := b245_z
      replace hm_z := rn_iconst (w := (-1)) (am_cur_of (i := (29, 1, .iconst (-1), (0, 0, 0), 0)) (by decide +kernel)) (by decide) hm_z
      replace hm_z := rn_iret (am_cur_of (i := (30, 1, .ireturn, (0, 0, 0), 0)) (by decide +kernel)) hm_z
      obtain ⟨e251_z, e252_z⟩ := hm_z
      exfalso
      have sa := ab_iadd (x := S) (y := m) (by omega) (by omega)
      omega
theorem sf_l210_0 {p : Nat} {r : Option Value} {h0_z g' : am_H} {m Hd pf U ra re nl lk pt mo : Int32} (H0 : 0 ≤ Hd.toInt) (H9 : Hd.toInt ≤ 9999) (p0_z : 0 ≤ pf.toInt) (p9_z : pf.toInt ≤ 9999) (m0_z : 0 ≤ mo.toInt) (m9_z : mo.toInt ≤ 999) : ∀ (f k : Nat) (i F S : Int32) (ls : am_L) (g : am_H), mC p h0_z Hd pf U ra re nl lk pt mo g → rg_v g 188 0 = F → rg_v g 189 0 = S → 0 ≤ F.toInt → F.toInt ≤ 9999 → 0 ≤ S.toInt → S.toInt + k < 2147483647 → am_get ls 0 = some (.ref 164) → am_get ls 1 = some (.int m) → am_get ls 2 = some (.int i) → i.toInt + k = m.toInt → rn f am_m210 35 ls [] g r g' → ∃ G, gR (secZ p h0_z U Hd 1 pf mo 0) k F S G ∧ rg_v g' 188 0 = G ∧ r = some (.int G) := by
  intro f
  induction f with
  | zero => intro k i F S ls g C eF eS F0 F9 S0 S9 g0_z g1_z g2_z ik hm_z; exact absurd hm_z rn_0
  | succ f ih_z =>
    intro k i F S ls g C eF eS F0 F9 S0 S9 g0_z g1_z g2_z ik hm_z
    have n0e : (0 : Int32).toNatClampNeg = 0 := by decide
    have z0_z : (0 : Int32).toInt = 0 := by decide
    have z1_z : (1 : Int32).toInt = 1 := by decide
    replace hm_z := rn_iload_n (am_cur_of (i := (55, 1, .iload_n 2, (0, 0, 0), 0)) (by decide +kernel)) g2_z hm_z
    replace hm_z := rn_iload_n (am_cur_of (i := (56, 1, .iload_n 1, (0, 0, 0), 0)) (by decide +kernel)) g1_z hm_z
    replace hm_z := rn_cmp (am_cur_of (i := (57, 3, .if_icmp .ge 16, (45, 0, 0), 0)) (by decide +kernel)) hm_z
    rcases hm_z with ⟨b253_z, hm_z⟩ | ⟨b253_z, hm_z⟩
    · replace b253_z : m.toInt ≤ i.toInt := b253_z
      obtain rfl : k = 0 := by omega
      replace hm_z := rn_aload_n (am_cur_of (i := (73, 1, .aload_n 0, (0, 0, 0), 0)) (by decide +kernel)) g0_z hm_z
      replace hm_z := rn_getR (x := 194) (am_cur_of (i := (74, 3, .getfield 103, (12, 56, 1440), 0)) (by decide +kernel)) (by decide +kernel) hm_z
      replace hm_z := rn_iconst (w := 0) (am_cur_of (i := (77, 1, .iconst 0, (0, 0, 0), 0)) (by decide +kernel)) (by decide) hm_z
      replace hm_z := rn_dup2 (am_cur_of (i := (78, 1, .dup2, (0, 0, 0), 0)) (by decide +kernel)) hm_z
      replace hm_z := rn_iaload (N := 4) (q := 0) (v := rg_v g 194 0) (am_cur_of (i := (79, 1, .iaload, (0, 0, 0), 0)) (by decide +kernel)) (by decide +kernel) rfl rfl hm_z
      obtain ⟨p254_z, hm_z⟩ := hm_z
      replace hm_z := rn_iload_n (am_cur_of (i := (80, 1, .iload_n 1, (0, 0, 0), 0)) (by decide +kernel)) g1_z hm_z
      replace hm_z := rn_isub (w := (rg_v g 194 0) - m) (am_cur_of (i := (81, 1, .isub, (0, 0, 0), 0)) (by decide +kernel)) rfl hm_z
      replace hm_z := rn_iastore (N := 4) (q := 0) (am_cur_of (i := (82, 1, .iastore, (0, 0, 0), 0)) (by decide +kernel)) (by decide +kernel) rfl hm_z
      obtain ⟨p255_z, hm_z⟩ := hm_z
      replace hm_z := rn_aload_n (am_cur_of (i := (83, 1, .aload_n 0, (0, 0, 0), 0)) (by decide +kernel)) g0_z hm_z
      replace hm_z := rn_getR (x := 190) (am_cur_of (i := (84, 3, .getfield 91, (12, 52, 1436), 0)) (by decide +kernel)) (by decide +kernel) hm_z
      replace hm_z := rn_iconst (w := 0) (am_cur_of (i := (87, 1, .iconst 0, (0, 0, 0), 0)) (by decide +kernel)) (by decide) hm_z
      replace hm_z := rn_bipush (w := (-2)) (am_cur_of (i := (88, 2, .bipush (-2), (0, 0, 0), 0)) (by decide +kernel)) (by decide) hm_z
      replace hm_z := rn_iastore (N := 4) (q := 0) (am_cur_of (i := (90, 1, .iastore, (0, 0, 0), 0)) (by decide +kernel)) (by decide +kernel) rfl hm_z
      obtain ⟨p256_z, hm_z⟩ := hm_z
      replace hm_z := rn_aload_n (am_cur_of (i := (91, 1, .aload_n 0, (0, 0, 0), 0)) (by decide +kernel)) g0_z hm_z
      replace hm_z := rn_getR (x := 188) (am_cur_of (i := (92, 3, .getfield 85, (12, 50, 1434), 0)) (by decide +kernel)) (by decide +kernel) hm_z
      replace hm_z := rn_iconst (w := 0) (am_cur_of (i := (95, 1, .iconst 0, (0, 0, 0), 0)) (by decide +kernel)) (by decide) hm_z
      replace hm_z := rn_iaload (N := 4) (q := 0) (v := F) (am_cur_of (i := (96, 1, .iaload, (0, 0, 0), 0)) (by decide +kernel)) (by decide +kernel) rfl ((rg_v_other (by omega)).trans ((rg_v_other (by omega)).trans (eF))) hm_z
      obtain ⟨p257_z, hm_z⟩ := hm_z
      replace hm_z := rn_iret (am_cur_of (i := (97, 1, .ireturn, (0, 0, 0), 0)) (by decide +kernel)) hm_z
      obtain ⟨e258_z, e259_z⟩ := hm_z
      exact ⟨F, rfl, by rw [e259_z]; exact (rg_v_other (by omega)).trans ((rg_v_other (by omega)).trans (eF)), e258_z⟩
    · replace b253_z : i.toInt < m.toInt := b253_z
      obtain ⟨k, rfl⟩ : ∃ k2_z, k = k2_z + 1 := ⟨k - 1, by omega⟩
      have ci_z := fk_c1 b253_z
      have cs := ab_iadd (x := S) (y := 1) (by omega) (by omega)
      replace hm_z := rn_aload_n (am_cur_of (i := (60, 1, .aload_n 0, (0, 0, 0), 0)) (by decide +kernel)) g0_z hm_z
      replace hm_z := rn_iconst (w := 0) (am_cur_of (i := (61, 1, .iconst 0, (0, 0, 0), 0)) (by decide +kernel)) (by decide) hm_z
      replace hm_z := rn_iconst (w := 0) (am_cur_of (i := (62, 1, .iconst 0, (0, 0, 0), 0)) (by decide +kernel)) (by decide) hm_z
      replace hm_z := rn_iconst (w := 1) (am_cur_of (i := (63, 1, .iconst 1, (0, 0, 0), 0)) (by decide +kernel)) (by decide) hm_z
      replace hm_z := rn_callV (M' := am_m199) (o := 164) (ar := [.int 1, .int 0, .int 0]) (rest := []) (L := lv_args 0 [.ref 164, .int 0, .int 0, .int 1]) (am_cur_of (i := (64, 3, .invokevirtual 434, (199, 1828, 3), 0)) (by decide +kernel)) rfl rfl rfl rfl hm_z
      obtain ⟨r260_z, h261_z, q262_z, hm_z⟩ := hm_z
      have vo := rn_void rfl q262_z
      subst vo
      obtain ⟨c0_z, c1_z, c2_z, c3_z, c4_z, c5_z, c6_z, c7_z, c8_z, c9_z⟩ := C
      obtain ⟨x, xe, x1_z, x2_z, xf⟩ := as_199_0 (S := S) c0_z (by rw [n0e]; exact eF) (by rw [n0e]; exact eS) c1_z c2_z c3_z c4_z c5_z c6_z c7_z c8_z c9_z H0 H9 p0_z p9_z m0_z m9_z F0 (by omega) q262_z
      rw [n0e] at x1_z x2_z xf
      have C2 : mC p h0_z Hd pf U ra re nl lk pt mo h261_z := mC_e (fun o q e => xf o q (by unfold mQ2 at e; omega) (by unfold mQ2 at e; omega) (by unfold mQ2 at e; omega) (by unfold mQ2 at e; omega) (by unfold mQ2 at e; omega)) ⟨c0_z, c1_z, c2_z, c3_z, c4_z, c5_z, c6_z, c7_z, c8_z, c9_z⟩
      have zr := secZ_r (p := p) (h0_z := h0_z) (U := U) (pu := 1) (S := S) (o := 0) H0 H9 p0_z m0_z F0 F9 (by decide)
      rw [← xe] at zr
      replace hm_z : rn _ _ _ _ [] _ _ _ := hm_z
      replace hm_z := rn_iinc (w := i + 1) (am_cur_of (i := (67, 3, .iinc 2 1, (0, 0, 0), 0)) (by decide +kernel)) g2_z rfl hm_z
      obtain ⟨_, s263_z, s264_z, g2_z, hm_z⟩ := hm_z
      replace g0_z := s263_z 0 _ (by decide) rfl g0_z
      replace g1_z := s263_z 1 _ (by decide) rfl g1_z
      clear s263_z s264_z
      replace hm_z := rn_gotoL (am_cur_of (i := (70, 3, .goto (-15), (35, 0, 0), 0)) (by decide +kernel)) hm_z
      obtain ⟨G, q1_z, q2_z, q3_z⟩ := ih_z k (i + 1) x (S + 1) _ _ C2 x1_z x2_z zr.1 zr.2 (by omega) (by omega) g0_z g1_z g2_z (by omega) hm_z
      exact ⟨G, ⟨x, xe, q1_z⟩, q2_z, q3_z⟩
theorem sf_210_0 {n : Nat} {p : Nat} {r : Option Value} {h0_z g g' : am_H} {F S m Hd pf U ra re nl ls pt mo : Int32} {lf : Int32} (H0 : 0 ≤ Hd.toInt) (H9 : Hd.toInt ≤ 9999) (p0_z : 0 ≤ pf.toInt) (p9_z : pf.toInt ≤ 9999) (m0_z : 0 ≤ mo.toInt) (m9_z : mo.toInt ≤ 999) (C : mC p h0_z Hd pf U ra re nl ls pt mo g) (eF : rg_v g 188 0 = F) (eS : rg_v g 189 0 = S) (F0 : 0 ≤ F.toInt) (F9 : F.toInt ≤ 9999) (S0 : 0 ≤ S.toInt) (u0_z : 0 ≤ (rg_v g 164 77).toInt) (u20_z : (rg_v g 164 77).toInt ≤ 20) (v0_z : ¬ (rg_v g 168 2).toInt = 0) (v1_z : 1 ≤ m.toInt) (v2_z : m.toInt ≤ (rg_v g 194 0).toInt) (v3_z : S.toInt + m.toInt ≤ 99999) (eL : rg_v g 194 0 = lf) (hm_z : rn n am_m210 0 (lv_args 0 [.ref 164, .int m]) [] g r g') : ∃ G, gR (secZ p h0_z U Hd 1 pf mo 0) m.toInt.toNat F S G ∧ rg_v g' 188 0 = G ∧ r = some (.int G) := by
  have z0_z : (0 : Int32).toInt = 0 := by decide
  have z1_z : (1 : Int32).toInt = 1 := by decide
  have z999_z : (999 : Int32).toInt = 999 := by decide
  have z99999_z : (99999 : Int32).toInt = 99999 := by decide
  have g0_z : am_get (lv_args 0 [.ref 164, .int m]) 0 = some (.ref 164) := rfl
  have g1_z : am_get (lv_args 0 [.ref 164, .int m]) 1 = some (.int m) := rfl
  replace hm_z := rn_aload_n (am_cur_of (i := (0, 1, .aload_n 0, (0, 0, 0), 0)) (by decide +kernel)) g0_z hm_z
  replace hm_z := rn_iconst (w := 0) (am_cur_of (i := (1, 1, .iconst 0, (0, 0, 0), 0)) (by decide +kernel)) (by decide) hm_z
  replace hm_z := rn_put (am_cur_of (i := (2, 3, .putfield 139, (12, 2, 1386), 0)) (by decide +kernel)) (by decide +kernel) hm_z
  replace hm_z := rn_aload_n (am_cur_of (i := (5, 1, .aload_n 0, (0, 0, 0), 0)) (by decide +kernel)) g0_z hm_z
  replace hm_z := rn_getR (x := 168) (am_cur_of (i := (6, 3, .getfield 24, (12, 23, 1407), 0)) (by decide +kernel)) (by decide +kernel) hm_z
  replace hm_z := rn_iconst (w := 2) (am_cur_of (i := (9, 1, .iconst 2, (0, 0, 0), 0)) (by decide +kernel)) (by decide) hm_z
  replace hm_z := rn_iaload (N := 12) (q := 2) (v := rg_v g 168 2) (am_cur_of (i := (10, 1, .iaload, (0, 0, 0), 0)) (by decide +kernel)) (by decide +kernel) rfl ((rg_v_other (by omega)).trans (rfl)) hm_z
  obtain ⟨p265_z, hm_z⟩ := hm_z
  replace hm_z := rn_if (am_cur_of (i := (11, 3, .ifCond .eq 8, (11, 0, 0), 0)) (by decide +kernel)) hm_z
  rcases hm_z with ⟨b266_z, hm_z⟩ | ⟨b266_z, hm_z⟩
  · replace b266_z : (rg_v g 168 2) = (0 : Int32) ∧ (rg_v g 168 2).toInt = (0 : Int32).toInt := b266_z
    have zq := b266_z.2
    replace hm_z := rn_iconst (w := (-1)) (am_cur_of (i := (19, 1, .iconst (-1), (0, 0, 0), 0)) (by decide +kernel)) (by decide) hm_z
    replace hm_z := rn_iret (am_cur_of (i := (20, 1, .ireturn, (0, 0, 0), 0)) (by decide +kernel)) hm_z
    obtain ⟨e267_z, e268_z⟩ := hm_z
    exfalso
    have sa := ab_iadd (x := S) (y := m) (by omega) (by omega)
    omega
  · replace b266_z : ¬ (rg_v g 168 2) = (0 : Int32) ∧ ¬ (rg_v g 168 2).toInt = (0 : Int32).toInt := b266_z
    replace hm_z := rn_iload_n (am_cur_of (i := (14, 1, .iload_n 1, (0, 0, 0), 0)) (by decide +kernel)) g1_z hm_z
    replace hm_z := rn_iconst (w := 1) (am_cur_of (i := (15, 1, .iconst 1, (0, 0, 0), 0)) (by decide +kernel)) (by decide) hm_z
    replace hm_z := rn_cmp (am_cur_of (i := (16, 3, .if_icmp .ge 5, (13, 0, 0), 0)) (by decide +kernel)) hm_z
    rcases hm_z with ⟨b269_z, hm_z⟩ | ⟨b269_z, hm_z⟩
    · replace b269_z : (1 : Int32).toInt ≤ m.toInt := b269_z
      replace hm_z := rn_iload_n (am_cur_of (i := (21, 1, .iload_n 1, (0, 0, 0), 0)) (by decide +kernel)) g1_z hm_z
      replace hm_z := rn_aload_n (am_cur_of (i := (22, 1, .aload_n 0, (0, 0, 0), 0)) (by decide +kernel)) g0_z hm_z
      replace hm_z := rn_getR (x := 194) (am_cur_of (i := (23, 3, .getfield 103, (12, 56, 1440), 0)) (by decide +kernel)) (by decide +kernel) hm_z
      replace hm_z := rn_iconst (w := 0) (am_cur_of (i := (26, 1, .iconst 0, (0, 0, 0), 0)) (by decide +kernel)) (by decide) hm_z
      replace hm_z := rn_iaload (N := 4) (q := 0) (v := lf) (am_cur_of (i := (27, 1, .iaload, (0, 0, 0), 0)) (by decide +kernel)) (by decide +kernel) rfl ((rg_v_other (by omega)).trans (eL)) hm_z
      obtain ⟨p270_z, hm_z⟩ := hm_z
      replace hm_z := rn_cmp (am_cur_of (i := (28, 3, .if_icmp .le 6, (21, 0, 0), 0)) (by decide +kernel)) hm_z
      rcases hm_z with ⟨b271_z, hm_z⟩ | ⟨b271_z, hm_z⟩
      · replace b271_z : m.toInt ≤ lf.toInt := b271_z
        replace hm_z := rn_aload_n (am_cur_of (i := (34, 1, .aload_n 0, (0, 0, 0), 0)) (by decide +kernel)) g0_z hm_z
        replace hm_z := rn_getR (x := 189) (am_cur_of (i := (35, 3, .getfield 88, (12, 51, 1435), 0)) (by decide +kernel)) (by decide +kernel) hm_z
        replace hm_z := rn_iconst (w := 0) (am_cur_of (i := (38, 1, .iconst 0, (0, 0, 0), 0)) (by decide +kernel)) (by decide) hm_z
        replace hm_z := rn_iaload (N := 4) (q := 0) (v := S) (am_cur_of (i := (39, 1, .iaload, (0, 0, 0), 0)) (by decide +kernel)) (by decide +kernel) rfl ((rg_v_other (by omega)).trans (eS)) hm_z
        obtain ⟨p272_z, hm_z⟩ := hm_z
        replace hm_z := rn_iload_n (am_cur_of (i := (40, 1, .iload_n 1, (0, 0, 0), 0)) (by decide +kernel)) g1_z hm_z
        replace hm_z := rn_iadd (w := S + m) (am_cur_of (i := (41, 1, .iadd, (0, 0, 0), 0)) (by decide +kernel)) rfl hm_z
        replace hm_z := rn_ldc (w := 99999) (am_cur_of (i := (42, 2, .ldc 177, (0, 0, 1656), 99999)) (by decide +kernel)) (by decide) hm_z
        replace hm_z := rn_cmp (am_cur_of (i := (44, 3, .if_icmp .le 5, (31, 0, 0), 0)) (by decide +kernel)) hm_z
        rcases hm_z with ⟨b273_z, hm_z⟩ | ⟨b273_z, hm_z⟩
        · replace b273_z : (S + m).toInt ≤ (99999 : Int32).toInt := b273_z
          replace hm_z := rn_aload_n (am_cur_of (i := (49, 1, .aload_n 0, (0, 0, 0), 0)) (by decide +kernel)) g0_z hm_z
          replace hm_z := rn_callV (M' := am_m207) (o := 164) (ar := []) (rest := []) (L := lv_args 0 [.ref 164]) (am_cur_of (i := (50, 3, .invokevirtual 444, (207, 1859, 3), 0)) (by decide +kernel)) rfl rfl rfl rfl hm_z
          obtain ⟨r274_z, h275_z, q276_z, hm_z⟩ := hm_z
          have vo := rn_void rfl q276_z
          subst vo
          obtain ⟨-, -, -, -, y5_z⟩ := rm_207 rfl u0_z u20_z q276_z
          have yf : ∀ o q, ¬ o = 200 → ¬ (o = 164 ∧ (q = 77 ∨ q = 2)) → h275_z o q = g o q := fun o q a b => (y5_z o q a (by omega)).trans ((up_ne (by omega)).trans (rfl))
          have yv : ∀ o q, ¬ o = 200 → ¬ (o = 164 ∧ (q = 77 ∨ q = 2)) → rg_v h275_z o q = rg_v g o q := fun o q a b => lw_v (yf o q a b)
          have C1 : mC p h0_z Hd pf U ra re nl ls pt mo h275_z := by
            obtain ⟨c0_z, c1_z, c2_z, c3_z, c4_z, c5_z, c6_z, c7_z, c8_z, c9_z⟩ := C
            refine ⟨LW_e (fun _ _ _ _ => rfl) (fun o q x => yv o q (by unfold lwQ at x; omega) (by unfold lwQ at x; omega)) c0_z, (yv 168 0 (by omega) (by omega)).trans c1_z, (yv 168 2 (by omega) (by omega)).trans c2_z, (yv 164 61 (by omega) (by omega)).trans c3_z, (yv 164 62 (by omega) (by omega)).trans c4_z, (yv 164 58 (by omega) (by omega)).trans c5_z, (yv 164 60 (by omega) (by omega)).trans c6_z, (yv 164 14 (by omega) (by omega)).trans c7_z, (yv 164 57 (by omega) (by omega)).trans c8_z, ?_⟩
            rw [show (fun q => rg_v h275_z 174 q) = (fun q => rg_v g 174 q) from funext (fun q => yv 174 q (by omega) (by omega))]
            exact c9_z
          have eF1 : rg_v h275_z 188 0 = F := (yv 188 0 (by omega) (by omega)).trans eF
          have eS1 : rg_v h275_z 189 0 = S := (yv 189 0 (by omega) (by omega)).trans eS
          replace hm_z : rn _ _ _ _ [] _ _ _ := hm_z
          replace hm_z := rn_iconst (w := 0) (am_cur_of (i := (53, 1, .iconst 0, (0, 0, 0), 0)) (by decide +kernel)) (by decide) hm_z
          replace hm_z := rn_istore_n (am_cur_of (i := (54, 1, .istore_n 2, (0, 0, 0), 0)) (by decide +kernel)) hm_z
          obtain ⟨_, s277_z, s278_z, g2_z, hm_z⟩ := hm_z
          replace g0_z := s277_z 0 _ (by decide) rfl g0_z
          replace g1_z := s277_z 1 _ (by decide) rfl g1_z
          clear s277_z s278_z
          obtain ⟨G, q1_z, q2_z, q3_z⟩ := sf_l210_0 H0 H9 p0_z p9_z m0_z m9_z _ m.toInt.toNat 0 F S _ _ C1 eF1 eS1 F0 F9 S0 (by omega) g0_z g1_z g2_z (by rw [z0_z]; omega) hm_z
          exact ⟨G, q1_z, q2_z, q3_z⟩
        · replace b273_z : (99999 : Int32).toInt < (S + m).toInt := b273_z
          replace hm_z := rn_iconst (w := (-1)) (am_cur_of (i := (47, 1, .iconst (-1), (0, 0, 0), 0)) (by decide +kernel)) (by decide) hm_z
          replace hm_z := rn_iret (am_cur_of (i := (48, 1, .ireturn, (0, 0, 0), 0)) (by decide +kernel)) hm_z
          obtain ⟨e279_z, e280_z⟩ := hm_z
          exfalso
          have sa := ab_iadd (x := S) (y := m) (by omega) (by omega)
          omega
      · replace b271_z : lf.toInt < m.toInt := b271_z
        replace hm_z := rn_bipush (w := (-2)) (am_cur_of (i := (31, 2, .bipush (-2), (0, 0, 0), 0)) (by decide +kernel)) (by decide) hm_z
        replace hm_z := rn_iret (am_cur_of (i := (33, 1, .ireturn, (0, 0, 0), 0)) (by decide +kernel)) hm_z
        obtain ⟨e281_z, e282_z⟩ := hm_z
        exfalso
        have sa := ab_iadd (x := S) (y := m) (by omega) (by omega)
        omega
    · replace b269_z : m.toInt < (1 : Int32).toInt := b269_z
      replace hm_z := rn_iconst (w := (-1)) (am_cur_of (i := (19, 1, .iconst (-1), (0, 0, 0), 0)) (by decide +kernel)) (by decide) hm_z
      replace hm_z := rn_iret (am_cur_of (i := (20, 1, .ireturn, (0, 0, 0), 0)) (by decide +kernel)) hm_z
      obtain ⟨e283_z, e284_z⟩ := hm_z
      exfalso
      have sa := ab_iadd (x := S) (y := m) (by omega) (by omega)
      omega
