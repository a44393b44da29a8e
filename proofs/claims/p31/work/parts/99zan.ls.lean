set_option maxHeartbeats 400000
/-! ===== lasts OF THE MODEL (wip/r/gen99sq.py) ===== -/
theorem lb_l {p : Nat} {h0_z : am_H} {Hd pf U ra re nl lk pt mo : Int32} {r : Option Value} {g' : am_H} {bd ms : Int32} (H0 : 0 ≤ Hd.toInt) (H9 : Hd.toInt ≤ 9999) (p0_z : 0 ≤ pf.toInt) (p9_z : pf.toInt ≤ 9999) (m0_z : 0 ≤ mo.toInt) (m9_z : mo.toInt ≤ 999) : ∀ (f k : Nat) (i F S : Int32) (ls : am_L) (g : am_H), mC p h0_z Hd pf U ra re nl lk pt mo g → rg_v g 188 1 = F → rg_v g 189 1 = S → 0 ≤ F.toInt → F.toInt ≤ 9999 → 0 ≤ S.toInt → S.toInt + k < 2147483647 → am_get ls 0 = some (.ref 164) → am_get ls 2 = some (.int bd) → am_get ls 3 = some (.int ms) → am_get ls 4 = some (.int i) → i.toInt + k = ms.toInt → rn f am_m224 11 ls [] g r g' → ∃ (n : Nat) (x : Int32), lA (secZ p h0_z U Hd 0 pf mo 0) bd.toInt k F S n ∧ r = some (.int x) ∧ x.toInt = i.toInt + n ∧ (∀ o q, mQ2 o q → ¬ (191 ≤ o ∧ o ≤ 193) → g' o q = g o q) := by
  intro f
  induction f with
  | zero => intro k i F S ls g C eF eS F0 F9 S0 S9 g0_z g2_z g3_z g4_z ik hm_z; exact absurd hm_z rn_0
  | succ f ih_z =>
    intro k i F S ls g C eF eS F0 F9 S0 S9 g0_z g2_z g3_z g4_z ik hm_z
    have n1e : (1 : Int32).toNatClampNeg = 1 := by decide
    have z0_z : (0 : Int32).toInt = 0 := by decide
    have z1_z : (1 : Int32).toInt = 1 := by decide
    replace hm_z := rn_iload (am_cur_of (i := (16, 2, .iload 4, (0, 0, 0), 0)) (by decide +kernel)) g4_z hm_z
    replace hm_z := rn_iload_n (am_cur_of (i := (18, 1, .iload_n 3, (0, 0, 0), 0)) (by decide +kernel)) g3_z hm_z
    replace hm_z := rn_cmp (am_cur_of (i := (19, 3, .if_icmp .ge 26, (27, 0, 0), 0)) (by decide +kernel)) hm_z
    rcases hm_z with ⟨b197_z, hm_z⟩ | ⟨b197_z, hm_z⟩
    · replace b197_z : ms.toInt ≤ i.toInt := b197_z
      obtain rfl : k = 0 := by omega
      replace hm_z := rn_iload (am_cur_of (i := (45, 2, .iload 4, (0, 0, 0), 0)) (by decide +kernel)) g4_z hm_z
      replace hm_z := rn_iret (am_cur_of (i := (47, 1, .ireturn, (0, 0, 0), 0)) (by decide +kernel)) hm_z
      obtain ⟨e198_z, e199_z⟩ := hm_z
      exact ⟨0, i, rfl, e198_z, by omega, fun o q _ _ => by rw [e199_z]⟩
    · replace b197_z : i.toInt < ms.toInt := b197_z
      obtain ⟨k, rfl⟩ : ∃ k2_z, k = k2_z + 1 := ⟨k - 1, by omega⟩
      have ci_z := fk_c1 b197_z
      have cs := ab_iadd (x := S) (y := 1) (by omega) (by omega)
      replace hm_z := rn_aload_n (am_cur_of (i := (22, 1, .aload_n 0, (0, 0, 0), 0)) (by decide +kernel)) g0_z hm_z
      replace hm_z := rn_getR (x := 188) (am_cur_of (i := (23, 3, .getfield 85, (12, 50, 1434), 0)) (by decide +kernel)) (by decide +kernel) hm_z
      replace hm_z := rn_iconst (w := 1) (am_cur_of (i := (26, 1, .iconst 1, (0, 0, 0), 0)) (by decide +kernel)) (by decide) hm_z
      replace hm_z := rn_iaload (N := 4) (q := 1) (v := F) (am_cur_of (i := (27, 1, .iaload, (0, 0, 0), 0)) (by decide +kernel)) (by decide +kernel) rfl eF hm_z
      obtain ⟨p200_z, hm_z⟩ := hm_z
      replace hm_z := rn_iload_n (am_cur_of (i := (28, 1, .iload_n 2, (0, 0, 0), 0)) (by decide +kernel)) g2_z hm_z
      replace hm_z := rn_cmp (am_cur_of (i := (29, 3, .if_icmp .lt 16, (27, 0, 0), 0)) (by decide +kernel)) hm_z
      rcases hm_z with ⟨b201_z, hm_z⟩ | ⟨b201_z, hm_z⟩
      · replace b201_z : F.toInt < bd.toInt := b201_z
        replace hm_z := rn_iload (am_cur_of (i := (45, 2, .iload 4, (0, 0, 0), 0)) (by decide +kernel)) g4_z hm_z
        replace hm_z := rn_iret (am_cur_of (i := (47, 1, .ireturn, (0, 0, 0), 0)) (by decide +kernel)) hm_z
        obtain ⟨e202_z, e203_z⟩ := hm_z
        exact ⟨0, i, Or.inl ⟨by omega, rfl⟩, e202_z, by omega, fun o q _ _ => by rw [e203_z]⟩
      · replace b201_z : bd.toInt ≤ F.toInt := b201_z
        replace hm_z := rn_aload_n (am_cur_of (i := (32, 1, .aload_n 0, (0, 0, 0), 0)) (by decide +kernel)) g0_z hm_z
        replace hm_z := rn_iconst (w := 1) (am_cur_of (i := (33, 1, .iconst 1, (0, 0, 0), 0)) (by decide +kernel)) (by decide) hm_z
        replace hm_z := rn_iconst (w := 0) (am_cur_of (i := (34, 1, .iconst 0, (0, 0, 0), 0)) (by decide +kernel)) (by decide) hm_z
        replace hm_z := rn_iconst (w := 0) (am_cur_of (i := (35, 1, .iconst 0, (0, 0, 0), 0)) (by decide +kernel)) (by decide) hm_z
        replace hm_z := rn_callV (M' := am_m199) (o := 164) (ar := [.int 0, .int 0, .int 1]) (rest := []) (L := lv_args 0 [.ref 164, .int 1, .int 0, .int 0]) (am_cur_of (i := (36, 3, .invokevirtual 434, (199, 1828, 3), 0)) (by decide +kernel)) rfl rfl rfl rfl hm_z
        obtain ⟨r204_z, h205_z, q206_z, hm_z⟩ := hm_z
        have vo := rn_void rfl q206_z
        subst vo
        have CC := C
        obtain ⟨c0_z, c1_z, c2_z, c3_z, c4_z, c5_z, c6_z, c7_z, c8_z, c9_z⟩ := C
        obtain ⟨x, xe, x1_z, x2_z, xf⟩ := as_199_0 (S := S) c0_z (by rw [n1e]; exact eF) (by rw [n1e]; exact eS) c1_z c2_z c3_z c4_z c5_z c6_z c7_z c8_z c9_z H0 H9 p0_z p9_z m0_z m9_z F0 (by omega) q206_z
        rw [n1e] at x1_z x2_z xf
        have C2 : mC p h0_z Hd pf U ra re nl lk pt mo h205_z := mC_e (fun o q e => xf o q (by unfold mQ2 at e; omega) (by unfold mQ2 at e; omega) (by unfold mQ2 at e; omega) (by unfold mQ2 at e; omega) (by unfold mQ2 at e; omega)) CC
        have zr := secZ_r (p := p) (h0_z := h0_z) (U := U) (pu := 0) (S := S) (o := 0) H0 H9 p0_z m0_z F0 F9 (by decide)
        rw [← xe] at zr
        replace hm_z : rn _ _ _ _ [] _ _ _ := hm_z
        replace hm_z := rn_iinc (w := i + 1) (am_cur_of (i := (39, 3, .iinc 4 1, (0, 0, 0), 0)) (by decide +kernel)) g4_z rfl hm_z
        obtain ⟨_, s207_z, s208_z, g4_z, hm_z⟩ := hm_z
        replace g0_z := s207_z 0 _ (by decide) rfl g0_z
        replace g2_z := s207_z 2 _ (by decide) rfl g2_z
        replace g3_z := s207_z 3 _ (by decide) rfl g3_z
        clear s207_z s208_z
        replace hm_z := rn_gotoL (am_cur_of (i := (42, 3, .goto (-26), (11, 0, 0), 0)) (by decide +kernel)) hm_z
        obtain ⟨n, y, q1_z, q2_z, q3_z, q4_z⟩ := ih_z k (i + 1) x (S + 1) _ _ C2 x1_z x2_z zr.1 zr.2 (by omega) (by omega) g0_z g2_z g3_z g4_z (by omega) hm_z
        exact ⟨n + 1, y, Or.inr ⟨by omega, x, n, xe, q1_z, rfl⟩, q2_z, by omega, fun o q e e2_z => (q4_z o q e e2_z).trans (xf o q (by unfold mQ2 at e; omega) (by unfold mQ2 at e; omega) (by unfold mQ2 at e; omega) (by unfold mQ2 at e; omega) (by unfold mQ2 at e; omega))⟩
theorem bB_f {b o q : Nat} (h : ¬ (188 ≤ o ∧ o ≤ 194)) : bB b o q = false := by
  unfold bB
  split
  · omega
  · omega
  · omega
  · omega
  · omega
  · omega
  · omega
  · rfl
theorem mC_f {p : Nat} {h0_z g g' : am_H} {Hd pf U ra re nl ls pt mo : Int32} (e : ∀ o q, mQ2 o q → ¬ (191 ≤ o ∧ o ≤ 193) → g' o q = g o q) (c : mC p h0_z Hd pf U ra re nl ls pt mo g) : mC p h0_z Hd pf U ra re nl ls pt mo g' := by
  obtain ⟨c0_z, c1_z, c2_z, c3_z, c4_z, c5_z, c6_z, c7_z, c8_z, c9_z⟩ := c
  refine ⟨LW_e (fun _ _ _ _ => rfl) (fun o q x => lw_v (e o q (by unfold lwQ at x; unfold mQ2; omega) (by unfold lwQ at x; omega))) c0_z, (lw_v (e 168 0 (by unfold mQ2; omega) (by omega))).trans c1_z, (lw_v (e 168 2 (by unfold mQ2; omega) (by omega))).trans c2_z, (lw_v (e 164 61 (by unfold mQ2; omega) (by omega))).trans c3_z, (lw_v (e 164 62 (by unfold mQ2; omega) (by omega))).trans c4_z, (lw_v (e 164 58 (by unfold mQ2; omega) (by omega))).trans c5_z, (lw_v (e 164 60 (by unfold mQ2; omega) (by omega))).trans c6_z, (lw_v (e 164 14 (by unfold mQ2; omega) (by omega))).trans c7_z, (lw_v (e 164 57 (by unfold mQ2; omega) (by omega))).trans c8_z, ?_⟩
  rw [show (fun q => rg_v g' 174 q) = (fun q => rg_v g 174 q) from funext (fun q => lw_v (e 174 q (by unfold mQ2; omega) (by omega)))]
  exact c9_z
theorem lb_224 {n : Nat} {p : Nat} {h0_z : am_H} {Hd pf U ra re nl lk pt mo : Int32} {r : Option Value} {g g' : am_H} {fr bd ms : Int32} (H0 : 0 ≤ Hd.toInt) (H9 : Hd.toInt ≤ 9999) (p0_z : 0 ≤ pf.toInt) (p9_z : pf.toInt ≤ 9999) (m0_z : 0 ≤ mo.toInt) (m9_z : mo.toInt ≤ 999) (C : mC p h0_z Hd pf U ra re nl lk pt mo g) (F0 : 0 ≤ fr.toInt) (F9 : fr.toInt ≤ 9999) (ms0_z : 0 ≤ ms.toInt) (ms9_z : ms.toInt ≤ 9999) (S0 : 0 ≤ (rg_v g 189 0).toInt) (S9 : (rg_v g 189 0).toInt ≤ 99999) (hm_z : rn n am_m224 0 (lv_args 0 [.ref 164, .int fr, .int bd, .int ms]) [] g r g') : ∃ (n : Nat) (x : Int32), lA (secZ p h0_z U Hd 0 pf mo 0) bd.toInt ms.toInt.toNat fr (rg_v g 189 0) n ∧ r = some (.int x) ∧ x.toInt = n ∧ (∀ o q, mQ2 o q → ¬ (191 ≤ o ∧ o ≤ 193) → g' o q = g o q) := by
  have z0_z : (0 : Int32).toInt = 0 := by decide
  have g0_z : am_get (lv_args 0 [.ref 164, .int fr, .int bd, .int ms]) 0 = some (.ref 164) := rfl
  have g1_z : am_get (lv_args 0 [.ref 164, .int fr, .int bd, .int ms]) 1 = some (.int fr) := rfl
  have g2_z : am_get (lv_args 0 [.ref 164, .int fr, .int bd, .int ms]) 2 = some (.int bd) := rfl
  have g3_z : am_get (lv_args 0 [.ref 164, .int fr, .int bd, .int ms]) 3 = some (.int ms) := rfl
  replace hm_z := rn_aload_n (am_cur_of (i := (0, 1, .aload_n 0, (0, 0, 0), 0)) (by decide +kernel)) g0_z hm_z
  replace hm_z := rn_iconst (w := 1) (am_cur_of (i := (1, 1, .iconst 1, (0, 0, 0), 0)) (by decide +kernel)) (by decide) hm_z
  replace hm_z := rn_iconst (w := 0) (am_cur_of (i := (2, 1, .iconst 0, (0, 0, 0), 0)) (by decide +kernel)) (by decide) hm_z
  replace hm_z := rn_callV (M' := am_m197) (o := 164) (ar := [.int 0, .int 1]) (rest := []) (L := lv_args 0 [.ref 164, .int 1, .int 0]) (am_cur_of (i := (3, 3, .invokevirtual 428, (197, 1820, 3), 0)) (by decide +kernel)) rfl rfl rfl rfl hm_z
  obtain ⟨r209_z, h210_z, q211_z, hm_z⟩ := hm_z
  have vo := rn_void rfl q211_z
  subst vo
  obtain ⟨c1_z, c2_z⟩ := cb_197_10 q211_z
  have cf_z : ∀ o q, mQ2 o q → ¬ (191 ≤ o ∧ o ≤ 193) → h210_z o q = g o q := fun o q e e2_z => c2_z o q (bB_f (by unfold mQ2 at e; omega))
  have eS : rg_v h210_z 189 1 = rg_v g 189 0 := c1_z 1 (by decide)
  replace hm_z : rn _ _ _ _ [] _ _ _ := hm_z
  replace hm_z := rn_aload_n (am_cur_of (i := (6, 1, .aload_n 0, (0, 0, 0), 0)) (by decide +kernel)) g0_z hm_z
  replace hm_z := rn_getR (x := 188) (am_cur_of (i := (7, 3, .getfield 85, (12, 50, 1434), 0)) (by decide +kernel)) (by decide +kernel) hm_z
  replace hm_z := rn_iconst (w := 1) (am_cur_of (i := (10, 1, .iconst 1, (0, 0, 0), 0)) (by decide +kernel)) (by decide) hm_z
  replace hm_z := rn_iload_n (am_cur_of (i := (11, 1, .iload_n 1, (0, 0, 0), 0)) (by decide +kernel)) g1_z hm_z
  replace hm_z := rn_iastore (N := 4) (q := 1) (am_cur_of (i := (12, 1, .iastore, (0, 0, 0), 0)) (by decide +kernel)) (by decide +kernel) rfl hm_z
  obtain ⟨p212_z, hm_z⟩ := hm_z
  replace hm_z := rn_iconst (w := 0) (am_cur_of (i := (13, 1, .iconst 0, (0, 0, 0), 0)) (by decide +kernel)) (by decide) hm_z
  replace hm_z := rn_istore (am_cur_of (i := (14, 2, .istore 4, (0, 0, 0), 0)) (by decide +kernel)) hm_z
  obtain ⟨_, s213_z, s214_z, g4_z, hm_z⟩ := hm_z
  replace g0_z := s213_z 0 _ (by decide) rfl g0_z
  replace g1_z := s213_z 1 _ (by decide) rfl g1_z
  replace g2_z := s213_z 2 _ (by decide) rfl g2_z
  replace g3_z := s213_z 3 _ (by decide) rfl g3_z
  clear s213_z s214_z
  have C2 : mC p h0_z Hd pf U ra re nl lk pt mo (am_up h210_z 188 1 (.int fr)) := mC_f (fun o q e e2_z => (up_ne (by unfold mQ2 at e; omega)).trans (cf_z o q e e2_z)) C
  obtain ⟨n, x, q1_z, q2_z, q3_z, q4_z⟩ := lb_l H0 H9 p0_z p9_z m0_z m9_z _ ms.toInt.toNat 0 fr (rg_v g 189 0) _ _ C2 rg_v_self ((rg_v_other (by omega)).trans eS) F0 F9 S0 (by omega) g0_z g2_z g3_z g4_z (by omega) hm_z
  exact ⟨n, x, q1_z, q2_z, by omega, fun o q e e2_z => (q4_z o q e e2_z).trans ((up_ne (by unfold mQ2 at e; omega)).trans (cf_z o q e e2_z))⟩
theorem sl_162 {n : Nat} {h h' : am_H} {r : Option Value} {x : Int32} {y : Int32} {z : Int32}  (hc_z : rn n am_m162 0 (lv_args 0 [.int x, .int y, .int z]) [] h r h') : ((x.toInt < y.toInt) ∧ r = some (.int 0) ∧ h' = h) ∨ ((y.toInt ≤ x.toInt) ∧ (z.toInt < x.toInt) ∧ r = some (.int 0) ∧ h' = h) ∨ ((y.toInt ≤ x.toInt) ∧ (x.toInt ≤ z.toInt) ∧ r = some (.int 1) ∧ h' = h) := by
  have g0_z : am_get (lv_args 0 [.int x, .int y, .int z]) 0 = some (.int x) := rfl
  have g1_z : am_get (lv_args 0 [.int x, .int y, .int z]) 1 = some (.int y) := rfl
  have g2_z : am_get (lv_args 0 [.int x, .int y, .int z]) 2 = some (.int z) := rfl
  replace hc_z := rn_iload_n (am_cur_of (i := (0, 1, .iload_n 0, (0, 0, 0), 0)) (by decide +kernel)) g0_z hc_z
  replace hc_z := rn_iload_n (am_cur_of (i := (1, 1, .iload_n 1, (0, 0, 0), 0)) (by decide +kernel)) g1_z hc_z
  replace hc_z := rn_cmp (am_cur_of (i := (2, 3, .if_icmp .lt 12, (8, 0, 0), 0)) (by decide +kernel)) hc_z
  rcases hc_z with ⟨b215_z, hc_z⟩ | ⟨b215_z, hc_z⟩
  · replace b215_z : x.toInt < y.toInt := b215_z
    replace hc_z := rn_iconst (w := 0) (am_cur_of (i := (14, 1, .iconst 0, (0, 0, 0), 0)) (by decide +kernel)) (by decide) hc_z
    replace hc_z := rn_iret (am_cur_of (i := (15, 1, .ireturn, (0, 0, 0), 0)) (by decide +kernel)) hc_z
    obtain ⟨e216_z, e217_z⟩ := hc_z
    exact Or.inl ⟨b215_z, e216_z, e217_z⟩
  · replace b215_z : y.toInt ≤ x.toInt := b215_z
    replace hc_z := rn_iload_n (am_cur_of (i := (5, 1, .iload_n 0, (0, 0, 0), 0)) (by decide +kernel)) g0_z hc_z
    replace hc_z := rn_iload_n (am_cur_of (i := (6, 1, .iload_n 2, (0, 0, 0), 0)) (by decide +kernel)) g2_z hc_z
    replace hc_z := rn_cmp (am_cur_of (i := (7, 3, .if_icmp .gt 7, (8, 0, 0), 0)) (by decide +kernel)) hc_z
    rcases hc_z with ⟨b218_z, hc_z⟩ | ⟨b218_z, hc_z⟩
    · replace b218_z : z.toInt < x.toInt := b218_z
      replace hc_z := rn_iconst (w := 0) (am_cur_of (i := (14, 1, .iconst 0, (0, 0, 0), 0)) (by decide +kernel)) (by decide) hc_z
      replace hc_z := rn_iret (am_cur_of (i := (15, 1, .ireturn, (0, 0, 0), 0)) (by decide +kernel)) hc_z
      obtain ⟨e219_z, e220_z⟩ := hc_z
      exact Or.inr (Or.inl ⟨b215_z, b218_z, e219_z, e220_z⟩)
    · replace b218_z : x.toInt ≤ z.toInt := b218_z
      replace hc_z := rn_iconst (w := 1) (am_cur_of (i := (10, 1, .iconst 1, (0, 0, 0), 0)) (by decide +kernel)) (by decide) hc_z
      replace hc_z := rn_goto (am_cur_of (i := (11, 3, .goto 4, (9, 0, 0), 0)) (by decide +kernel)) hc_z
      replace hc_z := rn_iret (am_cur_of (i := (15, 1, .ireturn, (0, 0, 0), 0)) (by decide +kernel)) hc_z
      obtain ⟨e221_z, e222_z⟩ := hc_z
      exact Or.inr (Or.inr (⟨b215_z, b218_z, e221_z, e222_z⟩))
theorem ml_223 {n : Nat} {p : Nat} {h0_z : am_H} {Hd pf U ra re nl lk pt mo : Int32} {r : Option Value} {g g' : am_H} {fr bd : Int32} (H0 : 0 ≤ Hd.toInt) (H9 : Hd.toInt ≤ 9999) (p0_z : 0 ≤ pf.toInt) (p9_z : pf.toInt ≤ 9999) (m0_z : 0 ≤ mo.toInt) (m9_z : mo.toInt ≤ 999) (C : mC p h0_z Hd pf U ra re nl lk pt mo g) (eH : rg_v g 168 0 = Hd) (S0 : 0 ≤ (rg_v g 189 0).toInt) (S9 : (rg_v g 189 0).toInt ≤ 99999) (hm_z : rn n am_m223 0 (lv_args 0 [.ref 164, .int fr, .int bd]) [] g r g') : (¬ (0 ≤ fr.toInt ∧ fr.toInt ≤ Hd.toInt ∧ 0 ≤ bd.toInt ∧ bd.toInt ≤ 9999) ∧ r = some (.int (-1))) ∨ ((0 ≤ fr.toInt ∧ fr.toInt ≤ Hd.toInt ∧ 0 ≤ bd.toInt ∧ bd.toInt ≤ 9999) ∧ ∃ (n : Nat) (x : Int32), lA (secZ p h0_z U Hd 0 pf mo 0) bd.toInt 3600 fr (rg_v g 189 0) n ∧ r = some (.int x) ∧ x.toInt = n) := by
  have z0_z : (0 : Int32).toInt = 0 := by decide
  have z3600_z : (3600 : Int32).toInt = 3600 := by decide
  have z9999_z : (9999 : Int32).toInt = 9999 := by decide
  have g0_z : am_get (lv_args 0 [.ref 164, .int fr, .int bd]) 0 = some (.ref 164) := rfl
  have g1_z : am_get (lv_args 0 [.ref 164, .int fr, .int bd]) 1 = some (.int fr) := rfl
  have g2_z : am_get (lv_args 0 [.ref 164, .int fr, .int bd]) 2 = some (.int bd) := rfl
  replace hm_z := rn_aload_n (am_cur_of (i := (0, 1, .aload_n 0, (0, 0, 0), 0)) (by decide +kernel)) g0_z hm_z
  replace hm_z := rn_iconst (w := 0) (am_cur_of (i := (1, 1, .iconst 0, (0, 0, 0), 0)) (by decide +kernel)) (by decide) hm_z
  replace hm_z := rn_put (am_cur_of (i := (2, 3, .putfield 139, (12, 2, 1386), 0)) (by decide +kernel)) (by decide +kernel) hm_z
  replace hm_z := rn_iload_n (am_cur_of (i := (5, 1, .iload_n 1, (0, 0, 0), 0)) (by decide +kernel)) g1_z hm_z
  replace hm_z := rn_iconst (w := 0) (am_cur_of (i := (6, 1, .iconst 0, (0, 0, 0), 0)) (by decide +kernel)) (by decide) hm_z
  replace hm_z := rn_aload_n (am_cur_of (i := (7, 1, .aload_n 0, (0, 0, 0), 0)) (by decide +kernel)) g0_z hm_z
  replace hm_z := rn_getR (x := 168) (am_cur_of (i := (8, 3, .getfield 24, (12, 23, 1407), 0)) (by decide +kernel)) (by decide +kernel) hm_z
  replace hm_z := rn_iconst (w := 0) (am_cur_of (i := (11, 1, .iconst 0, (0, 0, 0), 0)) (by decide +kernel)) (by decide) hm_z
  replace hm_z := rn_iaload (N := 12) (q := 0) (v := Hd) (am_cur_of (i := (12, 1, .iaload, (0, 0, 0), 0)) (by decide +kernel)) (by decide +kernel) rfl ((rg_v_other (by omega)).trans (eH)) hm_z
  obtain ⟨p223_z, hm_z⟩ := hm_z
  replace hm_z := rn_callS (M' := am_m162) (ar := [.int Hd, .int 0, .int fr]) (rest := []) (L := lv_args 0 [.int fr, .int 0, .int Hd]) (am_cur_of (i := (13, 3, .invokestatic 184, (162, 1681, 3), 0)) (by decide +kernel)) rfl rfl rfl rfl hm_z
  obtain ⟨r224_z, h225_z, q226_z, hm_z⟩ := hm_z
  rcases sl_162 q226_z with ⟨b227_z, rfl, y228_z⟩ | ⟨b229_z, b230_z, rfl, y231_z⟩ | ⟨b232_z, b233_z, rfl, y234_z⟩
  · replace y228_z := y228_z.symm
    subst y228_z
    replace b227_z : fr.toInt < (0 : Int32).toInt := b227_z
    replace hm_z : rn _ _ _ _ [.int 0] _ _ _ := hm_z
    replace hm_z := rn_ifT (am_cur_of (i := (16, 3, .ifCond .eq 26, (22, 0, 0), 0)) (by decide +kernel)) (by decide) hm_z
    replace hm_z := rn_iconst (w := (-1)) (am_cur_of (i := (42, 1, .iconst (-1), (0, 0, 0), 0)) (by decide +kernel)) (by decide) hm_z
    replace hm_z := rn_iret (am_cur_of (i := (43, 1, .ireturn, (0, 0, 0), 0)) (by decide +kernel)) hm_z
    obtain ⟨e235_z, e236_z⟩ := hm_z
    exact Or.inl ⟨by omega, e235_z⟩
  · replace y231_z := y231_z.symm
    subst y231_z
    replace b229_z : (0 : Int32).toInt ≤ fr.toInt := b229_z
    replace b230_z : Hd.toInt < fr.toInt := b230_z
    replace hm_z : rn _ _ _ _ [.int 0] _ _ _ := hm_z
    replace hm_z := rn_ifT (am_cur_of (i := (16, 3, .ifCond .eq 26, (22, 0, 0), 0)) (by decide +kernel)) (by decide) hm_z
    replace hm_z := rn_iconst (w := (-1)) (am_cur_of (i := (42, 1, .iconst (-1), (0, 0, 0), 0)) (by decide +kernel)) (by decide) hm_z
    replace hm_z := rn_iret (am_cur_of (i := (43, 1, .ireturn, (0, 0, 0), 0)) (by decide +kernel)) hm_z
    obtain ⟨e237_z, e238_z⟩ := hm_z
    exact Or.inl ⟨by omega, e237_z⟩
  · replace y234_z := y234_z.symm
    subst y234_z
    replace b232_z : (0 : Int32).toInt ≤ fr.toInt := b232_z
    replace b233_z : fr.toInt ≤ Hd.toInt := b233_z
    replace hm_z : rn _ _ _ _ [.int 1] _ _ _ := hm_z
    replace hm_z := rn_ifF (am_cur_of (i := (16, 3, .ifCond .eq 26, (22, 0, 0), 0)) (by decide +kernel)) (by decide) hm_z
    replace hm_z := rn_iload_n (am_cur_of (i := (19, 1, .iload_n 2, (0, 0, 0), 0)) (by decide +kernel)) g2_z hm_z
    replace hm_z := rn_iconst (w := 0) (am_cur_of (i := (20, 1, .iconst 0, (0, 0, 0), 0)) (by decide +kernel)) (by decide) hm_z
    replace hm_z := rn_sipush (w := 9999) (am_cur_of (i := (21, 3, .sipush 9999, (0, 0, 0), 0)) (by decide +kernel)) (by decide) hm_z
    replace hm_z := rn_callS (M' := am_m162) (ar := [.int 9999, .int 0, .int bd]) (rest := []) (L := lv_args 0 [.int bd, .int 0, .int 9999]) (am_cur_of (i := (24, 3, .invokestatic 184, (162, 1681, 3), 0)) (by decide +kernel)) rfl rfl rfl rfl hm_z
    obtain ⟨r239_z, h240_z, q241_z, hm_z⟩ := hm_z
    rcases sl_162 q241_z with ⟨b242_z, rfl, y243_z⟩ | ⟨b244_z, b245_z, rfl, y246_z⟩ | ⟨b247_z, b248_z, rfl, y249_z⟩
    · replace y243_z := y243_z.symm
      subst y243_z
      replace b242_z : bd.toInt < (0 : Int32).toInt := b242_z
      replace hm_z : rn _ _ _ _ [.int 0] _ _ _ := hm_z
      replace hm_z := rn_ifT (am_cur_of (i := (27, 3, .ifCond .eq 15, (22, 0, 0), 0)) (by decide +kernel)) (by decide) hm_z
      replace hm_z := rn_iconst (w := (-1)) (am_cur_of (i := (42, 1, .iconst (-1), (0, 0, 0), 0)) (by decide +kernel)) (by decide) hm_z
      replace hm_z := rn_iret (am_cur_of (i := (43, 1, .ireturn, (0, 0, 0), 0)) (by decide +kernel)) hm_z
      obtain ⟨e250_z, e251_z⟩ := hm_z
      exact Or.inl ⟨by omega, e250_z⟩
    · replace y246_z := y246_z.symm
      subst y246_z
      replace b244_z : (0 : Int32).toInt ≤ bd.toInt := b244_z
      replace b245_z : (9999 : Int32).toInt < bd.toInt := b245_z
      replace hm_z : rn _ _ _ _ [.int 0] _ _ _ := hm_z
      replace hm_z := rn_ifT (am_cur_of (i := (27, 3, .ifCond .eq 15, (22, 0, 0), 0)) (by decide +kernel)) (by decide) hm_z
      replace hm_z := rn_iconst (w := (-1)) (am_cur_of (i := (42, 1, .iconst (-1), (0, 0, 0), 0)) (by decide +kernel)) (by decide) hm_z
      replace hm_z := rn_iret (am_cur_of (i := (43, 1, .ireturn, (0, 0, 0), 0)) (by decide +kernel)) hm_z
      obtain ⟨e252_z, e253_z⟩ := hm_z
      exact Or.inl ⟨by omega, e252_z⟩
    · replace y249_z := y249_z.symm
      subst y249_z
      replace b247_z : (0 : Int32).toInt ≤ bd.toInt := b247_z
      replace b248_z : bd.toInt ≤ (9999 : Int32).toInt := b248_z
      replace hm_z : rn _ _ _ _ [.int 1] _ _ _ := hm_z
      replace hm_z := rn_ifF (am_cur_of (i := (27, 3, .ifCond .eq 15, (22, 0, 0), 0)) (by decide +kernel)) (by decide) hm_z
      replace hm_z := rn_aload_n (am_cur_of (i := (30, 1, .aload_n 0, (0, 0, 0), 0)) (by decide +kernel)) g0_z hm_z
      replace hm_z := rn_iload_n (am_cur_of (i := (31, 1, .iload_n 1, (0, 0, 0), 0)) (by decide +kernel)) g1_z hm_z
      replace hm_z := rn_iload_n (am_cur_of (i := (32, 1, .iload_n 2, (0, 0, 0), 0)) (by decide +kernel)) g2_z hm_z
      replace hm_z := rn_sipush (w := 3600) (am_cur_of (i := (33, 3, .sipush 3600, (0, 0, 0), 0)) (by decide +kernel)) (by decide) hm_z
      replace hm_z := rn_callV (M' := am_m224) (o := 164) (ar := [.int 3600, .int bd, .int fr]) (rest := []) (L := lv_args 0 [.ref 164, .int fr, .int bd, .int 3600]) (am_cur_of (i := (36, 3, .invokevirtual 489, (224, 1927, 3), 0)) (by decide +kernel)) rfl rfl rfl rfl hm_z
      obtain ⟨r254_z, h255_z, q256_z, hm_z⟩ := hm_z
      have C2 : mC p h0_z Hd pf U ra re nl lk pt mo (am_up g 164 2 (.int 0)) := mC_f (fun o q e e2_z => up_ne (by unfold mQ2 at e; omega)) C
      obtain ⟨n, x, q1_z, rr, q3_z, -⟩ := lb_224 H0 H9 p0_z p9_z m0_z m9_z C2 (by omega) (by omega) (by decide) (by decide) (by rw [rg_v_other (by omega)]; exact S0) (by rw [rg_v_other (by omega)]; exact S9) q256_z
      subst rr
      rw [show (3600 : Int32).toInt.toNat = 3600 by decide, rg_v_other (by omega)] at q1_z
      replace hm_z : rn _ _ _ _ [.int x] _ _ _ := hm_z
      replace hm_z := rn_goto (am_cur_of (i := (39, 3, .goto 4, (23, 0, 0), 0)) (by decide +kernel)) hm_z
      replace hm_z := rn_iret (am_cur_of (i := (43, 1, .ireturn, (0, 0, 0), 0)) (by decide +kernel)) hm_z
      obtain ⟨e257_z, e258_z⟩ := hm_z
      exact Or.inr ⟨by omega, n, x, q1_z, e257_z, q3_z⟩
theorem mf_l {p : Nat} {h0_z : am_H} {Hd pf U ra re nl lk pt mo : Int32} {r : Option Value} {g' : am_H} {bd sc s1_z : Int32} (H0 : 0 ≤ Hd.toInt) (H9 : Hd.toInt ≤ 9999) (p0_z : 0 ≤ pf.toInt) (p9_z : pf.toInt ≤ 9999) (m0_z : 0 ≤ mo.toInt) (m9_z : mo.toInt ≤ 999) (S0 : 0 ≤ s1_z.toInt) (S9 : s1_z.toInt ≤ 99999) (c0_z : 0 ≤ sc.toInt) (c9_z : sc.toInt ≤ 60) : ∀ (f k : Nat) (i : Int32) (ls : am_L) (g : am_H), mC p h0_z Hd pf U ra re nl lk pt mo g → rg_v g 168 0 = Hd → rg_v g 189 0 = s1_z → 0 ≤ i.toInt → i.toInt + k = Hd.toInt + 1 → am_get ls 0 = some (.ref 164) → am_get ls 1 = some (.int sc) → am_get ls 2 = some (.int bd) → am_get ls 3 = some (.int i) → rn f am_m225 17 ls [] g r g' → ∃ x : Int32, fA (fun f n => lA (secZ p h0_z U Hd 0 pf mo 0) bd.toInt sc.toInt.toNat f s1_z n) sc.toInt k i x ∧ r = some (.int x) := by
  intro f
  induction f with
  | zero => intro k i ls g C eH eS i0_z ik g0_z g1_z g2_z g3_z hm_z; exact absurd hm_z rn_0
  | succ f ih_z =>
    intro k i ls g C eH eS i0_z ik g0_z g1_z g2_z g3_z hm_z
    have z0_z : (0 : Int32).toInt = 0 := by decide
    have z1_z : (1 : Int32).toInt = 1 := by decide
    replace hm_z := rn_iload_n (am_cur_of (i := (30, 1, .iload_n 3, (0, 0, 0), 0)) (by decide +kernel)) g3_z hm_z
    replace hm_z := rn_aload_n (am_cur_of (i := (31, 1, .aload_n 0, (0, 0, 0), 0)) (by decide +kernel)) g0_z hm_z
    replace hm_z := rn_getR (x := 168) (am_cur_of (i := (32, 3, .getfield 24, (12, 23, 1407), 0)) (by decide +kernel)) (by decide +kernel) hm_z
    replace hm_z := rn_iconst (w := 0) (am_cur_of (i := (35, 1, .iconst 0, (0, 0, 0), 0)) (by decide +kernel)) (by decide) hm_z
    replace hm_z := rn_iaload (N := 12) (q := 0) (v := Hd) (am_cur_of (i := (36, 1, .iaload, (0, 0, 0), 0)) (by decide +kernel)) (by decide +kernel) rfl eH hm_z
    obtain ⟨p259_z, hm_z⟩ := hm_z
    replace hm_z := rn_cmp (am_cur_of (i := (37, 3, .if_icmp .gt 22, (34, 0, 0), 0)) (by decide +kernel)) hm_z
    rcases hm_z with ⟨b260_z, hm_z⟩ | ⟨b260_z, hm_z⟩
    · replace b260_z : Hd.toInt < i.toInt := b260_z
      obtain rfl : k = 0 := by omega
      replace hm_z := rn_bipush (w := (-2)) (am_cur_of (i := (59, 2, .bipush (-2), (0, 0, 0), 0)) (by decide +kernel)) (by decide) hm_z
      replace hm_z := rn_iret (am_cur_of (i := (61, 1, .ireturn, (0, 0, 0), 0)) (by decide +kernel)) hm_z
      obtain ⟨e261_z, e262_z⟩ := hm_z
      exact ⟨-2, rfl, e261_z⟩
    · replace b260_z : i.toInt ≤ Hd.toInt := b260_z
      obtain ⟨k, rfl⟩ : ∃ k2_z, k = k2_z + 1 := ⟨k - 1, by omega⟩
      have ci_z := rt_c1 (x := i) (by omega) (by omega)
      replace hm_z := rn_aload_n (am_cur_of (i := (40, 1, .aload_n 0, (0, 0, 0), 0)) (by decide +kernel)) g0_z hm_z
      replace hm_z := rn_iload_n (am_cur_of (i := (41, 1, .iload_n 3, (0, 0, 0), 0)) (by decide +kernel)) g3_z hm_z
      replace hm_z := rn_iload_n (am_cur_of (i := (42, 1, .iload_n 2, (0, 0, 0), 0)) (by decide +kernel)) g2_z hm_z
      replace hm_z := rn_iload_n (am_cur_of (i := (43, 1, .iload_n 1, (0, 0, 0), 0)) (by decide +kernel)) g1_z hm_z
      replace hm_z := rn_callV (M' := am_m224) (o := 164) (ar := [.int sc, .int bd, .int i]) (rest := []) (L := lv_args 0 [.ref 164, .int i, .int bd, .int sc]) (am_cur_of (i := (44, 3, .invokevirtual 489, (224, 1927, 3), 0)) (by decide +kernel)) rfl rfl rfl rfl hm_z
      obtain ⟨r263_z, h264_z, q265_z, hm_z⟩ := hm_z
      obtain ⟨n, x, q1_z, rr, q3_z, q4_z⟩ := lb_224 H0 H9 p0_z p9_z m0_z m9_z C (by omega) (by omega) c0_z (by omega) (by rw [eS]; exact S0) (by rw [eS]; exact S9) q265_z
      subst rr
      rw [eS] at q1_z
      have C2 : mC p h0_z Hd pf U ra re nl lk pt mo h264_z := mC_f q4_z C
      have eS2 : rg_v h264_z 189 0 = s1_z := (fk_224 q265_z 189 0 rfl).trans eS
      have eH2 : rg_v h264_z 168 0 = Hd := C2.2.1
      replace hm_z : rn _ _ _ _ [.int x] _ _ _ := hm_z
      replace hm_z := rn_iload_n (am_cur_of (i := (47, 1, .iload_n 1, (0, 0, 0), 0)) (by decide +kernel)) g1_z hm_z
      replace hm_z := rn_cmp (am_cur_of (i := (48, 3, .if_icmp .lt 5, (32, 0, 0), 0)) (by decide +kernel)) hm_z
      rcases hm_z with ⟨b266_z, hm_z⟩ | ⟨b266_z, hm_z⟩
      · replace b266_z : x.toInt < sc.toInt := b266_z
        replace hm_z := rn_iinc (w := i + 1) (am_cur_of (i := (53, 3, .iinc 3 1, (0, 0, 0), 0)) (by decide +kernel)) g3_z rfl hm_z
        obtain ⟨_, s267_z, s268_z, g3_z, hm_z⟩ := hm_z
        replace g0_z := s267_z 0 _ (by decide) rfl g0_z
        replace g1_z := s267_z 1 _ (by decide) rfl g1_z
        replace g2_z := s267_z 2 _ (by decide) rfl g2_z
        clear s267_z s268_z
        replace hm_z := rn_gotoL (am_cur_of (i := (56, 3, .goto (-26), (17, 0, 0), 0)) (by decide +kernel)) hm_z
        obtain ⟨y, u1_z, u2_z⟩ := ih_z k (i + 1) _ _ C2 eH2 eS2 (by omega) (by omega) g0_z g1_z g2_z g3_z hm_z
        exact ⟨y, ⟨n, q1_z, Or.inr ⟨by omega, u1_z⟩⟩, u2_z⟩
      · replace b266_z : sc.toInt ≤ x.toInt := b266_z
        replace hm_z := rn_iload_n (am_cur_of (i := (51, 1, .iload_n 3, (0, 0, 0), 0)) (by decide +kernel)) g3_z hm_z
        replace hm_z := rn_iret (am_cur_of (i := (52, 1, .ireturn, (0, 0, 0), 0)) (by decide +kernel)) hm_z
        obtain ⟨e269_z, e270_z⟩ := hm_z
        exact ⟨i, ⟨n, q1_z, Or.inl ⟨by omega, rfl⟩⟩, e269_z⟩
theorem mf_225 {n : Nat} {p : Nat} {h0_z : am_H} {Hd pf U ra re nl lk pt mo : Int32} {r : Option Value} {g g' : am_H} {sc bd s1_z : Int32} (H0 : 0 ≤ Hd.toInt) (H9 : Hd.toInt ≤ 9999) (p0_z : 0 ≤ pf.toInt) (p9_z : pf.toInt ≤ 9999) (m0_z : 0 ≤ mo.toInt) (m9_z : mo.toInt ≤ 999) (S0 : 0 ≤ s1_z.toInt) (S9 : s1_z.toInt ≤ 99999) (C : mC p h0_z Hd pf U ra re nl lk pt mo g) (eH : rg_v g 168 0 = Hd) (eS : rg_v g 189 0 = s1_z) (hm_z : rn n am_m225 0 (lv_args 0 [.ref 164, .int sc, .int bd]) [] g r g') : (¬ (0 ≤ sc.toInt ∧ sc.toInt ≤ 60 ∧ 0 ≤ bd.toInt ∧ bd.toInt ≤ 9999) ∧ r = some (.int (-1))) ∨ ((0 ≤ sc.toInt ∧ sc.toInt ≤ 60 ∧ 0 ≤ bd.toInt ∧ bd.toInt ≤ 9999) ∧ ∃ x : Int32, fA (fun f n => lA (secZ p h0_z U Hd 0 pf mo 0) bd.toInt sc.toInt.toNat f s1_z n) sc.toInt (Hd.toInt.toNat + 1) 0 x ∧ r = some (.int x)) := by
  have z0_z : (0 : Int32).toInt = 0 := by decide
  have z60_z : (60 : Int32).toInt = 60 := by decide
  have z9999_z : (9999 : Int32).toInt = 9999 := by decide
  have g0_z : am_get (lv_args 0 [.ref 164, .int sc, .int bd]) 0 = some (.ref 164) := rfl
  have g1_z : am_get (lv_args 0 [.ref 164, .int sc, .int bd]) 1 = some (.int sc) := rfl
  have g2_z : am_get (lv_args 0 [.ref 164, .int sc, .int bd]) 2 = some (.int bd) := rfl
  replace hm_z := rn_aload_n (am_cur_of (i := (0, 1, .aload_n 0, (0, 0, 0), 0)) (by decide +kernel)) g0_z hm_z
  replace hm_z := rn_iconst (w := 0) (am_cur_of (i := (1, 1, .iconst 0, (0, 0, 0), 0)) (by decide +kernel)) (by decide) hm_z
  replace hm_z := rn_put (am_cur_of (i := (2, 3, .putfield 139, (12, 2, 1386), 0)) (by decide +kernel)) (by decide +kernel) hm_z
  replace hm_z := rn_iload_n (am_cur_of (i := (5, 1, .iload_n 1, (0, 0, 0), 0)) (by decide +kernel)) g1_z hm_z
  replace hm_z := rn_iconst (w := 0) (am_cur_of (i := (6, 1, .iconst 0, (0, 0, 0), 0)) (by decide +kernel)) (by decide) hm_z
  replace hm_z := rn_bipush (w := 60) (am_cur_of (i := (7, 2, .bipush 60, (0, 0, 0), 0)) (by decide +kernel)) (by decide) hm_z
  replace hm_z := rn_callS (M' := am_m162) (ar := [.int 60, .int 0, .int sc]) (rest := []) (L := lv_args 0 [.int sc, .int 0, .int 60]) (am_cur_of (i := (9, 3, .invokestatic 184, (162, 1681, 3), 0)) (by decide +kernel)) rfl rfl rfl rfl hm_z
  obtain ⟨r271_z, h272_z, q273_z, hm_z⟩ := hm_z
  rcases sl_162 q273_z with ⟨b274_z, rfl, y275_z⟩ | ⟨b276_z, b277_z, rfl, y278_z⟩ | ⟨b279_z, b280_z, rfl, y281_z⟩
  · replace y275_z := y275_z.symm
    subst y275_z
    replace b274_z : sc.toInt < (0 : Int32).toInt := b274_z
    replace hm_z : rn _ _ _ _ [.int 0] _ _ _ := hm_z
    replace hm_z := rn_ifT (am_cur_of (i := (12, 3, .ifCond .eq 14, (13, 0, 0), 0)) (by decide +kernel)) (by decide) hm_z
    replace hm_z := rn_iconst (w := (-1)) (am_cur_of (i := (26, 1, .iconst (-1), (0, 0, 0), 0)) (by decide +kernel)) (by decide) hm_z
    replace hm_z := rn_iret (am_cur_of (i := (27, 1, .ireturn, (0, 0, 0), 0)) (by decide +kernel)) hm_z
    obtain ⟨e282_z, e283_z⟩ := hm_z
    exact Or.inl ⟨by omega, e282_z⟩
  · replace y278_z := y278_z.symm
    subst y278_z
    replace b276_z : (0 : Int32).toInt ≤ sc.toInt := b276_z
    replace b277_z : (60 : Int32).toInt < sc.toInt := b277_z
    replace hm_z : rn _ _ _ _ [.int 0] _ _ _ := hm_z
    replace hm_z := rn_ifT (am_cur_of (i := (12, 3, .ifCond .eq 14, (13, 0, 0), 0)) (by decide +kernel)) (by decide) hm_z
    replace hm_z := rn_iconst (w := (-1)) (am_cur_of (i := (26, 1, .iconst (-1), (0, 0, 0), 0)) (by decide +kernel)) (by decide) hm_z
    replace hm_z := rn_iret (am_cur_of (i := (27, 1, .ireturn, (0, 0, 0), 0)) (by decide +kernel)) hm_z
    obtain ⟨e284_z, e285_z⟩ := hm_z
    exact Or.inl ⟨by omega, e284_z⟩
  · replace y281_z := y281_z.symm
    subst y281_z
    replace b279_z : (0 : Int32).toInt ≤ sc.toInt := b279_z
    replace b280_z : sc.toInt ≤ (60 : Int32).toInt := b280_z
    replace hm_z : rn _ _ _ _ [.int 1] _ _ _ := hm_z
    replace hm_z := rn_ifF (am_cur_of (i := (12, 3, .ifCond .eq 14, (13, 0, 0), 0)) (by decide +kernel)) (by decide) hm_z
    replace hm_z := rn_iload_n (am_cur_of (i := (15, 1, .iload_n 2, (0, 0, 0), 0)) (by decide +kernel)) g2_z hm_z
    replace hm_z := rn_iconst (w := 0) (am_cur_of (i := (16, 1, .iconst 0, (0, 0, 0), 0)) (by decide +kernel)) (by decide) hm_z
    replace hm_z := rn_sipush (w := 9999) (am_cur_of (i := (17, 3, .sipush 9999, (0, 0, 0), 0)) (by decide +kernel)) (by decide) hm_z
    replace hm_z := rn_callS (M' := am_m162) (ar := [.int 9999, .int 0, .int bd]) (rest := []) (L := lv_args 0 [.int bd, .int 0, .int 9999]) (am_cur_of (i := (20, 3, .invokestatic 184, (162, 1681, 3), 0)) (by decide +kernel)) rfl rfl rfl rfl hm_z
    obtain ⟨r286_z, h287_z, q288_z, hm_z⟩ := hm_z
    rcases sl_162 q288_z with ⟨b289_z, rfl, y290_z⟩ | ⟨b291_z, b292_z, rfl, y293_z⟩ | ⟨b294_z, b295_z, rfl, y296_z⟩
    · replace y290_z := y290_z.symm
      subst y290_z
      replace b289_z : bd.toInt < (0 : Int32).toInt := b289_z
      replace hm_z : rn _ _ _ _ [.int 0] _ _ _ := hm_z
      replace hm_z := rn_ifF (am_cur_of (i := (23, 3, .ifCond .ne 5, (15, 0, 0), 0)) (by decide +kernel)) (by decide) hm_z
      replace hm_z := rn_iconst (w := (-1)) (am_cur_of (i := (26, 1, .iconst (-1), (0, 0, 0), 0)) (by decide +kernel)) (by decide) hm_z
      replace hm_z := rn_iret (am_cur_of (i := (27, 1, .ireturn, (0, 0, 0), 0)) (by decide +kernel)) hm_z
      obtain ⟨e297_z, e298_z⟩ := hm_z
      exact Or.inl ⟨by omega, e297_z⟩
    · replace y293_z := y293_z.symm
      subst y293_z
      replace b291_z : (0 : Int32).toInt ≤ bd.toInt := b291_z
      replace b292_z : (9999 : Int32).toInt < bd.toInt := b292_z
      replace hm_z : rn _ _ _ _ [.int 0] _ _ _ := hm_z
      replace hm_z := rn_ifF (am_cur_of (i := (23, 3, .ifCond .ne 5, (15, 0, 0), 0)) (by decide +kernel)) (by decide) hm_z
      replace hm_z := rn_iconst (w := (-1)) (am_cur_of (i := (26, 1, .iconst (-1), (0, 0, 0), 0)) (by decide +kernel)) (by decide) hm_z
      replace hm_z := rn_iret (am_cur_of (i := (27, 1, .ireturn, (0, 0, 0), 0)) (by decide +kernel)) hm_z
      obtain ⟨e299_z, e300_z⟩ := hm_z
      exact Or.inl ⟨by omega, e299_z⟩
    · replace y296_z := y296_z.symm
      subst y296_z
      replace b294_z : (0 : Int32).toInt ≤ bd.toInt := b294_z
      replace b295_z : bd.toInt ≤ (9999 : Int32).toInt := b295_z
      replace hm_z : rn _ _ _ _ [.int 1] _ _ _ := hm_z
      replace hm_z := rn_ifT (am_cur_of (i := (23, 3, .ifCond .ne 5, (15, 0, 0), 0)) (by decide +kernel)) (by decide) hm_z
      replace hm_z := rn_iconst (w := 0) (am_cur_of (i := (28, 1, .iconst 0, (0, 0, 0), 0)) (by decide +kernel)) (by decide) hm_z
      replace hm_z := rn_istore_n (am_cur_of (i := (29, 1, .istore_n 3, (0, 0, 0), 0)) (by decide +kernel)) hm_z
      obtain ⟨_, s301_z, s302_z, g3_z, hm_z⟩ := hm_z
      replace g0_z := s301_z 0 _ (by decide) rfl g0_z
      replace g1_z := s301_z 1 _ (by decide) rfl g1_z
      replace g2_z := s301_z 2 _ (by decide) rfl g2_z
      clear s301_z s302_z
      have C2 : mC p h0_z Hd pf U ra re nl lk pt mo (am_up g 164 2 (.int 0)) := mC_f (fun o q e e2_z => up_ne (by unfold mQ2 at e; omega)) C
      obtain ⟨x, q1_z, q2_z⟩ := mf_l (sc := sc) (bd := bd) H0 H9 p0_z p9_z m0_z m9_z S0 S9 (by omega) (by omega) _ (Hd.toInt.toNat + 1) 0 _ _ C2 ((rg_v_other (by omega)).trans eH) ((rg_v_other (by omega)).trans eS) (by decide) (by omega) g0_z g1_z g2_z g3_z hm_z
      exact Or.inr ⟨by omega, x, q1_z, q2_z⟩
