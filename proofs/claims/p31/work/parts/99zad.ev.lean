set_option maxHeartbeats 400000
/-! ===== lawOf OF THE MODEL; BOTH ALIKE (wip/r/gen99sk.py) ===== -/
theorem lw_v {g g' : am_H} {o q : Nat} (e : g' o q = g o q) : rg_v g' o q = rg_v g o q := by
  unfold rg_v
  rw [e]
theorem lw_l {g g' : am_H} {o q : Nat} (e : g' o q = g o q) : rg_l g' o q = rg_l g o q := by
  unfold rg_l
  rw [e]
/-- the parts of each knot stand ahead of it -/
def lP (K A B : Nat → Int32) (f T : Nat) : Prop := ∀ i, f ≤ i → i < T → ¬ K i = 0 → ¬ K i = 1 → (f ≤ (A i).toNatClampNeg ∧ (A i).toNatClampNeg < i) ∧ (¬ K i = 2 → f ≤ (B i).toNatClampNeg ∧ (B i).toNatClampNeg < i)
/-- how far the model is -/
def lD (K A B : Nat → Int32) (M : Nat → Int64) (f : Nat) (V0 : Nat → Int) (m : Nat) (g : am_H) : Prop := (rg_v g 164 49 = 0 ∧ ∃ V, mvF K A B M f V0 m = some V ∧ (∀ j, (rg_l g 187 j).toInt = V j) ∧ ∀ j, f ≤ j → j < f + m → lB (V j)) ∨ (¬ rg_v g 164 49 = 0 ∧ mvF K A B M f V0 m = none)
theorem mvS_b {K A B : Int32} {M : Nat → Int64} {V : Nat → Int} {z : Int} (hM : K = 1 → lB (M A.toNatClampNeg).toInt) (hA : ¬ K = 0 → ¬ K = 1 → lB (V A.toNatClampNeg)) (e : mvS K A B M V = some z) : lB z := by
  by_cases k0_z : K = 0
  · rw [k0_z, mvS_0] at e
    cases e
    exact lB_32 A
  · by_cases k1_z : K = 1
    · rw [k1_z, mvS_1] at e
      cases e
      exact hM k1_z
    · by_cases k2_z : K = 2
      · rw [k2_z, mvS_2] at e
        unfold lwT at e
        cases e
        exact lB_01
      · rw [mvS_j k0_z k1_z k2_z] at e
        exact mZ_b (hA k0_z k1_z) e
theorem ll_191 {r : Option Value} {g' : am_H} {wh t : Int32} {K A B : Nat → Int32} {M : Nat → Int64} {V0 : Nat → Int} {f0_z T : Nat} (eTT : t.toInt = (T : Int)) (hfT : f0_z < T) (hM : ∀ i, f0_z ≤ i → i < T → K i = 1 → lB (M (A i).toNatClampNeg).toInt) (hP : lP K A B f0_z T) : ∀ (f m : Nat) (i : Int32) (ls : am_L) (g : am_H), am_get ls 0 = some (.ref 164) → am_get ls 1 = some (.int wh) → am_get ls 2 = some (.int i) → i.toInt = (f0_z : Int) + m → f0_z + m ≤ T → lD K A B M f0_z V0 m g → (∀ q, rg_v g 181 q = K q) → (∀ q, rg_v g 182 q = A q) → (∀ q, rg_v g 183 q = B q) → (∀ q, rg_l g 186 q = M q) → rg_v g 180 wh.toNatClampNeg = t → rn f am_m191 8 ls [] g r g' → ∃ w : Int64, r = some (.long w) ∧ (∀ o q, ¬ (o = 164 ∧ q = 49) → ¬ o = 187 → g' o q = g o q) ∧ ((∃ V, mvF K A B M f0_z V0 (T - f0_z) = some V ∧ rg_v g' 164 49 = 0 ∧ w.toInt = V (T - 1)) ∨ (mvF K A B M f0_z V0 (T - f0_z) = none ∧ ¬ rg_v g' 164 49 = 0)) := by
  intro f
  induction f with
  | zero => intro m i ls g g0_z g1_z g2_z hi_z hT D eK eA eB eM et hm_z; exact absurd hm_z rn_0
  | succ f ih_z =>
    intro m i ls g g0_z g1_z g2_z hi_z hT D eK eA eB eM et hm_z
    have z0_z : (0 : Int32).toInt = 0 := by decide
    have z1_z : (1 : Int32).toInt = 1 := by decide
    have tt9_z := ab_32 t
    replace hm_z := rn_iload_n (am_cur_of (i := (12, 1, .iload_n 2, (0, 0, 0), 0)) (by decide +kernel)) g2_z hm_z
    replace hm_z := rn_aload_n (am_cur_of (i := (13, 1, .aload_n 0, (0, 0, 0), 0)) (by decide +kernel)) g0_z hm_z
    replace hm_z := rn_getR (x := 180) (am_cur_of (i := (14, 3, .getfield 60, (12, 35, 1419), 0)) (by decide +kernel)) (by decide +kernel) hm_z
    replace hm_z := rn_iload_n (am_cur_of (i := (17, 1, .iload_n 1, (0, 0, 0), 0)) (by decide +kernel)) g1_z hm_z
    replace hm_z := rn_iaload (N := 6) (q := wh.toNatClampNeg) (v := t) (am_cur_of (i := (18, 1, .iaload, (0, 0, 0), 0)) (by decide +kernel)) (by decide +kernel) rfl et hm_z
    obtain ⟨p457_z, hm_z⟩ := hm_z
    replace hm_z := rn_cmp (am_cur_of (i := (19, 3, .if_icmp .ge 20, (23, 0, 0), 0)) (by decide +kernel)) hm_z
    rcases hm_z with ⟨b458_z, hm_z⟩ | ⟨b458_z, hm_z⟩
    · replace b458_z : t.toInt ≤ i.toInt := b458_z
      have ee : T - f0_z = m := by omega
      have t1_z := ab_isub (x := t) (y := 1) (by omega) (by omega)
      have ctt := rt_cl (x := t - 1) (by omega)
      replace hm_z := rn_aload_n (am_cur_of (i := (39, 1, .aload_n 0, (0, 0, 0), 0)) (by decide +kernel)) g0_z hm_z
      replace hm_z := rn_getI (v := rg_v g 164 49) (am_cur_of (i := (40, 3, .getfield 327, (12, 49, 1433), 0)) (by decide +kernel)) (by decide +kernel) rfl hm_z
      replace hm_z := rn_if (am_cur_of (i := (43, 3, .ifCond .eq 7, (28, 0, 0), 0)) (by decide +kernel)) hm_z
      rcases hm_z with ⟨b459_z, hm_z⟩ | ⟨b459_z, hm_z⟩
      · replace b459_z : (rg_v g 164 49) = (0 : Int32) ∧ (rg_v g 164 49).toInt = (0 : Int32).toInt := b459_z
        replace hm_z := rn_aload_n (am_cur_of (i := (50, 1, .aload_n 0, (0, 0, 0), 0)) (by decide +kernel)) g0_z hm_z
        replace hm_z := rn_getR (x := 187) (am_cur_of (i := (51, 3, .getfield 82, (12, 48, 1432), 0)) (by decide +kernel)) (by decide +kernel) hm_z
        replace hm_z := rn_aload_n (am_cur_of (i := (54, 1, .aload_n 0, (0, 0, 0), 0)) (by decide +kernel)) g0_z hm_z
        replace hm_z := rn_getR (x := 180) (am_cur_of (i := (55, 3, .getfield 60, (12, 35, 1419), 0)) (by decide +kernel)) (by decide +kernel) hm_z
        replace hm_z := rn_iload_n (am_cur_of (i := (58, 1, .iload_n 1, (0, 0, 0), 0)) (by decide +kernel)) g1_z hm_z
        replace hm_z := rn_iaload (N := 6) (q := wh.toNatClampNeg) (v := t) (am_cur_of (i := (59, 1, .iaload, (0, 0, 0), 0)) (by decide +kernel)) (by decide +kernel) rfl et hm_z
        obtain ⟨p460_z, hm_z⟩ := hm_z
        replace hm_z := rn_iconst (w := 1) (am_cur_of (i := (60, 1, .iconst 1, (0, 0, 0), 0)) (by decide +kernel)) (by decide) hm_z
        replace hm_z := rn_isub (w := t - 1) (am_cur_of (i := (61, 1, .isub, (0, 0, 0), 0)) (by decide +kernel)) rfl hm_z
        replace hm_z := rn_laload (N := 64) (q := (t - 1).toNatClampNeg) (v := rg_l g 187 ((t - 1).toNatClampNeg)) (am_cur_of (i := (62, 1, .laload, (0, 0, 0), 0)) (by decide +kernel)) (by decide +kernel) rfl rfl hm_z
        obtain ⟨p461_z, hm_z⟩ := hm_z
        replace hm_z := rn_lret (am_cur_of (i := (63, 1, .lreturn, (0, 0, 0), 0)) (by decide +kernel)) hm_z
        obtain ⟨e462_z, e463_z⟩ := hm_z
        refine ⟨_, e462_z, fun o q _ _ => by rw [e463_z], ?_⟩
        rw [ee, e463_z]
        rcases D with ⟨e0_z, V, v1_z, v2_z, v3_z⟩ | ⟨e1_z, v1_z⟩
        · refine Or.inl ⟨V, v1_z, e0_z, ?_⟩
          rw [v2_z, show (t - 1).toNatClampNeg = T - 1 by omega]
        · exact absurd b459_z.1 e1_z
      · replace b459_z : ¬ (rg_v g 164 49) = (0 : Int32) ∧ ¬ (rg_v g 164 49).toInt = (0 : Int32).toInt := b459_z
        replace hm_z := rn_lconst (w := 0) (am_cur_of (i := (46, 1, .lconst 0, (0, 0, 0), 0)) (by decide +kernel)) rfl hm_z
        replace hm_z := rn_goto (am_cur_of (i := (47, 3, .goto 16, (37, 0, 0), 0)) (by decide +kernel)) hm_z
        replace hm_z := rn_lret (am_cur_of (i := (63, 1, .lreturn, (0, 0, 0), 0)) (by decide +kernel)) hm_z
        obtain ⟨e464_z, e465_z⟩ := hm_z
        refine ⟨_, e464_z, fun o q _ _ => by rw [e465_z], ?_⟩
        rw [ee, e465_z]
        rcases D with ⟨e0_z, -⟩ | ⟨e1_z, v1_z⟩
        · exact absurd e0_z b459_z.1
        · exact Or.inr ⟨v1_z, e1_z⟩
    · replace b458_z : i.toInt < t.toInt := b458_z
      have ci_z : i.toNatClampNeg = f0_z + m := by
        have q := rt_cl (x := i) (by omega)
        omega
      have i1_z := ab_iadd (x := i) (y := 1) (by omega) (by omega)
      replace hm_z := rn_aload_n (am_cur_of (i := (22, 1, .aload_n 0, (0, 0, 0), 0)) (by decide +kernel)) g0_z hm_z
      replace hm_z := rn_getR (x := 187) (am_cur_of (i := (23, 3, .getfield 82, (12, 48, 1432), 0)) (by decide +kernel)) (by decide +kernel) hm_z
      replace hm_z := rn_iload_n (am_cur_of (i := (26, 1, .iload_n 2, (0, 0, 0), 0)) (by decide +kernel)) g2_z hm_z
      replace hm_z := rn_aload_n (am_cur_of (i := (27, 1, .aload_n 0, (0, 0, 0), 0)) (by decide +kernel)) g0_z hm_z
      replace hm_z := rn_iload_n (am_cur_of (i := (28, 1, .iload_n 2, (0, 0, 0), 0)) (by decide +kernel)) g2_z hm_z
      replace hm_z := rn_callV (M' := am_m192) (o := 164) (ar := [.int i]) (rest := [.int i, .ref 187]) (L := lv_args 0 [.ref 164, .int i]) (am_cur_of (i := (29, 3, .invokevirtual 385, (192, 1799, 3), 0)) (by decide +kernel)) rfl rfl rfl rfl hm_z
      obtain ⟨r466_z, h467_z, q468_z, hm_z⟩ := hm_z
      have hb1_z : rg_v g 164 49 = 0 → ¬ K i.toNatClampNeg = 0 → ¬ K i.toNatClampNeg = 1 → lB (rg_l g 187 (A i.toNatClampNeg).toNatClampNeg).toInt ∧ (¬ K i.toNatClampNeg = 2 → lB (rg_l g 187 (B i.toNatClampNeg).toNatClampNeg).toInt) := by
        intro e0_z k0_z k1_z
        rcases D with ⟨-, V, -, v2_z, v3_z⟩ | ⟨e1_z, -⟩
        · have pp := hP i.toNatClampNeg (by omega) (by omega) k0_z k1_z
          exact ⟨by rw [v2_z]; exact v3_z _ pp.1.1 (by omega), fun k2_z => by rw [v2_z]; exact v3_z _ (pp.2 k2_z).1 (by have := (pp.2 k2_z).2; omega)⟩
        · exact absurd e0_z e1_z
      obtain ⟨wx, rr, fx, x0_z, x1_z⟩ := mv_192 (eK i.toNatClampNeg) (eA i.toNatClampNeg) (eB i.toNatClampNeg) hb1_z q468_z
      subst rr
      rw [show (fun j => rg_l g 186 j) = M from funext eM] at x0_z
      replace hm_z : rn _ _ _ _ [.long wx, .int i, .ref 187] _ _ _ := hm_z
      replace hm_z := rn_lastore (N := 64) (q := i.toNatClampNeg) (am_cur_of (i := (32, 1, .lastore, (0, 0, 0), 0)) (by decide +kernel)) (by decide +kernel) rfl hm_z
      obtain ⟨p469_z, hm_z⟩ := hm_z
      replace hm_z := rn_iinc (w := i + 1) (am_cur_of (i := (33, 3, .iinc 2 1, (0, 0, 0), 0)) (by decide +kernel)) g2_z rfl hm_z
      obtain ⟨_, s470_z, s471_z, g2_z, hm_z⟩ := hm_z
      replace g0_z := s470_z 0 _ (by decide) rfl g0_z
      replace g1_z := s470_z 1 _ (by decide) rfl g1_z
      clear s470_z s471_z
      replace hm_z := rn_gotoL (am_cur_of (i := (36, 3, .goto (-24), (8, 0, 0), 0)) (by decide +kernel)) hm_z
      have E2 : rg_v (am_up h467_z 187 i.toNatClampNeg (.long wx)) 164 49 = rg_v h467_z 164 49 := rfl
      have D2 : lD K A B M f0_z V0 (m + 1) (am_up h467_z 187 i.toNatClampNeg (.long wx)) := by
        rcases D with ⟨e0_z, V, v1_z, v2_z, v3_z⟩ | ⟨e1_z, v1_z⟩
        · have y := x0_z e0_z
          rw [show (fun j => (rg_l g 187 j).toInt) = V from funext v2_z, ci_z] at y
          match e : mvS (K (f0_z + m)) (A (f0_z + m)) (B (f0_z + m)) M V with
          | none =>
            rw [e] at y
            exact Or.inr ⟨by rw [E2]; exact y, mvF_e v1_z e⟩
          | some z =>
            rw [e] at y
            obtain ⟨y1_z, y2_z⟩ := y
            refine Or.inl ⟨by rw [E2]; exact y2_z, _, mvF_s v1_z e, fun j => ?_, fun j j0_z j1_z => ?_⟩
            · show _ = if j = f0_z + m then z else V j
              by_cases c : j = f0_z + m
              · rw [if_pos c, c, ← ci_z, rg_l_self]
                exact y1_z
              · rw [if_neg c, rg_l_other (by omega), lw_l (fx 187 j (by omega))]
                exact v2_z j
            · show lB (if j = f0_z + m then z else V j)
              by_cases c : j = f0_z + m
              · rw [if_pos c]
                refine mvS_b (fun k1_z => hM (f0_z + m) (by omega) (by omega) k1_z) (fun k0_z k1_z => ?_) e
                have pp := hP (f0_z + m) (by omega) (by omega) k0_z k1_z
                exact v3_z _ pp.1.1 (by omega)
              · rw [if_neg c]
                exact v3_z j j0_z (by omega)
        · exact Or.inr ⟨by rw [E2]; exact x1_z e1_z, mvF_n v1_z⟩
      obtain ⟨w2_z, q1_z, q2_z, q3_z⟩ := ih_z (m + 1) (i + 1) _ _ g0_z g1_z g2_z (by omega) (by omega) D2 (fun q => (lw_v (fx 181 q (by omega))).trans (eK q)) (fun q => (lw_v (fx 182 q (by omega))).trans (eA q)) (fun q => (lw_v (fx 183 q (by omega))).trans (eB q)) (fun q => (lw_l (fx 186 q (by omega))).trans (eM q)) ((lw_v (fx 180 _ (by omega))).trans et) hm_z
      exact ⟨w2_z, q1_z, fun o q ho h8_z => (q2_z o q ho h8_z).trans ((up_ne (fun z => h8_z z.1)).trans (fx o q ho)), q3_z⟩
theorem lo_191 {n : Nat} {r : Option Value} {g g' : am_H} {wh t : Int32} {K A B : Nat → Int32} {M : Nat → Int64} {f0_z T : Nat} (eTT : t.toInt = (T : Int)) (hfT : f0_z < T) (hM : ∀ i, f0_z ≤ i → i < T → K i = 1 → lB (M (A i).toNatClampNeg).toInt) (hP : lP K A B f0_z T) (ef : (rg_v g 179 wh.toNatClampNeg).toInt = (f0_z : Int)) (eK : ∀ q, rg_v g 181 q = K q) (eA : ∀ q, rg_v g 182 q = A q) (eB : ∀ q, rg_v g 183 q = B q) (eM : ∀ q, rg_l g 186 q = M q) (et : rg_v g 180 wh.toNatClampNeg = t) (hm_z : rn n am_m191 0 (lv_args 0 [.ref 164, .int wh]) [] g r g') : ∃ w : Int64, r = some (.long w) ∧ (∀ o q, ¬ (o = 164 ∧ q = 49) → ¬ o = 187 → g' o q = g o q) ∧ ((∃ V, mvF K A B M f0_z (fun j => (rg_l g 187 j).toInt) (T - f0_z) = some V ∧ rg_v g' 164 49 = 0 ∧ w.toInt = V (T - 1)) ∨ (mvF K A B M f0_z (fun j => (rg_l g 187 j).toInt) (T - f0_z) = none ∧ ¬ rg_v g' 164 49 = 0)) := by
  have g0_z : am_get (lv_args 0 [.ref 164, .int wh]) 0 = some (.ref 164) := rfl
  have g1_z : am_get (lv_args 0 [.ref 164, .int wh]) 1 = some (.int wh) := rfl
  replace hm_z := rn_aload_n (am_cur_of (i := (0, 1, .aload_n 0, (0, 0, 0), 0)) (by decide +kernel)) g0_z hm_z
  replace hm_z := rn_iconst (w := 0) (am_cur_of (i := (1, 1, .iconst 0, (0, 0, 0), 0)) (by decide +kernel)) (by decide) hm_z
  replace hm_z := rn_put (am_cur_of (i := (2, 3, .putfield 327, (12, 49, 1433), 0)) (by decide +kernel)) (by decide +kernel) hm_z
  replace hm_z := rn_aload_n (am_cur_of (i := (5, 1, .aload_n 0, (0, 0, 0), 0)) (by decide +kernel)) g0_z hm_z
  replace hm_z := rn_getR (x := 179) (am_cur_of (i := (6, 3, .getfield 57, (12, 34, 1418), 0)) (by decide +kernel)) (by decide +kernel) hm_z
  replace hm_z := rn_iload_n (am_cur_of (i := (9, 1, .iload_n 1, (0, 0, 0), 0)) (by decide +kernel)) g1_z hm_z
  replace hm_z := rn_iaload (N := 6) (q := wh.toNatClampNeg) (v := rg_v g 179 wh.toNatClampNeg) (am_cur_of (i := (10, 1, .iaload, (0, 0, 0), 0)) (by decide +kernel)) (by decide +kernel) rfl ((rg_v_other (by omega)).trans (rfl)) hm_z
  obtain ⟨p472_z, hm_z⟩ := hm_z
  replace hm_z := rn_istore_n (am_cur_of (i := (11, 1, .istore_n 2, (0, 0, 0), 0)) (by decide +kernel)) hm_z
  obtain ⟨_, s473_z, s474_z, g2_z, hm_z⟩ := hm_z
  replace g0_z := s473_z 0 _ (by decide) rfl g0_z
  replace g1_z := s473_z 1 _ (by decide) rfl g1_z
  clear s473_z s474_z
  have D0 : lD K A B M f0_z (fun j => (rg_l g 187 j).toInt) 0 (am_up g 164 49 (.int 0)) := Or.inl ⟨by rw [rg_v_self], _, rfl, fun j => rfl, fun j j0_z j1_z => absurd j1_z (by omega)⟩
  obtain ⟨w2_z, q1_z, q2_z, q3_z⟩ := ll_191 eTT hfT hM hP _ 0 _ _ _ g0_z g1_z g2_z (by rw [ef]; omega) (by omega) D0 (fun q => eK q) (fun q => eA q) (fun q => eB q) (fun q => eM q) et hm_z
  exact ⟨w2_z, q1_z, fun o q ho h8_z => (q2_z o q ho h8_z).trans (up_ne ho), q3_z⟩
/-- a sign of the class and of the model -/
def lq_o (a b : Int32) : Prop := (a = 2 ∧ b = 0) ∨ (a = 3 ∧ b = 4) ∨ (a = 4 ∧ b = 3) ∨ (a = 5 ∧ b = 2) ∨ (a = 6 ∧ b = 5) ∨ (a = 7 ∧ b = 6) ∨ (a = 8 ∧ b = 7) ∨ (a = 9 ∧ b = 8) ∨ (a = 10 ∧ b = 9) ∨ (a = 11 ∧ b = 10) ∨ (a = 12 ∧ b = 11) ∨ (a = 13 ∧ b = 12) ∨ (a = 14 ∧ b = 13) ∨ (a = 15 ∧ b = 14)
def lq_n (v u : Int32) : Prop := (v = 0 ∧ u = 3) ∨ (v = 1 ∧ u = 0) ∨ (v = 2 ∧ u = 1) ∨ (v = 3 ∧ u = 2) ∨ (v = 4 ∧ u = 4) ∨ (v = 5 ∧ u = 5)
def lq (a v b u : Int32) : Prop := (a = 0 ∧ b = 0 ∧ v = u) ∨ (a = 1 ∧ b = 1 ∧ lq_n v u) ∨ (lq_o a b ∧ ¬ b = 0)
/-- a knot takes of the held ones and is held -/
def lq_s (k a b : Int32) (i : Nat) (h0_z hs_z : List Nat) : Prop := ((k = 0 ∨ k = 1) ∧ hs_z = i :: h0_z) ∨ (k = 2 ∧ ∃ x t, h0_z = x :: t ∧ a.toInt = (x : Nat) ∧ hs_z = i :: t) ∨ (2 < k.toInt ∧ ∃ x y t, h0_z = y :: x :: t ∧ a.toInt = (x : Nat) ∧ b.toInt = (y : Nat) ∧ hs_z = i :: t)
def lS (K A B : Nat → Int32) (f : Nat) : Nat → List Nat → Prop
  | 0, hs_z => hs_z = []
  | m + 1, hs_z => ∃ h0_z, lS K A B f m h0_z ∧ lq_s (K (f + m)) (A (f + m)) (B (f + m)) (f + m) h0_z hs_z
theorem lS_r {K A B : Nat → Int32} {f : Nat} : ∀ (m : Nat) (hs_z : List Nat), lS K A B f m hs_z → hs_z.length ≤ m ∧ ∀ x ∈ hs_z, f ≤ x ∧ x < f + m
  | 0, hs_z, h => by
    have e : hs_z = [] := h
    subst e
    exact ⟨Nat.le_refl 0, fun x hx_z => by cases hx_z⟩
  | m + 1, hs_z, h => by
    obtain ⟨h0_z, h1_z, h2_z⟩ := h
    obtain ⟨l0_z, r0_z⟩ := lS_r m h0_z h1_z
    have key : ∀ t : List Nat, (∀ x ∈ t, x ∈ h0_z) → t.length ≤ h0_z.length → hs_z = (f + m) :: t → hs_z.length ≤ m + 1 ∧ ∀ x ∈ hs_z, f ≤ x ∧ x < f + (m + 1) := by
      intro t ht hl_z e
      subst e
      refine ⟨by rw [List.length_cons]; omega, fun x hx_z => ?_⟩
      rcases List.mem_cons.mp hx_z with e | e
      · omega
      · have := r0_z x (ht x e)
        omega
    rcases h2_z with ⟨-, e⟩ | ⟨-, x, t, e0_z, -, e⟩ | ⟨-, x, y, t, e0_z, -, -, e⟩
    · exact key h0_z (fun x hx_z => hx_z) (Nat.le_refl _) e
    · exact key t (fun z hz_z => by rw [e0_z]; exact List.mem_cons_of_mem _ hz_z) (by rw [e0_z, List.length_cons]; omega) e
    · exact key t (fun z hz_z => by rw [e0_z]; exact List.mem_cons_of_mem _ (List.mem_cons_of_mem _ hz_z)) (by rw [e0_z, List.length_cons, List.length_cons]; omega) e
theorem lS_P {K A B : Nat → Int32} {f : Nat} : ∀ (m : Nat) (hs_z : List Nat), lS K A B f m hs_z → lP K A B f (f + m)
  | 0, hs_z, _ => fun i i0_z i1_z => absurd i1_z (by omega)
  | m + 1, hs_z, h => by
    obtain ⟨h0_z, h1_z, h2_z⟩ := h
    have r := (lS_r m h0_z h1_z).2
    intro i i0_z i1_z k0_z k1_z
    by_cases c : i = f + m
    · subst c
      rcases h2_z with ⟨k, -⟩ | ⟨k, x, t, e0_z, ea, -⟩ | ⟨k, x, y, t, e0_z, ea, eb, -⟩
      · exact absurd k (fun q => q.elim k0_z k1_z)
      · have rx := r x (by rw [e0_z]; exact List.mem_cons_self ..)
        have ca_z := rt_cl (x := A (f + m)) (by omega)
        exact ⟨by omega, fun k2_z => absurd k k2_z⟩
      · have ry := r y (by rw [e0_z]; exact List.mem_cons_self ..)
        have rx := r x (by rw [e0_z]; exact List.mem_cons_of_mem _ (List.mem_cons_self ..))
        have ca_z := rt_cl (x := A (f + m)) (by omega)
        have cb := rt_cl (x := B (f + m)) (by omega)
        exact ⟨by omega, fun _ => by omega⟩
    · exact lS_P m h0_z h1_z i i0_z (by omega) k0_z k1_z
theorem lq_j {o k : Int32} (h : lq_o o k) (n0_z : ¬ k = 0) : (o = 5 ∧ k = 2) ∨ ((¬ o = 0 ∧ ¬ o = 1 ∧ ¬ o = 5) ∧ (¬ k = 0 ∧ ¬ k = 1 ∧ ¬ k = 2) ∧ ∀ a b, mZ k a b = jZ o a b) := by
  rcases h with ⟨e1_z, e2_z⟩ | ⟨e1_z, e2_z⟩ | ⟨e1_z, e2_z⟩ | ⟨e1_z, e2_z⟩ | ⟨e1_z, e2_z⟩ | ⟨e1_z, e2_z⟩ | ⟨e1_z, e2_z⟩ | ⟨e1_z, e2_z⟩ | ⟨e1_z, e2_z⟩ | ⟨e1_z, e2_z⟩ | ⟨e1_z, e2_z⟩ | ⟨e1_z, e2_z⟩ | ⟨e1_z, e2_z⟩ | ⟨e1_z, e2_z⟩
  · exact absurd e2_z n0_z
  · subst e1_z
    subst e2_z
    exact Or.inr ⟨by decide, by decide, fun a b => mj_3⟩
  · subst e1_z
    subst e2_z
    exact Or.inr ⟨by decide, by decide, fun a b => mj_4⟩
  · subst e1_z
    subst e2_z
    exact Or.inl ⟨rfl, rfl⟩
  · subst e1_z
    subst e2_z
    exact Or.inr ⟨by decide, by decide, fun a b => mj_6⟩
  · subst e1_z
    subst e2_z
    exact Or.inr ⟨by decide, by decide, fun a b => mj_7⟩
  · subst e1_z
    subst e2_z
    exact Or.inr ⟨by decide, by decide, fun a b => mj_8⟩
  · subst e1_z
    subst e2_z
    exact Or.inr ⟨by decide, by decide, fun a b => mj_9⟩
  · subst e1_z
    subst e2_z
    exact Or.inr ⟨by decide, by decide, fun a b => mj_10⟩
  · subst e1_z
    subst e2_z
    exact Or.inr ⟨by decide, by decide, fun a b => mj_11⟩
  · subst e1_z
    subst e2_z
    exact Or.inr ⟨by decide, by decide, fun a b => mj_12⟩
  · subst e1_z
    subst e2_z
    exact Or.inr ⟨by decide, by decide, fun a b => mj_13⟩
  · subst e1_z
    subst e2_z
    exact Or.inr ⟨by decide, by decide, fun a b => mj_14⟩
  · subst e1_z
    subst e2_z
    exact Or.inr ⟨by decide, by decide, fun a b => mj_15⟩
theorem ev_step {O V K A B : Nat → Int32} {N M : Nat → Int64} {f m T : Nat} {V0 W : Nat → Int} {h0_z hs_z : List Nat} (T4 : m < 64) (hN : O (f + m) = 1 → (N (V (f + m)).toNatClampNeg).toInt = (M (A (f + m)).toNatClampNeg).toInt) (q : lq (O (f + m)) (V (f + m)) (K (f + m)) (A (f + m))) (k : lq_s (K (f + m)) (A (f + m)) (B (f + m)) (f + m) h0_z hs_z) (l0_z : h0_z.length ≤ m) (r0_z : ∀ x ∈ h0_z, f ≤ x ∧ x < f + m) (c : lvF O V N f m = some (h0_z.map W)) (d : mvF K A B M f V0 m = some W) : (lvF O V N f (m + 1) = none ∧ mvF K A B M f V0 (m + 1) = none) ∨ ∃ W2, lvF O V N f (m + 1) = some (hs_z.map W2) ∧ mvF K A B M f V0 (m + 1) = some W2 := by
  have keep : ∀ (z : Int) (t : List Nat), (∀ x ∈ t, x ∈ h0_z) → t.map (fun j => if j = f + m then z else W j) = t.map W := by
    intro z t ht
    refine List.map_congr_left (fun x hx_z => ?_)
    have := r0_z x (ht x hx_z)
    exact if_neg (by omega)
  have done : ∀ (z : Int) (t : List Nat), (∀ x ∈ t, x ∈ h0_z) → hs_z = (f + m) :: t → lvS (O (f + m)) (V (f + m)) N (h0_z.map W) = some (z :: t.map W) → mvS (K (f + m)) (A (f + m)) (B (f + m)) M W = some z → ∃ W2, lvF O V N f (m + 1) = some (hs_z.map W2) ∧ mvF K A B M f V0 (m + 1) = some W2 := by
    intro z t ht e c2_z d2_z
    refine ⟨_, ?_, mvF_s d d2_z⟩
    rw [lvF_s c, c2_z, e, List.map_cons, keep z t ht, if_pos rfl]
  have hl_z : (h0_z.map W).length < 64 := by
    rw [List.length_map]
    omega
  rcases q with ⟨o0_z, k0_z, e⟩ | ⟨o1_z, k1_z, e⟩ | ⟨o, n0_z⟩
  · -- a number
    rcases k with ⟨-, eh⟩ | ⟨k2_z, -⟩ | ⟨k3_z, -⟩
    · refine Or.inr (done (V (f + m)).toInt h0_z (fun x hx_z => hx_z) eh ?_ ?_)
      · rw [o0_z]
        exact lvS_0 hl_z
      · rw [k0_z, mvS_0, e]
    · exact absurd (k0_z.symm.trans k2_z) (by decide)
    · rw [k0_z] at k3_z
      exact absurd k3_z (by decide)
  · -- a name
    rcases k with ⟨-, eh⟩ | ⟨k2_z, -⟩ | ⟨k3_z, -⟩
    · refine Or.inr (done (N (V (f + m)).toNatClampNeg).toInt h0_z (fun x hx_z => hx_z) eh ?_ ?_)
      · rw [o1_z]
        exact lvS_1 hl_z
      · rw [k1_z, mvS_1, hN o1_z]
    · exact absurd (k1_z.symm.trans k2_z) (by decide)
    · rw [k1_z] at k3_z
      exact absurd k3_z (by decide)
  · rcases lq_j o n0_z with ⟨o5_z, k2_z⟩ | ⟨⟨a0_z, a1_z, a5_z⟩, ⟨b0_z, b1_z, b2_z⟩, ej⟩
    · -- not
      rcases k with ⟨kk, -⟩ | ⟨-, x, t, e0_z, ea, eh⟩ | ⟨k3_z, -⟩
      · rw [k2_z] at kk
        exact absurd kk (by decide)
      · have rx := r0_z x (by rw [e0_z]; exact List.mem_cons_self ..)
        have ca_z := rt_cl (x := A (f + m)) (by omega)
        have cx_z : (A (f + m)).toNatClampNeg = x := by omega
        refine Or.inr (done (if W x = 0 then 1 else 0) t (fun z hz_z => by rw [e0_z]; exact List.mem_cons_of_mem _ hz_z) eh ?_ ?_)
        · rw [o5_z, e0_z, List.map_cons]
          exact lvS_5
        · rw [k2_z, mvS_2, cx_z]
          rfl
      · rw [k2_z] at k3_z
        exact absurd k3_z (by decide)
    · -- joined
      rcases k with ⟨kk, -⟩ | ⟨k2_z, -⟩ | ⟨-, x, y, t, e0_z, ea, eb, eh⟩
      · exact absurd kk (fun q => q.elim b0_z b1_z)
      · exact absurd k2_z b2_z
      · have ry := r0_z y (by rw [e0_z]; exact List.mem_cons_self ..)
        have rx := r0_z x (by rw [e0_z]; exact List.mem_cons_of_mem _ (List.mem_cons_self ..))
        have ca_z := rt_cl (x := A (f + m)) (by omega)
        have cb := rt_cl (x := B (f + m)) (by omega)
        have cx_z : (A (f + m)).toNatClampNeg = x := by omega
        have cy_z : (B (f + m)).toNatClampNeg = y := by omega
        have em : mvS (K (f + m)) (A (f + m)) (B (f + m)) M W = jZ (O (f + m)) (W x) (W y) := by
          rw [mvS_j b0_z b1_z b2_z, ej, cx_z, cy_z]
        match e : jZ (O (f + m)) (W x) (W y) with
        | none =>
          refine Or.inl ⟨?_, mvF_e d (em.trans e)⟩
          rw [lvF_s c, e0_z, List.map_cons, List.map_cons]
          exact lvS_jn a0_z a1_z a5_z e
        | some z =>
          refine Or.inr (done z t (fun z hz_z => by rw [e0_z]; exact List.mem_cons_of_mem _ (List.mem_cons_of_mem _ hz_z)) eh ?_ (em.trans e))
          rw [e0_z, List.map_cons, List.map_cons]
          exact lvS_j a0_z a1_z a5_z e
theorem ev_pair {O V K A B : Nat → Int32} {N M : Nat → Int64} {f : Nat} {V0 : Nat → Int} : ∀ (m : Nat) (hs_z : List Nat), m ≤ 64 → (∀ i, f ≤ i → i < f + m → lq (O i) (V i) (K i) (A i)) → (∀ i, f ≤ i → i < f + m → O i = 1 → (N (V i).toNatClampNeg).toInt = (M (A i).toNatClampNeg).toInt) → lS K A B f m hs_z → (lvF O V N f m = none ∧ mvF K A B M f V0 m = none) ∨ ∃ W, lvF O V N f m = some (hs_z.map W) ∧ mvF K A B M f V0 m = some W
  | 0, hs_z, _, _, _, h => by
    have e : hs_z = [] := h
    subst e
    exact Or.inr ⟨V0, rfl, rfl⟩
  | m + 1, hs_z, m4_z, hq_z, hN, h => by
    obtain ⟨h0_z, h1_z, h2_z⟩ := h
    obtain ⟨l0_z, r0_z⟩ := lS_r m h0_z h1_z
    rcases ev_pair m h0_z (by omega) (fun i a b => hq_z i a (by omega)) (fun i a b => hN i a (by omega)) h1_z with ⟨c, d⟩ | ⟨W, c, d⟩
    · exact Or.inl ⟨lvF_n c 1, mvF_n d⟩
    · exact ev_step (T := f + m) (by omega) (hN (f + m) (by omega) (by omega)) (hq_z (f + m) (by omega) (by omega)) h2_z l0_z r0_z c d
/-- a law's value in both -/
theorem ev_val {O V K A B : Nat → Int32} {N M : Nat → Int64} {f T : Nat} {V0 : Nat → Int} (hfT : f < T) (h64_z : T ≤ 64) (hq_z : ∀ i, f ≤ i → i < T → lq (O i) (V i) (K i) (A i)) (hN : ∀ i, f ≤ i → i < T → O i = 1 → (N (V i).toNatClampNeg).toInt = (M (A i).toNatClampNeg).toInt) (h : lS K A B f (T - f) [T - 1]) : (lvR (lvF O V N f (T - f)) = none ∧ mvF K A B M f V0 (T - f) = none) ∨ ∃ W, lvR (lvF O V N f (T - f)) = some (W (T - 1)) ∧ mvF K A B M f V0 (T - f) = some W := by
  rcases ev_pair (V0 := V0) (T - f) [T - 1] (by omega) (fun i a b => hq_z i a (by omega)) (fun i a b => hN i a (by omega)) h with ⟨c, d⟩ | ⟨W, c, d⟩
  · exact Or.inl ⟨by rw [c]; rfl, d⟩
  · exact Or.inr ⟨W, by rw [c]; rfl, d⟩
