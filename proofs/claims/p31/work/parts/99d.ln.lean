/-! ===== THE MODEL'S LINES: blowerLine, turnLine, leakLine (wip/s/gen99d.py) ===== -/
abbrev ac_nuM : List (Nat × Nat) := [(164, 5), (164, 6), (164, 8), (164, 9), (164, 10), (164, 11), (164, 12)]
theorem ac_use {J : am_H → Prop} {s : ab_Sm} {M' : am_M} {as : List Value} {h : am_H} (hs : ab_Con ab_tab J s) (hM : am_prog[s.1]? = some M') (hg : ab_gAs s.2.1 as) (hI : ab_Inv (ab_hi ab_tab) h) (hj : J h) (hp : ab_gPl h s.2.2.1) : am_Ek false am_G0 M' 0 (lv_args 0 as) [] am_ks0 h 0 0 (fun r ks h' => ks = am_ks0 ∧ ab_Inv (ab_hi ab_tab) h' ∧ J h' ∧ ab_Fr s.2.2.2.1 h h' ∧ ∃ c ∈ s.2.2.2.2, ab_gC c as r h') := by
  obtain ⟨M2, hM2, -, hc⟩ := hs
  rw [hM] at hM2
  cases hM2
  exact hc as h hg hI hj hp
theorem ac_p0 {h : am_H} : ab_gPl h [] := fun q hq => absurd hq List.not_mem_nil
theorem ac_g0 {n : Int} {r : Option Value} (hg : ab_gR (some (ab_i n n)) r) {v : Int32} (hv : v.toInt = n) : r = some (.int v) := by
  unfold ab_gR at hg
  split at hg
  · rename_i e
    cases e
  · rename_i V w e
    cases e
    obtain ⟨x, rfl, x0, x1⟩ := hg
    have x0 : n ≤ x.toInt := x0
    have x1 : x.toInt ≤ n := x1
    rw [show x = v from Int32.toInt_inj.mp (by omega)]
  · exact hg.elim
/-- a number is read -/
theorem ac_num {J : am_H → Prop} {s : ab_Sm} {V1 V2 : ab_V} {lo hi : Int} (hs : ab_Con ab_tab J s) (e : s = (161, [ab_rf [164], V1, V2], [], ac_nuM, [(some (ab_i 0 0), [], [((165, 4), ab_i 1 4), ((165, 5), ab_i 0 700)]), (some (ab_i 1 1), [], [((165, 11), ab_i lo hi)])])) {h : am_H} {a b : Int32} (ha : ab_g V1 (.int a)) (hb : ab_g V2 (.int b)) (hI : ab_Inv (ab_hi ab_tab) h) (hj : J h) :
    am_Ek false am_G0 am_m161 0 (lv_args 0 [.ref 164, .int a, .int b]) [] am_ks0 h 0 0 (fun r ks h' => ks = am_ks0 ∧ ab_Inv (ab_hi ab_tab) h' ∧ J h' ∧ ab_Fr ac_nuM h h' ∧ (r = some (.int 0) ∨ r = some (.int 1) ∧ ∃ g : Int32, h' 164 11 = .int g ∧ lo ≤ g.toInt ∧ g.toInt ≤ hi)) := by
  subst e
  refine am_Ev_mono (ac_use hs rfl ⟨⟨164, rfl, List.mem_singleton.mpr rfl⟩, ha, hb, trivial⟩ hI hj ac_p0) (fun r ks h' hq => ?_)
  obtain ⟨q1, q2, q3, q4, c, hc, q5⟩ := hq
  refine ⟨q1, q2, q3, q4, ?_⟩
  rcases List.mem_cons.mp hc with rfl | hc
  · exact Or.inl (ac_g0 q5.1 (v := 0) (by decide))
  · have e := List.mem_singleton.mp hc
    subst e
    refine Or.inr ⟨ac_g0 q5.1 (v := 1) (by decide), ?_⟩
    obtain ⟨v, g1, g2⟩ := q5.2.2 _ (List.mem_singleton.mpr rfl)
    obtain ⟨x, rfl, x0, x1⟩ := g2
    exact ⟨x, Option.some.inj g1, x0, x1⟩
section ACD
variable {X : am_H → Prop}
theorem ac_JX_parts {h : am_H} (hj : ac_JX X h) : ab_M1 h ∧ ac_Np h ∧ ac_KW h := ⟨hj.1.1, hj.1.2.2.2.2.2.2.2.2.2.2.2.1, hj.1.2.2.2.2.2.2.2.2.2.2.2.2⟩
theorem ac_J_has (hX : ac_XF X) {h : am_H} (hI : ab_Inv (ab_hi ab_tab) h) (hj : ac_JX X h) {b g : Int32} {c q : Nat} (eb : h 164 17 = .int b) (b0 : 0 ≤ b.toInt) (hc : c < 7) (hq : (q : Int) = 28 + 7 * b.toInt + c) (hg : c = 3 → 1 ≤ g.toInt) : ac_JX X (am_up h 170 q (.int g)) := by
  obtain ⟨⟨j1, j2, j3, j4, j5, j6, j7, j8, j9, j10, j11, j12, j13⟩, hx⟩ := hj
  have hs : ∀ k, ¬ k = q → am_up h 170 q (.int g) 170 k = h 170 k := fun k hk => am_up_same _ _ _ _ _ hk
  refine ⟨⟨j1, j2, j3, j4, ?_, j6, ?_, j8, j9, ?_, ?_, j12, j13⟩, ac_X_up hX (by decide) (fun e => absurd e (by decide)) hx⟩
  · intro t n e ht
    obtain ⟨k, v, g1, g2, g3, g4, g5⟩ := j5 t n e ht
    exact ⟨k, v, g1, g2, g3, (hs _ (by omega)).trans g4, g5⟩
  · intro k n e hk
    obtain ⟨n', en, n0, n4⟩ := ac_g12 hI
    have e' : h 164 12 = .int n := e
    rw [en] at e'
    cases e'
    obtain ⟨⟨v, g1, g2⟩, v', g3, g4⟩ := j7 k n e hk
    exact ⟨⟨v, (hs _ (by omega)).trans g1, g2⟩, v', (hs _ (by omega)).trans g3, g4⟩
  · intro t n e ht
    obtain ⟨k, v, g1, g2, g3, g4, g5⟩ := j10 t n e ht
    by_cases hk : 28 + 7 * k.toInt.toNat + 3 = q
    · refine ⟨k, g, g1, g2, g3, by rw [hk]; exact am_up_self _ _ _ _, hg (by omega)⟩
    · exact ⟨k, v, g1, g2, g3, (hs _ hk).trans g4, g5⟩
  · intro k n e hk
    have e' : h 164 17 = .int n := e
    rw [eb] at e'
    cases e'
    obtain ⟨⟨v, g1, g2⟩, v', g3, g4⟩ := j11 k b e hk
    exact ⟨⟨v, (hs _ (by omega)).trans g1, g2⟩, v', (hs _ (by omega)).trans g3, g4⟩
theorem ac_J_b1 (hX : ac_XF X) {h : am_H} (hj : ac_JX X h) {b v2 v3 : Int32} (eb : h 164 17 = .int b) (b0 : 0 ≤ b.toInt) (b3 : b.toInt ≤ 3) (e2 : h 170 (28 + 7 * b.toInt.toNat + 2) = .int v2) (h2 : 1 ≤ v2.toInt) (e3 : h 170 (28 + 7 * b.toInt.toNat + 3) = .int v3) (h3 : 1 ≤ v3.toInt) : ac_JX X (am_up h 164 17 (.int (b + 1))) := by
  obtain ⟨⟨j1, j2, j3, j4, j5, j6, j7, j8, j9, j10, j11, j12, j13⟩, hx⟩ := hj
  refine ⟨⟨j1, j2, j3, j4, j5, j6, j7, j8, j9, j10, ?_, j12, j13⟩, ac_X_up hX (by decide) (fun _ => by decide) hx⟩
  intro k n e hk
  have e : Value.int (b + 1) = .int n := e
  cases e
  have eb1 := ac_c1 (x := b) b0 (by omega)
  by_cases h1 : (k : Int) < b.toInt
  · exact j11 k b eb h1
  · rw [show k = b.toInt.toNat by omega]
    exact ⟨⟨v2, e2, h2⟩, v3, e3, h3⟩
theorem ac_J_turn (hX : ac_XF X) {h : am_H} (hI : ab_Inv (ab_hi ab_tab) h) (hj : ac_JX X h) {t b : Int32} {q : Nat} (et : h 164 18 = .int t) (t0 : 0 ≤ t.toInt) (hq : (q : Int) = 8 + t.toInt) : ac_JX X (am_up h 171 q (.int b)) := by
  obtain ⟨⟨j1, j2, j3, j4, j5, j6, j7, j8, j9, j10, j11, j12, j13⟩, hx⟩ := hj
  have hs : ∀ k, ¬ k = q → am_up h 171 q (.int b) 171 k = h 171 k := fun k hk => am_up_same _ _ _ _ _ hk
  refine ⟨⟨j1, j2, j3, j4, ?_, j6, j7, j8, j9, ?_, j11, j12, j13⟩, ac_X_up hX (by decide) (fun e => absurd e (by decide)) hx⟩
  · intro t' n e ht
    obtain ⟨n', en, n0, n4⟩ := ac_g13 hI
    have e' : h 164 13 = .int n := e
    rw [en] at e'
    cases e'
    obtain ⟨k, v, g1, g2⟩ := j5 t' n e ht
    exact ⟨k, v, (hs _ (by omega)).trans g1, g2⟩
  · intro t' n e ht
    have e' : h 164 18 = .int n := e
    rw [et] at e'
    cases e'
    obtain ⟨k, v, g1, g2⟩ := j10 t' t e ht
    exact ⟨k, v, (hs _ (by omega)).trans g1, g2⟩
theorem ac_J_t1 (hX : ac_XF X) {h : am_H} (hj : ac_JX X h) {t b n : Int32} (et : h 164 18 = .int t) (t0 : 0 ≤ t.toInt) (t7 : t.toInt ≤ 7) (eb : h 171 (8 + t.toInt.toNat) = .int b) (b0 : 0 ≤ b.toInt) (b3 : b.toInt ≤ 3) (en : h 164 17 = .int n) (hb : b.toInt < n.toInt) : ac_JX X (am_up h 164 18 (.int (t + 1))) := by
  obtain ⟨⟨j1, j2, j3, j4, j5, j6, j7, j8, j9, j10, j11, j12, j13⟩, hx⟩ := hj
  refine ⟨⟨j1, j2, j3, j4, j5, j6, j7, j8, j9, ?_, j11, j12, j13⟩, ac_X_up hX (by decide) (fun _ => by decide) hx⟩
  intro t' n' e ht
  have e : Value.int (t + 1) = .int n' := e
  cases e
  have et1 := ac_c1 (x := t) t0 (by omega)
  by_cases h1 : (t' : Int) < t.toInt
  · exact j10 t' t et h1
  · rw [show t' = t.toInt.toNat by omega]
    obtain ⟨-, v, g3, g4⟩ := j11 b.toInt.toNat n en (by omega)
    exact ⟨b, v, eb, b0, b3, g3, g4⟩
theorem ac_J_leak (hX : ac_XF X) {h : am_H} (hj : ac_JX X h) {l g : Int32} {q : Nat} (el : h 164 19 = .int l) (l0 : 0 ≤ l.toInt) (hq : (q : Int) = 6 + l.toInt) (hg : 1 ≤ g.toInt) : ac_JX X (am_up h 173 q (.int g)) := by
  obtain ⟨⟨j1, j2, j3, j4, j5, j6, j7, j8, j9, j10, j11, j12, j13⟩, hx⟩ := hj
  have hs : ∀ k, ¬ k = q → am_up h 173 q (.int g) 173 k = h 173 k := fun k hk => am_up_same _ _ _ _ _ hk
  refine ⟨⟨j1, j2, j3, ?_, j5, j6, j7, j8, ?_, j10, j11, j12, j13⟩, ac_X_up hX (by decide) (fun e => absurd e (by decide)) hx⟩
  · intro l' e hl
    obtain ⟨v, g1, g2⟩ := j4 l' e hl
    exact ⟨v, (hs _ (by omega)).trans g1, g2⟩
  · intro l' e hl
    by_cases h6 : 6 = q
    · exact ⟨g, by rw [h6]; exact am_up_self _ _ _ _, hg⟩
    · obtain ⟨v, g1, g2⟩ := j9 l' e hl
      exact ⟨v, (hs _ h6).trans g1, g2⟩
theorem ac_J_l1 (hX : ac_XF X) {h : am_H} (hj : ac_JX X h) {l v : Int32} (e6 : h 173 6 = .int v) (h6 : 1 ≤ v.toInt) : ac_JX X (am_up h 164 19 (.int l)) := by
  obtain ⟨⟨j1, j2, j3, j4, j5, j6, j7, j8, j9, j10, j11, j12, j13⟩, hx⟩ := hj
  exact ⟨⟨j1, j2, j3, j4, j5, j6, j7, j8, fun _ _ _ => ⟨v, e6, h6⟩, j10, j11, j12, j13⟩, ac_X_up hX (by decide) (fun _ => by decide) hx⟩
theorem ac_find_l {h : am_H} {o f n x : Int32} {c L : Nat} (hk : am_ks0[c]? = some (.inr (.int, L))) (hv : ∀ q, q < L → ∃ v : Int32, h c q = .int v) (f0 : 0 ≤ f.toInt) (f9 : f.toInt ≤ 100) (n9 : n.toInt ≤ 100) (hL : f.toInt + n.toInt ≤ L) : ∀ (d : Nat) (k : Int32), 0 ≤ k.toInt → n.toInt - k.toInt ≤ d → k.toInt ≤ 100 → am_Ek false am_G0 am_m165 2 [(0, .ref c), (1, .int f), (2, .int n), (3, .int x), (4, .int k)] [] am_ks0 h 0 0 (fun r ks h' => ks = am_ks0 ∧ h' = h ∧ (r = some (.int (-1)) ∨ ∃ b : Int32, r = some (.int b) ∧ 0 ≤ b.toInt ∧ b.toInt < n.toInt)) := by
  intro d
  induction d with
  | zero =>
    intro k k0 hd k9
    refine am_e_iload (am_nxt_of (i := (3, 2, .iload 4, (0, 0, 0), 0)) (by decide +kernel)) (v := k) rfl ?_
    refine am_e_iload_n (am_nxt_of (i := (5, 1, .iload_n 2, (0, 0, 0), 0)) (by decide +kernel)) (v := n) rfl ?_
    refine am_e_cmpT (am_nxt_of (i := (6, 3, .if_icmp .ge 22, (16, 0, 0), 0)) (by decide +kernel)) (am_c_geT (ac_nlt (by omega))) (am_tgt_of (by decide +kernel)) ?_
    refine am_e_iconst (w := (-1)) (am_nxt_of (i := (28, 1, .iconst (-1), (0, 0, 0), 0)) (by decide +kernel)) rfl ?_
    exact am_e_iret (ty := .int) (am_cur_of (i := (29, 1, .ireturn, (0, 0, 0), 0)) (by decide +kernel)) rfl rfl rfl ⟨rfl, rfl, Or.inl rfl⟩
  | succ d ih =>
    intro k k0 hd k9
    refine am_e_iload (am_nxt_of (i := (3, 2, .iload 4, (0, 0, 0), 0)) (by decide +kernel)) (v := k) rfl ?_
    refine am_e_iload_n (am_nxt_of (i := (5, 1, .iload_n 2, (0, 0, 0), 0)) (by decide +kernel)) (v := n) rfl ?_
    by_cases hlt : (k : Int32) < n
    · refine am_e_cmpF (am_nxt_of (i := (6, 3, .if_icmp .ge 22, (16, 0, 0), 0)) (by decide +kernel)) (am_c_geF hlt) ?_
      have hlt := ac_lt' hlt
      have e1 := ab_iadd (x := f) (y := k) (by omega) (by omega)
      have hix := ab_ix (x := f + k) (n := L) (by omega) (by omega)
      obtain ⟨v, ev⟩ := hv (f + k).toNatClampNeg (Nat.lt_of_not_le (fun q => hix (Or.inr q)))
      refine am_e_aload_n (am_nxt_of (i := (9, 1, .aload_n 0, (0, 0, 0), 0)) (by decide +kernel)) (v := c) rfl ?_
      refine am_e_iload_n (am_nxt_of (i := (10, 1, .iload_n 1, (0, 0, 0), 0)) (by decide +kernel)) (v := f) rfl ?_
      refine am_e_iload (am_nxt_of (i := (11, 2, .iload 4, (0, 0, 0), 0)) (by decide +kernel)) (v := k) rfl ?_
      refine am_e_iadd (w := f + k) (am_nxt_of (i := (13, 1, .iadd, (0, 0, 0), 0)) (by decide +kernel)) rfl ?_
      refine am_e_iaload (v := v) (am_nxt_of (i := (14, 1, .iaload, (0, 0, 0), 0)) (by decide +kernel)) hk hix rfl ev ?_
      refine am_e_iload_n (am_nxt_of (i := (15, 1, .iload_n 3, (0, 0, 0), 0)) (by decide +kernel)) (v := x) rfl ?_
      by_cases hx : (v : Int32) = x
      · refine am_e_cmpF (am_nxt_of (i := (16, 3, .if_icmp .ne 6, (14, 0, 0), 0)) (by decide +kernel)) (am_c_neF hx) ?_
        refine am_e_iload (am_nxt_of (i := (19, 2, .iload 4, (0, 0, 0), 0)) (by decide +kernel)) (v := k) rfl ?_
        exact am_e_iret (ty := .int) (am_cur_of (i := (21, 1, .ireturn, (0, 0, 0), 0)) (by decide +kernel)) rfl rfl rfl ⟨rfl, rfl, Or.inr ⟨_, rfl, k0, hlt⟩⟩
      · refine am_e_cmpT (am_nxt_of (i := (16, 3, .if_icmp .ne 6, (14, 0, 0), 0)) (by decide +kernel)) (am_c_neT hx) (am_tgt_of (by decide +kernel)) ?_
        refine am_e_iinc (w := k + Int32.ofInt 1) (ls' := [(4, .int (k + Int32.ofInt 1)), (0, .ref c), (1, .int f), (2, .int n), (3, .int x)]) (am_nxt_of (i := (22, 3, .iinc 4 1, (0, 0, 0), 0)) (by decide +kernel)) (v := k) rfl (by decide +kernel) rfl rfl ?_
        refine am_e_goto (am_cur_of (i := (25, 3, .goto (-22), (2, 0, 0), 0)) (by decide +kernel)) (am_tgt_of (by decide +kernel)) ?_
        refine am_Ek_ls (ls' := [(0, .ref c), (1, .int f), (2, .int n), (3, .int x), (4, .int (k + Int32.ofInt 1))]) ⟨rfl, rfl, rfl, rfl, rfl, trivial⟩ ?_
        have e2 := ab_inc1 k0 (by omega)
        exact ih _ (by omega) (by omega) (by omega)
    · refine am_e_cmpT (am_nxt_of (i := (6, 3, .if_icmp .ge 22, (16, 0, 0), 0)) (by decide +kernel)) (am_c_geT hlt) (am_tgt_of (by decide +kernel)) ?_
      refine am_e_iconst (w := (-1)) (am_nxt_of (i := (28, 1, .iconst (-1), (0, 0, 0), 0)) (by decide +kernel)) rfl ?_
      exact am_e_iret (ty := .int) (am_cur_of (i := (29, 1, .ireturn, (0, 0, 0), 0)) (by decide +kernel)) rfl rfl rfl ⟨rfl, rfl, Or.inl rfl⟩
theorem ac_find {h : am_H} {f n x : Int32} {c L : Nat} (hk : am_ks0[c]? = some (.inr (.int, L))) (hv : ∀ q, q < L → ∃ v : Int32, h c q = .int v) (f0 : 0 ≤ f.toInt) (f9 : f.toInt ≤ 100) (n9 : n.toInt ≤ 100) (hL : f.toInt + n.toInt ≤ L) : am_Ek false am_G0 am_m165 0 (lv_args 0 [.ref c, .int f, .int n, .int x]) [] am_ks0 h 0 0 (fun r ks h' => ks = am_ks0 ∧ h' = h ∧ (r = some (.int (-1)) ∨ ∃ b : Int32, r = some (.int b) ∧ 0 ≤ b.toInt ∧ b.toInt < n.toInt)) := by
  refine am_e_iconst (w := 0) (am_nxt_of (i := (0, 1, .iconst 0, (0, 0, 0), 0)) (by decide +kernel)) rfl ?_
  refine am_e_istore (ls' := [(4, .int 0), (0, .ref c), (1, .int f), (2, .int n), (3, .int x)]) (am_nxt_of (i := (1, 2, .istore 4, (0, 0, 0), 0)) (by decide +kernel)) (by decide +kernel) rfl ?_
  refine am_Ek_ls (ls' := [(0, .ref c), (1, .int f), (2, .int n), (3, .int x), (4, .int 0)]) ⟨rfl, rfl, rfl, rfl, rfl, trivial⟩ ?_
  exact ac_find_l (o := 0) hk hv f0 f9 n9 hL 100 0 (by decide) (by rw [show (0 : Int32).toInt = 0 by decide]; omega) (by decide)
abbrev ac_lnM : List (Nat × Nat) := [(164, 5), (164, 6), (164, 8), (164, 9), (164, 10), (164, 11), (164, 12), (164, 18), (164, 19), (164, 20), (169, 0), (170, 0), (171, 0), (172, 0), (173, 0), (174, 0)]
abbrev ac_lnQ (J : am_H → Prop) (md : List (Nat × Nat)) (h0 : am_H) : Option Value → List am_k → am_H → Prop := fun r ks h' => ks = am_ks0 ∧ ab_Inv (ab_hi ab_tab) h' ∧ J h' ∧ ab_Fr md h0 h' ∧ (r = some (.int 0) ∨ r = some (.int 1))
theorem ac_leakLine (hX : ac_XF X) (hpk : ab_Con ab_tab (fun _ => True) ab_S_packed_x_x) (hn1 : ab_Con ab_tab (ac_JX X) ab_S_number_1_99) (hn2 : ab_Con ab_tab (ac_JX X) ab_S_number_0_99) {h : am_H} (hI : ab_Inv (ab_hi ab_tab) h) (hj : ac_JX X h) : am_Ek false am_G0 am_m168 0 (lv_args 0 [.ref 164]) [] am_ks0 h 0 0 (ac_lnQ (ac_JX X) [(164, 5), (164, 6), (164, 8), (164, 9), (164, 10), (164, 11), (164, 12), (164, 20), (173, 0), (174, 0)] h) := by
  have z6 : (6 : Int32).toInt = 6 := by decide
  obtain ⟨l, el, l_0, l_1⟩ := ac_g19 hI
  refine am_e_aload_n (am_nxt_of (i := (0, 1, .aload_n 0, (0, 0, 0), 0)) (by decide +kernel)) (v := 164) rfl ?_
  refine am_e_getf (v := .int l) (am_nxt_of (i := (1, 3, .getfield 207, (12, 19, 1403), 0)) (by decide +kernel)) ac_o el ?_
  refine am_e_bipush (w := 6) (am_nxt_of (i := (4, 2, .bipush 6, (0, 0, 0), 0)) (by decide +kernel)) (by decide) ?_
  by_cases h6 : (l : Int32) = 6
  · refine am_e_cmpF (am_nxt_of (i := (6, 3, .if_icmp .ne 9, (8, 0, 0), 0)) (by decide +kernel)) (am_c_neF h6) ?_
    refine am_e_aload_n (am_nxt_of (i := (9, 1, .aload_n 0, (0, 0, 0), 0)) (by decide +kernel)) (v := 164) rfl ?_
    refine am_e_iconst (w := 2) (am_nxt_of (i := (10, 1, .iconst 2, (0, 0, 0), 0)) (by decide +kernel)) rfl ?_
    refine am_e_callV (M' := am_m158) (o := 164) (ar := [.int 2]) (rest := []) (L := lv_args 0 [.ref 164, .int 2]) (am_nxt_of (i := (11, 3, .invokevirtual 181, (158, 1665, 3), 0)) (by decide +kernel)) rfl rfl rfl rfl ac_o rfl rfl rfl ?_
    refine am_Ev_mono (ac_wrong hI (by decide) (by decide)) (fun r ks h' hq => ?_)
    obtain ⟨rfl, rfl, q1, q2⟩ := hq
    show am_Ek false am_G0 am_m168 7 _ [.int 0] _ _ _ _ _
    exact am_e_iret (ty := .boolean) (am_cur_of (i := (14, 1, .ireturn, (0, 0, 0), 0)) (by decide +kernel)) rfl rfl rfl ⟨rfl, q1, ac_JX_fr hX rfl _ _ q2 hj, ab_Fr_trans ab_Fr_refl (ab_mdle_Fr (by decide) q2), Or.inl rfl⟩
  · refine am_e_cmpT (am_nxt_of (i := (6, 3, .if_icmp .ne 9, (8, 0, 0), 0)) (by decide +kernel)) (am_c_neT h6) (am_tgt_of (by decide +kernel)) ?_
    have h6 := ac_ne' h6
    refine am_e_aload_n (am_nxt_of (i := (15, 1, .aload_n 0, (0, 0, 0), 0)) (by decide +kernel)) (v := 164) rfl ?_
    refine am_e_callV (M' := am_m151) (o := 164) (ar := []) (rest := []) (L := lv_args 0 [.ref 164]) (am_nxt_of (i := (16, 3, .invokevirtual 191, (151, 1636, 3), 0)) (by decide +kernel)) rfl rfl rfl rfl ac_o rfl rfl rfl ?_
    refine am_Ev_mono (ac_token hpk hI (ac_JX_parts hj).1 (ac_JX_parts hj).2.1) (fun r ks h1 hq => ?_)
    obtain ⟨rfl, rfl, I1, tk1⟩ := hq
    show am_Ek false am_G0 am_m168 10 _ [] _ _ _ _ _
    have J1 := ac_JX_tk hX _ _ tk1 hj
    have F1 := ab_Fr_trans ab_Fr_refl (ab_mdle_Fr (md' := [(164, 5), (164, 6), (164, 8), (164, 9), (164, 10), (164, 11), (164, 12), (164, 20), (173, 0), (174, 0)]) (by decide) tk1.1)
    refine am_e_aload_n (am_nxt_of (i := (19, 1, .aload_n 0, (0, 0, 0), 0)) (by decide +kernel)) (v := 164) rfl ?_
    refine am_e_iconst (w := 1) (am_nxt_of (i := (20, 1, .iconst 1, (0, 0, 0), 0)) (by decide +kernel)) rfl ?_
    refine am_e_bipush (w := 99) (am_nxt_of (i := (21, 2, .bipush 99, (0, 0, 0), 0)) (by decide +kernel)) (by decide) ?_
    refine am_e_callV (M' := am_m161) (o := 164) (ar := [.int 99, .int 1]) (rest := []) (L := lv_args 0 [.ref 164, .int 1, .int 99]) (am_nxt_of (i := (23, 3, .invokevirtual 197, (161, 1677, 3), 0)) (by decide +kernel)) rfl rfl rfl rfl ac_o rfl rfl rfl ?_
    refine am_Ev_mono (ac_num hn1 rfl (ab_i_ok (by decide) (by decide)) (ab_i_ok (by decide) (by decide)) I1 J1) (fun r ks h2 hq => ?_)
    obtain ⟨rfl, I2, J2, f2, rfl | ⟨rfl, g2, eg2, g0_2, g1_2⟩⟩ := hq
    · show am_Ek false am_G0 am_m168 14 _ [.int 0] _ _ _ _ _
      refine am_e_ifF (am_nxt_of (i := (26, 3, .ifCond .ne 5, (17, 0, 0), 0)) (by decide +kernel)) (am_c_neF rfl) ?_
      refine am_e_iconst (w := 0) (am_nxt_of (i := (29, 1, .iconst 0, (0, 0, 0), 0)) (by decide +kernel)) rfl ?_
      exact am_e_iret (ty := .boolean) (am_cur_of (i := (30, 1, .ireturn, (0, 0, 0), 0)) (by decide +kernel)) rfl rfl rfl ⟨rfl, I2, J2, ab_Fr_trans F1 (ab_mdle_Fr (by decide) f2), Or.inl rfl⟩
    · show am_Ek false am_G0 am_m168 14 _ [.int 1] _ _ _ _ _
      refine am_e_ifT (am_nxt_of (i := (26, 3, .ifCond .ne 5, (17, 0, 0), 0)) (by decide +kernel)) (am_c_neT (by decide)) (am_tgt_of (by decide +kernel)) ?_
      have F2 := ab_Fr_trans F1 (ab_mdle_Fr (md' := [(164, 5), (164, 6), (164, 8), (164, 9), (164, 10), (164, 11), (164, 12), (164, 20), (173, 0), (174, 0)]) (by decide) f2)
      have el2 : h2 164 19 = .int l := (f2 164 19 (by decide)).trans ((tk1.1 164 19 (by decide)).trans el)
      have e6 := ab_iadd (x := 6) (y := l) (by omega) (by omega)
      have hix := ab_ix (x := 6 + l) (n := 12) (by omega) (by omega)
      have ecl : ((6 : Int32) + l).toNatClampNeg = 6 + l.toInt.toNat := ab_clamp (by omega)
      refine am_e_aload_n (am_nxt_of (i := (31, 1, .aload_n 0, (0, 0, 0), 0)) (by decide +kernel)) (v := 164) rfl ?_
      refine am_e_getf (am_nxt_of (i := (32, 3, .getfield 39, (12, 28, 1412), 0)) (by decide +kernel)) ac_o (ac_f28 I2) ?_
      refine am_e_bipush (w := 6) (am_nxt_of (i := (35, 2, .bipush 6, (0, 0, 0), 0)) (by decide +kernel)) (by decide) ?_
      refine am_e_aload_n (am_nxt_of (i := (37, 1, .aload_n 0, (0, 0, 0), 0)) (by decide +kernel)) (v := 164) rfl ?_
      refine am_e_getf (v := .int l) (am_nxt_of (i := (38, 3, .getfield 207, (12, 19, 1403), 0)) (by decide +kernel)) ac_o el2 ?_
      refine am_e_iadd (w := 6 + l) (am_nxt_of (i := (41, 1, .iadd, (0, 0, 0), 0)) (by decide +kernel)) rfl ?_
      refine am_e_aload_n (am_nxt_of (i := (42, 1, .aload_n 0, (0, 0, 0), 0)) (by decide +kernel)) (v := 164) rfl ?_
      refine am_e_getf (v := .int g2) (am_nxt_of (i := (43, 3, .getfield 188, (12, 11, 1395), 0)) (by decide +kernel)) ac_o eg2 ?_
      refine am_e_iastore (am_nxt_of (i := (46, 1, .iastore, (0, 0, 0), 0)) (by decide +kernel)) ac_k173 hix ecl ?_
      have I3 := ac_w173 (q := 6 + l.toInt.toNat) (v := g2) I2 (by omega) (by omega)
      have J3 := ac_J_leak hX J2 el2 l_0 (q := 6 + l.toInt.toNat) (by omega) g0_2
      have F3 := ab_Fr_up (o := 173) (k := 6 + l.toInt.toNat) (v := .int g2) rfl F2
      refine am_e_aload_n (am_nxt_of (i := (47, 1, .aload_n 0, (0, 0, 0), 0)) (by decide +kernel)) (v := 164) rfl ?_
      refine am_e_iconst (w := 0) (am_nxt_of (i := (48, 1, .iconst 0, (0, 0, 0), 0)) (by decide +kernel)) rfl ?_
      refine am_e_bipush (w := 99) (am_nxt_of (i := (49, 2, .bipush 99, (0, 0, 0), 0)) (by decide +kernel)) (by decide) ?_
      refine am_e_callV (M' := am_m161) (o := 164) (ar := [.int 99, .int 0]) (rest := []) (L := lv_args 0 [.ref 164, .int 0, .int 99]) (am_nxt_of (i := (51, 3, .invokevirtual 197, (161, 1677, 3), 0)) (by decide +kernel)) rfl rfl rfl rfl ac_o rfl rfl rfl ?_
      refine am_Ev_mono (ac_num hn2 rfl (ab_i_ok (by decide) (by decide)) (ab_i_ok (by decide) (by decide)) I3 J3) (fun r ks h4 hq => ?_)
      obtain ⟨rfl, I4, J4, f4, rfl | ⟨rfl, g4, eg4, g0_4, g1_4⟩⟩ := hq
      · show am_Ek false am_G0 am_m168 30 _ [.int 0] _ _ _ _ _
        refine am_e_ifF (am_nxt_of (i := (54, 3, .ifCond .ne 5, (33, 0, 0), 0)) (by decide +kernel)) (am_c_neF rfl) ?_
        refine am_e_iconst (w := 0) (am_nxt_of (i := (57, 1, .iconst 0, (0, 0, 0), 0)) (by decide +kernel)) rfl ?_
        exact am_e_iret (ty := .boolean) (am_cur_of (i := (58, 1, .ireturn, (0, 0, 0), 0)) (by decide +kernel)) rfl rfl rfl ⟨rfl, I4, J4, ab_Fr_trans F3 (ab_mdle_Fr (by decide) f4), Or.inl rfl⟩
      · show am_Ek false am_G0 am_m168 30 _ [.int 1] _ _ _ _ _
        refine am_e_ifT (am_nxt_of (i := (54, 3, .ifCond .ne 5, (33, 0, 0), 0)) (by decide +kernel)) (am_c_neT (by decide)) (am_tgt_of (by decide +kernel)) ?_
        have F4 := ab_Fr_trans F3 (ab_mdle_Fr (md' := [(164, 5), (164, 6), (164, 8), (164, 9), (164, 10), (164, 11), (164, 12), (164, 20), (173, 0), (174, 0)]) (by decide) f4)
        have el4 : h4 164 19 = .int l := (f4 164 19 (by decide)).trans el2
        refine am_e_aload_n (am_nxt_of (i := (59, 1, .aload_n 0, (0, 0, 0), 0)) (by decide +kernel)) (v := 164) rfl ?_
        refine am_e_getf (am_nxt_of (i := (60, 3, .getfield 42, (12, 29, 1413), 0)) (by decide +kernel)) ac_o (ac_f29 I4) ?_
        refine am_e_bipush (w := 6) (am_nxt_of (i := (63, 2, .bipush 6, (0, 0, 0), 0)) (by decide +kernel)) (by decide) ?_
        refine am_e_aload_n (am_nxt_of (i := (65, 1, .aload_n 0, (0, 0, 0), 0)) (by decide +kernel)) (v := 164) rfl ?_
        refine am_e_getf (v := .int l) (am_nxt_of (i := (66, 3, .getfield 207, (12, 19, 1403), 0)) (by decide +kernel)) ac_o el4 ?_
        refine am_e_iadd (w := 6 + l) (am_nxt_of (i := (69, 1, .iadd, (0, 0, 0), 0)) (by decide +kernel)) rfl ?_
        refine am_e_aload_n (am_nxt_of (i := (70, 1, .aload_n 0, (0, 0, 0), 0)) (by decide +kernel)) (v := 164) rfl ?_
        refine am_e_getf (v := .int g4) (am_nxt_of (i := (71, 3, .getfield 188, (12, 11, 1395), 0)) (by decide +kernel)) ac_o eg4 ?_
        refine am_e_iastore (am_nxt_of (i := (74, 1, .iastore, (0, 0, 0), 0)) (by decide +kernel)) ac_k174 hix ecl ?_
        have I5 := ac_w174 (q := 6 + l.toInt.toNat) (v := g4) I4 (by omega) (by omega)
        have J5 := ac_JX_fr hX (md := [(174, 0)]) rfl _ (am_up h4 174 (6 + l.toInt.toNat) (.int g4)) (ab_Fr_up rfl ab_Fr_refl) J4
        have F5 := ab_Fr_up (o := 174) (k := 6 + l.toInt.toNat) (v := .int g4) rfl F4
        have h6v : ∃ v : Int32, h4 173 6 = .int v ∧ 1 ≤ v.toInt := by
          by_cases hl : l.toInt = 0
          · refine ⟨g2, (f4 173 6 rfl).trans ?_, g0_2⟩
            rw [show 6 + l.toInt.toNat = 6 by omega]
            exact am_up_self _ _ _ _
          · exact J4.1.2.2.2.2.2.2.2.2.1 l el4 (by omega)
        obtain ⟨v6, ev6, hv6⟩ := h6v
        have el1 := ac_c1 (x := l) l_0 (by omega)
        have I6 := ac_p19 (v := l + 1) I5 (by omega) (by omega)
        refine am_e_aload_n (am_nxt_of (i := (75, 1, .aload_n 0, (0, 0, 0), 0)) (by decide +kernel)) (v := 164) rfl ?_
        refine am_e_dup (am_nxt_of (i := (76, 1, .dup, (0, 0, 0), 0)) (by decide +kernel)) rfl ?_
        refine am_e_getf (v := .int l) (am_nxt_of (i := (77, 3, .getfield 207, (12, 19, 1403), 0)) (by decide +kernel)) ac_o el4 ?_
        refine am_e_iconst (w := 1) (am_nxt_of (i := (80, 1, .iconst 1, (0, 0, 0), 0)) (by decide +kernel)) rfl ?_
        refine am_e_iadd (w := l + 1) (am_nxt_of (i := (81, 1, .iadd, (0, 0, 0), 0)) (by decide +kernel)) rfl ?_
        refine am_e_putf (am_nxt_of (i := (82, 3, .putfield 207, (12, 19, 1403), 0)) (by decide +kernel)) ac_o rfl ?_
        refine am_e_iconst (w := 1) (am_nxt_of (i := (85, 1, .iconst 1, (0, 0, 0), 0)) (by decide +kernel)) rfl ?_
        exact am_e_iret (ty := .boolean) (am_cur_of (i := (86, 1, .ireturn, (0, 0, 0), 0)) (by decide +kernel)) rfl rfl rfl ⟨rfl, I6, ac_J_l1 hX J5 ev6 hv6, ab_Fr_up rfl F5, Or.inr rfl⟩
theorem ac_turnLine (hX : ac_XF X) (hpk : ab_Con ab_tab (fun _ => True) ab_S_packed_x_x) (hn : ab_Con ab_tab (ac_JX X) ab_S_number_1_20) {h : am_H} (hI : ab_Inv (ab_hi ab_tab) h) (hj : ac_JX X h) : am_Ek false am_G0 am_m166 0 (lv_args 0 [.ref 164]) [] am_ks0 h 0 0 (ac_lnQ (ac_JX X) [(164, 5), (164, 6), (164, 8), (164, 9), (164, 10), (164, 11), (164, 12), (164, 19), (171, 0), (172, 0)] h) := by
  have z8 : (8 : Int32).toInt = 8 := by decide
  have z0 : (0 : Int32).toInt = 0 := by decide
  obtain ⟨t, et, t_0, t_1⟩ := ac_g18 hI
  obtain ⟨n, en, n_0, n_1⟩ := ac_g17 hI
  refine am_e_aload_n (am_nxt_of (i := (0, 1, .aload_n 0, (0, 0, 0), 0)) (by decide +kernel)) (v := 164) rfl ?_
  refine am_e_getf (v := .int t) (am_nxt_of (i := (1, 3, .getfield 204, (12, 18, 1402), 0)) (by decide +kernel)) ac_o et ?_
  refine am_e_bipush (w := 8) (am_nxt_of (i := (4, 2, .bipush 8, (0, 0, 0), 0)) (by decide +kernel)) (by decide) ?_
  by_cases h8 : (t : Int32) = 8
  · refine am_e_cmpF (am_nxt_of (i := (6, 3, .if_icmp .ne 9, (8, 0, 0), 0)) (by decide +kernel)) (am_c_neF h8) ?_
    refine am_e_aload_n (am_nxt_of (i := (9, 1, .aload_n 0, (0, 0, 0), 0)) (by decide +kernel)) (v := 164) rfl ?_
    refine am_e_iconst (w := 2) (am_nxt_of (i := (10, 1, .iconst 2, (0, 0, 0), 0)) (by decide +kernel)) rfl ?_
    refine am_e_callV (M' := am_m158) (o := 164) (ar := [.int 2]) (rest := []) (L := lv_args 0 [.ref 164, .int 2]) (am_nxt_of (i := (11, 3, .invokevirtual 181, (158, 1665, 3), 0)) (by decide +kernel)) rfl rfl rfl rfl ac_o rfl rfl rfl ?_
    refine am_Ev_mono (ac_wrong hI (by decide) (by decide)) (fun r ks h' hq => ?_)
    obtain ⟨rfl, rfl, q1, q2⟩ := hq
    show am_Ek false am_G0 am_m166 7 _ [.int 0] _ _ _ _ _
    exact am_e_iret (ty := .boolean) (am_cur_of (i := (14, 1, .ireturn, (0, 0, 0), 0)) (by decide +kernel)) rfl rfl rfl ⟨rfl, q1, ac_JX_fr hX rfl _ _ q2 hj, ab_Fr_trans ab_Fr_refl (ab_mdle_Fr (by decide) q2), Or.inl rfl⟩
  · refine am_e_cmpT (am_nxt_of (i := (6, 3, .if_icmp .ne 9, (8, 0, 0), 0)) (by decide +kernel)) (am_c_neT h8) (am_tgt_of (by decide +kernel)) ?_
    have h8 := ac_ne' h8
    refine am_e_aload_n (am_nxt_of (i := (15, 1, .aload_n 0, (0, 0, 0), 0)) (by decide +kernel)) (v := 164) rfl ?_
    refine am_e_callV (M' := am_m151) (o := 164) (ar := []) (rest := []) (L := lv_args 0 [.ref 164]) (am_nxt_of (i := (16, 3, .invokevirtual 191, (151, 1636, 3), 0)) (by decide +kernel)) rfl rfl rfl rfl ac_o rfl rfl rfl ?_
    refine am_Ev_mono (ac_token hpk hI (ac_JX_parts hj).1 (ac_JX_parts hj).2.1) (fun r ks h1 hq => ?_)
    obtain ⟨rfl, rfl, I1, tk1⟩ := hq
    show am_Ek false am_G0 am_m166 10 _ [] _ _ _ _ _
    have J1 := ac_JX_tk hX _ _ tk1 hj
    have F1 := ab_Fr_trans ab_Fr_refl (ab_mdle_Fr (md' := [(164, 5), (164, 6), (164, 8), (164, 9), (164, 10), (164, 11), (164, 12), (164, 19), (171, 0), (172, 0)]) (by decide) tk1.1)
    have en1 : h1 164 17 = .int n := (tk1.1 164 17 (by decide)).trans en
    obtain ⟨k, ek, k_0, k_1⟩ := ac_g8 I1
    obtain ⟨x, ex, x_0, x_1⟩ := ac_g9 I1
    refine am_e_aload_n (am_nxt_of (i := (19, 1, .aload_n 0, (0, 0, 0), 0)) (by decide +kernel)) (v := 164) rfl ?_
    refine am_e_getf (v := .int k) (am_nxt_of (i := (20, 3, .getfield 157, (12, 8, 1392), 0)) (by decide +kernel)) ac_o ek ?_
    refine am_e_iconst (w := 2) (am_nxt_of (i := (23, 1, .iconst 2, (0, 0, 0), 0)) (by decide +kernel)) rfl ?_
    by_cases hk2 : (k : Int32) = 2
    · refine am_e_cmpT (am_nxt_of (i := (24, 3, .if_icmp .eq 9, (18, 0, 0), 0)) (by decide +kernel)) (am_c_eqT hk2) (am_tgt_of (by decide +kernel)) ?_
      refine am_e_aload_n (am_nxt_of (i := (33, 1, .aload_n 0, (0, 0, 0), 0)) (by decide +kernel)) (v := 164) rfl ?_
      refine am_e_getf (am_nxt_of (i := (34, 3, .getfield 27, (12, 24, 1408), 0)) (by decide +kernel)) ac_o (ac_f24 I1) ?_
      refine am_e_iconst (w := 4) (am_nxt_of (i := (37, 1, .iconst 4, (0, 0, 0), 0)) (by decide +kernel)) rfl ?_
      refine am_e_aload_n (am_nxt_of (i := (38, 1, .aload_n 0, (0, 0, 0), 0)) (by decide +kernel)) (v := 164) rfl ?_
      refine am_e_getf (v := .int n) (am_nxt_of (i := (39, 3, .getfield 201, (12, 17, 1401), 0)) (by decide +kernel)) ac_o en1 ?_
      refine am_e_aload_n (am_nxt_of (i := (42, 1, .aload_n 0, (0, 0, 0), 0)) (by decide +kernel)) (v := 164) rfl ?_
      refine am_e_getf (v := .int x) (am_nxt_of (i := (43, 3, .getfield 168, (12, 9, 1393), 0)) (by decide +kernel)) ac_o ex ?_
      refine am_e_callS (M' := am_m165) (ar := [.int x, .int n, .int 4, .ref 169]) (rest := []) (L := lv_args 0 [.ref 169, .int 4, .int n, .int x]) (am_nxt_of (i := (46, 3, .invokestatic 241, (165, 1692, 3), 0)) (by decide +kernel)) rfl rfl rfl rfl rfl rfl rfl ?_
      refine am_Ev_mono (ac_find (L := 8) (c := 169) ac_k169 (fun q hq => by obtain ⟨v, ev, -⟩ := ac_r169 I1 hq; exact ⟨v, ev⟩) (by decide) (by decide) (by omega) (by rw [show (4 : Int32).toInt = 4 by decide]; omega)) (fun r ks h2 hq => ?_)
      obtain ⟨rfl, rfl, hr⟩ := hq
      obtain ⟨b, rfl, hb⟩ : ∃ b : Int32, r = some (.int b) ∧ (b = -1 ∨ 0 ≤ b.toInt ∧ b.toInt < n.toInt) := by
        rcases hr with rfl | ⟨b, rfl, q⟩
        · exact ⟨-1, rfl, Or.inl rfl⟩
        · exact ⟨b, rfl, Or.inr q⟩
      show am_Ek false am_G0 am_m166 26 _ [.int b] _ _ _ _ _
      refine am_e_istore_n (ls' := [(1, .int b), (0, .ref 164)]) (am_nxt_of (i := (49, 1, .istore_n 1, (0, 0, 0), 0)) (by decide +kernel)) (by decide +kernel) rfl ?_
      refine am_e_iload_n (am_nxt_of (i := (50, 1, .iload_n 1, (0, 0, 0), 0)) (by decide +kernel)) (v := b) rfl ?_
      by_cases hb0 : (b : Int32) < 0
      · refine am_e_ifF (am_nxt_of (i := (51, 3, .ifCond .ge 9, (33, 0, 0), 0)) (by decide +kernel)) (am_c_geF hb0) ?_
        refine am_e_aload_n (am_nxt_of (i := (54, 1, .aload_n 0, (0, 0, 0), 0)) (by decide +kernel)) (v := 164) rfl ?_
        refine am_e_iconst (w := 4) (am_nxt_of (i := (55, 1, .iconst 4, (0, 0, 0), 0)) (by decide +kernel)) rfl ?_
        refine am_e_callV (M' := am_m158) (o := 164) (ar := [.int 4]) (rest := []) (L := lv_args 0 [.ref 164, .int 4]) (am_nxt_of (i := (56, 3, .invokevirtual 181, (158, 1665, 3), 0)) (by decide +kernel)) rfl rfl rfl rfl ac_o rfl rfl rfl ?_
        refine am_Ev_mono (ac_wrong I1 (by decide) (by decide)) (fun r ks h' hq => ?_)
        obtain ⟨rfl, rfl, q1, q2⟩ := hq
        show am_Ek false am_G0 am_m166 32 _ [.int 0] _ _ _ _ _
        exact am_e_iret (ty := .boolean) (am_cur_of (i := (59, 1, .ireturn, (0, 0, 0), 0)) (by decide +kernel)) rfl rfl rfl ⟨rfl, q1, ac_JX_fr hX rfl _ _ q2 J1, ab_Fr_trans F1 (ab_mdle_Fr (by decide) q2), Or.inl rfl⟩
      · refine am_e_ifT (am_nxt_of (i := (51, 3, .ifCond .ge 9, (33, 0, 0), 0)) (by decide +kernel)) (am_c_geT hb0) (am_tgt_of (by decide +kernel)) ?_
        have b0 := ac_nlt' hb0
        have hbn : b.toInt < n.toInt := by
          rcases hb with rfl | q
          · exact absurd b0 (by decide)
          · exact q.2
        refine am_e_aload_n (am_nxt_of (i := (60, 1, .aload_n 0, (0, 0, 0), 0)) (by decide +kernel)) (v := 164) rfl ?_
        refine am_e_callV (M' := am_m151) (o := 164) (ar := []) (rest := []) (L := lv_args 0 [.ref 164]) (am_nxt_of (i := (61, 3, .invokevirtual 191, (151, 1636, 3), 0)) (by decide +kernel)) rfl rfl rfl rfl ac_o rfl rfl rfl ?_
        refine am_Ev_mono (ac_token hpk I1 (ac_JX_parts J1).1 (ac_JX_parts J1).2.1) (fun r ks h3 hq => ?_)
        obtain ⟨rfl, rfl, I3, tk3⟩ := hq
        show am_Ek false am_G0 am_m166 35 _ [] _ _ _ _ _
        have J3 := ac_JX_tk hX _ _ tk3 J1
        have F3 := ab_Fr_trans F1 (ab_mdle_Fr (md' := [(164, 5), (164, 6), (164, 8), (164, 9), (164, 10), (164, 11), (164, 12), (164, 19), (171, 0), (172, 0)]) (by decide) tk3.1)
        refine am_e_aload_n (am_nxt_of (i := (64, 1, .aload_n 0, (0, 0, 0), 0)) (by decide +kernel)) (v := 164) rfl ?_
        refine am_e_iconst (w := 1) (am_nxt_of (i := (65, 1, .iconst 1, (0, 0, 0), 0)) (by decide +kernel)) rfl ?_
        refine am_e_bipush (w := 20) (am_nxt_of (i := (66, 2, .bipush 20, (0, 0, 0), 0)) (by decide +kernel)) (by decide) ?_
        refine am_e_callV (M' := am_m161) (o := 164) (ar := [.int 20, .int 1]) (rest := []) (L := lv_args 0 [.ref 164, .int 1, .int 20]) (am_nxt_of (i := (68, 3, .invokevirtual 197, (161, 1677, 3), 0)) (by decide +kernel)) rfl rfl rfl rfl ac_o rfl rfl rfl ?_
        refine am_Ev_mono (ac_num hn rfl (ab_i_ok (by decide) (by decide)) (ab_i_ok (by decide) (by decide)) I3 J3) (fun r ks h4 hq => ?_)
        obtain ⟨rfl, I4, J4, f4, rfl | ⟨rfl, g4, eg4, g0_4, g1_4⟩⟩ := hq
        · show am_Ek false am_G0 am_m166 39 _ [.int 0] _ _ _ _ _
          refine am_e_ifF (am_nxt_of (i := (71, 3, .ifCond .ne 5, (42, 0, 0), 0)) (by decide +kernel)) (am_c_neF rfl) ?_
          refine am_e_iconst (w := 0) (am_nxt_of (i := (74, 1, .iconst 0, (0, 0, 0), 0)) (by decide +kernel)) rfl ?_
          exact am_e_iret (ty := .boolean) (am_cur_of (i := (75, 1, .ireturn, (0, 0, 0), 0)) (by decide +kernel)) rfl rfl rfl ⟨rfl, I4, J4, ab_Fr_trans F3 (ab_mdle_Fr (by decide) f4), Or.inl rfl⟩
        · show am_Ek false am_G0 am_m166 39 _ [.int 1] _ _ _ _ _
          refine am_e_ifT (am_nxt_of (i := (71, 3, .ifCond .ne 5, (42, 0, 0), 0)) (by decide +kernel)) (am_c_neT (by decide)) (am_tgt_of (by decide +kernel)) ?_
          have F4 := ab_Fr_trans F3 (ab_mdle_Fr (md' := [(164, 5), (164, 6), (164, 8), (164, 9), (164, 10), (164, 11), (164, 12), (164, 19), (171, 0), (172, 0)]) (by decide) f4)
          have et4 : h4 164 18 = .int t := (f4 164 18 (by decide)).trans ((tk3.1 164 18 (by decide)).trans ((tk1.1 164 18 (by decide)).trans et))
          have en4 : h4 164 17 = .int n := (f4 164 17 (by decide)).trans ((tk3.1 164 17 (by decide)).trans en1)
          have e8 := ab_iadd (x := 8) (y := t) (by omega) (by omega)
          have hix := ab_ix (x := 8 + t) (n := 16) (by omega) (by omega)
          have ecl : ((8 : Int32) + t).toNatClampNeg = 8 + t.toInt.toNat := ab_clamp (by omega)
          refine am_e_aload_n (am_nxt_of (i := (76, 1, .aload_n 0, (0, 0, 0), 0)) (by decide +kernel)) (v := 164) rfl ?_
          refine am_e_getf (am_nxt_of (i := (77, 3, .getfield 33, (12, 26, 1410), 0)) (by decide +kernel)) ac_o (ac_f26 I4) ?_
          refine am_e_bipush (w := 8) (am_nxt_of (i := (80, 2, .bipush 8, (0, 0, 0), 0)) (by decide +kernel)) (by decide) ?_
          refine am_e_aload_n (am_nxt_of (i := (82, 1, .aload_n 0, (0, 0, 0), 0)) (by decide +kernel)) (v := 164) rfl ?_
          refine am_e_getf (v := .int t) (am_nxt_of (i := (83, 3, .getfield 204, (12, 18, 1402), 0)) (by decide +kernel)) ac_o et4 ?_
          refine am_e_iadd (w := 8 + t) (am_nxt_of (i := (86, 1, .iadd, (0, 0, 0), 0)) (by decide +kernel)) rfl ?_
          refine am_e_iload_n (am_nxt_of (i := (87, 1, .iload_n 1, (0, 0, 0), 0)) (by decide +kernel)) (v := b) rfl ?_
          refine am_e_iastore (am_nxt_of (i := (88, 1, .iastore, (0, 0, 0), 0)) (by decide +kernel)) ac_k171 hix ecl ?_
          have I5 := ac_w171 (q := 8 + t.toInt.toNat) (v := b) I4 (by omega) (by omega)
          have J5 := ac_J_turn hX I4 J4 (b := b) et4 t_0 (q := 8 + t.toInt.toNat) (by omega)
          have F5 := ab_Fr_up (o := 171) (k := 8 + t.toInt.toNat) (v := .int b) rfl F4
          refine am_e_aload_n (am_nxt_of (i := (89, 1, .aload_n 0, (0, 0, 0), 0)) (by decide +kernel)) (v := 164) rfl ?_
          refine am_e_getf (am_nxt_of (i := (90, 3, .getfield 36, (12, 27, 1411), 0)) (by decide +kernel)) ac_o (ac_f27 I5) ?_
          refine am_e_bipush (w := 8) (am_nxt_of (i := (93, 2, .bipush 8, (0, 0, 0), 0)) (by decide +kernel)) (by decide) ?_
          refine am_e_aload_n (am_nxt_of (i := (95, 1, .aload_n 0, (0, 0, 0), 0)) (by decide +kernel)) (v := 164) rfl ?_
          refine am_e_getf (v := .int t) (am_nxt_of (i := (96, 3, .getfield 204, (12, 18, 1402), 0)) (by decide +kernel)) ac_o et4 ?_
          refine am_e_iadd (w := 8 + t) (am_nxt_of (i := (99, 1, .iadd, (0, 0, 0), 0)) (by decide +kernel)) rfl ?_
          refine am_e_aload_n (am_nxt_of (i := (100, 1, .aload_n 0, (0, 0, 0), 0)) (by decide +kernel)) (v := 164) rfl ?_
          refine am_e_getf (v := .int g4) (am_nxt_of (i := (101, 3, .getfield 188, (12, 11, 1395), 0)) (by decide +kernel)) ac_o eg4 ?_
          refine am_e_iastore (am_nxt_of (i := (104, 1, .iastore, (0, 0, 0), 0)) (by decide +kernel)) ac_k172 hix ecl ?_
          have I6 := ac_w172 (q := 8 + t.toInt.toNat) (v := g4) I5 (by omega) (by omega)
          have J6 := ac_JX_fr hX (md := [(172, 0)]) rfl _ (am_up (am_up h4 171 (8 + t.toInt.toNat) (.int b)) 172 (8 + t.toInt.toNat) (.int g4)) (ab_Fr_up rfl ab_Fr_refl) J5
          have F6 := ab_Fr_up (o := 172) (k := 8 + t.toInt.toNat) (v := .int g4) rfl F5
          have et1 := ac_c1 (x := t) t_0 (by omega)
          have I7 := ac_p18 (v := t + 1) I6 (by omega) (by omega)
          refine am_e_aload_n (am_nxt_of (i := (105, 1, .aload_n 0, (0, 0, 0), 0)) (by decide +kernel)) (v := 164) rfl ?_
          refine am_e_dup (am_nxt_of (i := (106, 1, .dup, (0, 0, 0), 0)) (by decide +kernel)) rfl ?_
          refine am_e_getf (v := .int t) (am_nxt_of (i := (107, 3, .getfield 204, (12, 18, 1402), 0)) (by decide +kernel)) ac_o et4 ?_
          refine am_e_iconst (w := 1) (am_nxt_of (i := (110, 1, .iconst 1, (0, 0, 0), 0)) (by decide +kernel)) rfl ?_
          refine am_e_iadd (w := t + 1) (am_nxt_of (i := (111, 1, .iadd, (0, 0, 0), 0)) (by decide +kernel)) rfl ?_
          refine am_e_putf (am_nxt_of (i := (112, 3, .putfield 204, (12, 18, 1402), 0)) (by decide +kernel)) ac_o rfl ?_
          refine am_e_iconst (w := 1) (am_nxt_of (i := (115, 1, .iconst 1, (0, 0, 0), 0)) (by decide +kernel)) rfl ?_
          exact am_e_iret (ty := .boolean) (am_cur_of (i := (116, 1, .ireturn, (0, 0, 0), 0)) (by decide +kernel)) rfl rfl rfl ⟨rfl, I7, ac_J_t1 hX J6 (n := n) et4 t_0 (by omega) (b := b) (am_up_self _ _ _ _) b0 (by omega) en4 hbn, ab_Fr_up rfl F6, Or.inr rfl⟩
    · refine am_e_cmpF (am_nxt_of (i := (24, 3, .if_icmp .eq 9, (18, 0, 0), 0)) (by decide +kernel)) (am_c_eqF hk2) ?_
      refine am_e_aload_n (am_nxt_of (i := (27, 1, .aload_n 0, (0, 0, 0), 0)) (by decide +kernel)) (v := 164) rfl ?_
      refine am_e_iconst (w := 1) (am_nxt_of (i := (28, 1, .iconst 1, (0, 0, 0), 0)) (by decide +kernel)) rfl ?_
      refine am_e_callV (M' := am_m158) (o := 164) (ar := [.int 1]) (rest := []) (L := lv_args 0 [.ref 164, .int 1]) (am_nxt_of (i := (29, 3, .invokevirtual 181, (158, 1665, 3), 0)) (by decide +kernel)) rfl rfl rfl rfl ac_o rfl rfl rfl ?_
      refine am_Ev_mono (ac_wrong I1 (by decide) (by decide)) (fun r ks h' hq => ?_)
      obtain ⟨rfl, rfl, q1, q2⟩ := hq
      show am_Ek false am_G0 am_m166 17 _ [.int 0] _ _ _ _ _
      exact am_e_iret (ty := .boolean) (am_cur_of (i := (32, 1, .ireturn, (0, 0, 0), 0)) (by decide +kernel)) rfl rfl rfl ⟨rfl, q1, ac_JX_fr hX rfl _ _ q2 J1, ab_Fr_trans F1 (ab_mdle_Fr (by decide) q2), Or.inl rfl⟩
theorem ac_bl_st (hX : ac_XF X) {s : ab_Sm} {V1 V2 : ab_V} {lo hi : Int} (hs : ab_Con ab_tab (ac_JX X) s) (e : s = (161, [ab_rf [164], V1, V2], [], ac_nuM, [(some (ab_i 0 0), [], [((165, 4), ab_i 1 4), ((165, 5), ab_i 0 700)]), (some (ab_i 1 1), [], [((165, 11), ab_i lo hi)])])) {h0 h : am_H} {b i k lw mo : Int32} {c : Nat} (hk : k.toInt = c) (hc : c < 7) (ha : ab_g V1 (.int lw)) (hb : ab_g V2 (.int mo)) (lo0 : 0 ≤ lo) (hi9 : hi ≤ 99) (h3 : c = 3 → 1 ≤ lo) (hI : ab_Inv (ab_hi ab_tab) h) (hj : ac_JX X h) (hF : ab_Fr [(164, 5), (164, 6), (164, 8), (164, 9), (164, 10), (164, 11), (164, 12), (164, 18), (169, 0), (170, 0)] h0 h) (eb : h 164 17 = .int b) (b0 : 0 ≤ b.toInt) (b3 : b.toInt ≤ 3) (hi1 : i.toInt = 28 + 7 * b.toInt)
    (K : ∀ (h' : am_H) (g : Int32), ab_Inv (ab_hi ab_tab) h' → ac_JX X h' → ab_Fr [(164, 5), (164, 6), (164, 8), (164, 9), (164, 10), (164, 11), (164, 12), (164, 18), (169, 0), (170, 0)] h0 h' → h' 164 17 = .int b → h' 170 (28 + 7 * b.toInt.toNat + c) = .int g → lo ≤ g.toInt → (∀ q, ¬ q = 28 + 7 * b.toInt.toNat + c → h' 170 q = h 170 q) → am_Ek false am_G0 am_m163 77 [(4, .int mo), (3, .int lw), (2, .int k), (1, .int i), (0, .ref 164)] [] am_ks0 h' 0 0 (ac_lnQ (ac_JX X) [(164, 5), (164, 6), (164, 8), (164, 9), (164, 10), (164, 11), (164, 12), (164, 18), (169, 0), (170, 0)] h0)) :
    am_Ek false am_G0 am_m163 62 [(4, .int mo), (3, .int lw), (2, .int k), (1, .int i), (0, .ref 164)] [] am_ks0 h 0 0 (ac_lnQ (ac_JX X) [(164, 5), (164, 6), (164, 8), (164, 9), (164, 10), (164, 11), (164, 12), (164, 18), (169, 0), (170, 0)] h0) := by
  refine am_e_aload_n (am_nxt_of (i := (109, 1, .aload_n 0, (0, 0, 0), 0)) (by decide +kernel)) (v := 164) rfl ?_
  refine am_e_iload_n (am_nxt_of (i := (110, 1, .iload_n 3, (0, 0, 0), 0)) (by decide +kernel)) (v := lw) rfl ?_
  refine am_e_iload (am_nxt_of (i := (111, 2, .iload 4, (0, 0, 0), 0)) (by decide +kernel)) (v := mo) rfl ?_
  refine am_e_callV (M' := am_m161) (o := 164) (ar := [.int mo, .int lw]) (rest := []) (L := lv_args 0 [.ref 164, .int lw, .int mo]) (am_nxt_of (i := (113, 3, .invokevirtual 197, (161, 1677, 3), 0)) (by decide +kernel)) rfl rfl rfl rfl ac_o rfl rfl rfl ?_
  refine am_Ev_mono (ac_num hs e ha hb hI hj) (fun r ks h1 hq => ?_)
  obtain ⟨rfl, I1, J1, f1, rfl | ⟨rfl, g1, eg1, g0_1, g1_1⟩⟩ := hq
  · show am_Ek false am_G0 am_m163 66 _ [.int 0] _ _ _ _ _
    refine am_e_ifF (am_nxt_of (i := (116, 3, .ifCond .ne 5, (69, 0, 0), 0)) (by decide +kernel)) (am_c_neF rfl) ?_
    refine am_e_iconst (w := 0) (am_nxt_of (i := (119, 1, .iconst 0, (0, 0, 0), 0)) (by decide +kernel)) rfl ?_
    exact am_e_iret (ty := .boolean) (am_cur_of (i := (120, 1, .ireturn, (0, 0, 0), 0)) (by decide +kernel)) rfl rfl rfl ⟨rfl, I1, J1, ab_Fr_trans hF (ab_mdle_Fr (by decide) f1), Or.inl rfl⟩
  · show am_Ek false am_G0 am_m163 66 _ [.int 1] _ _ _ _ _
    refine am_e_ifT (am_nxt_of (i := (116, 3, .ifCond .ne 5, (69, 0, 0), 0)) (by decide +kernel)) (am_c_neT (by decide)) (am_tgt_of (by decide +kernel)) ?_
    have F1 := ab_Fr_trans hF (ab_mdle_Fr (md' := [(164, 5), (164, 6), (164, 8), (164, 9), (164, 10), (164, 11), (164, 12), (164, 18), (169, 0), (170, 0)]) (by decide) f1)
    have eb1 : h1 164 17 = .int b := (f1 164 17 (by decide)).trans eb
    have e8 := ab_iadd (x := i) (y := k) (by omega) (by omega)
    have hix := ab_ix (x := i + k) (n := 56) (by omega) (by omega)
    have ecl : (i + k).toNatClampNeg = 28 + 7 * b.toInt.toNat + c := ab_clamp (by omega)
    refine am_e_aload_n (am_nxt_of (i := (121, 1, .aload_n 0, (0, 0, 0), 0)) (by decide +kernel)) (v := 164) rfl ?_
    refine am_e_getf (am_nxt_of (i := (122, 3, .getfield 30, (12, 25, 1409), 0)) (by decide +kernel)) ac_o (ac_f25 I1) ?_
    refine am_e_iload_n (am_nxt_of (i := (125, 1, .iload_n 1, (0, 0, 0), 0)) (by decide +kernel)) (v := i) rfl ?_
    refine am_e_iload_n (am_nxt_of (i := (126, 1, .iload_n 2, (0, 0, 0), 0)) (by decide +kernel)) (v := k) rfl ?_
    refine am_e_iadd (w := i + k) (am_nxt_of (i := (127, 1, .iadd, (0, 0, 0), 0)) (by decide +kernel)) rfl ?_
    refine am_e_aload_n (am_nxt_of (i := (128, 1, .aload_n 0, (0, 0, 0), 0)) (by decide +kernel)) (v := 164) rfl ?_
    refine am_e_getf (v := .int g1) (am_nxt_of (i := (129, 3, .getfield 188, (12, 11, 1395), 0)) (by decide +kernel)) ac_o eg1 ?_
    refine am_e_iastore (am_nxt_of (i := (132, 1, .iastore, (0, 0, 0), 0)) (by decide +kernel)) ac_k170 hix ecl ?_
    exact K _ g1 (ac_w170 I1 (by omega) (by omega)) (ac_J_has hX I1 J1 eb1 b0 hc (by omega) (fun q => by have := h3 q; omega)) (ab_Fr_up rfl F1) eb1 (am_up_self _ _ _ _) g0_1 (fun q hq => (am_up_same _ _ _ _ _ hq).trans (f1 170 q rfl))
theorem ac_blowerLine (hX : ac_XF X) (hpk : ab_Con ab_tab (fun _ => True) ab_S_packed_x_x) (hnn : ab_Con ab_tab (ac_JX X) ab_S_newName_169_4_x) (n99 : ab_Con ab_tab (ac_JX X) ab_S_number_1_99) (nxx : ab_Con ab_tab (ac_JX X) ab_S_number_x_x) (n20 : ab_Con ab_tab (ac_JX X) ab_S_number_1_20) (n9 : ab_Con ab_tab (ac_JX X) ab_S_number_1_9) (n099 : ab_Con ab_tab (ac_JX X) ab_S_number_0_99) {h : am_H} (hI : ab_Inv (ab_hi ab_tab) h) (hj : ac_JX X h) : am_Ek false am_G0 am_m163 0 (lv_args 0 [.ref 164]) [] am_ks0 h 0 0 (ac_lnQ (ac_JX X) [(164, 5), (164, 6), (164, 8), (164, 9), (164, 10), (164, 11), (164, 12), (164, 18), (169, 0), (170, 0)] h) := by
  have z4 : (4 : Int32).toInt = 4 := by decide
  obtain ⟨b, eb, b_0, b_1⟩ := ac_g17 hI
  refine am_e_aload_n (am_nxt_of (i := (0, 1, .aload_n 0, (0, 0, 0), 0)) (by decide +kernel)) (v := 164) rfl ?_
  refine am_e_getf (v := .int b) (am_nxt_of (i := (1, 3, .getfield 201, (12, 17, 1401), 0)) (by decide +kernel)) ac_o eb ?_
  refine am_e_iconst (w := 4) (am_nxt_of (i := (4, 1, .iconst 4, (0, 0, 0), 0)) (by decide +kernel)) rfl ?_
  by_cases h4 : (b : Int32) = 4
  · refine am_e_cmpF (am_nxt_of (i := (5, 3, .if_icmp .ne 9, (8, 0, 0), 0)) (by decide +kernel)) (am_c_neF h4) ?_
    refine am_e_aload_n (am_nxt_of (i := (8, 1, .aload_n 0, (0, 0, 0), 0)) (by decide +kernel)) (v := 164) rfl ?_
    refine am_e_iconst (w := 2) (am_nxt_of (i := (9, 1, .iconst 2, (0, 0, 0), 0)) (by decide +kernel)) rfl ?_
    refine am_e_callV (M' := am_m158) (o := 164) (ar := [.int 2]) (rest := []) (L := lv_args 0 [.ref 164, .int 2]) (am_nxt_of (i := (10, 3, .invokevirtual 181, (158, 1665, 3), 0)) (by decide +kernel)) rfl rfl rfl rfl ac_o rfl rfl rfl ?_
    refine am_Ev_mono (ac_wrong hI (by decide) (by decide)) (fun r ks h' hq => ?_)
    obtain ⟨rfl, rfl, q1, q2⟩ := hq
    show am_Ek false am_G0 am_m163 7 _ [.int 0] _ _ _ _ _
    exact am_e_iret (ty := .boolean) (am_cur_of (i := (13, 1, .ireturn, (0, 0, 0), 0)) (by decide +kernel)) rfl rfl rfl ⟨rfl, q1, ac_JX_fr hX rfl _ _ q2 hj, ab_Fr_trans ab_Fr_refl (ab_mdle_Fr (by decide) q2), Or.inl rfl⟩
  · refine am_e_cmpT (am_nxt_of (i := (5, 3, .if_icmp .ne 9, (8, 0, 0), 0)) (by decide +kernel)) (am_c_neT h4) (am_tgt_of (by decide +kernel)) ?_
    have h4 := ac_ne' h4
    refine am_e_aload_n (am_nxt_of (i := (14, 1, .aload_n 0, (0, 0, 0), 0)) (by decide +kernel)) (v := 164) rfl ?_
    refine am_e_callV (M' := am_m151) (o := 164) (ar := []) (rest := []) (L := lv_args 0 [.ref 164]) (am_nxt_of (i := (15, 3, .invokevirtual 191, (151, 1636, 3), 0)) (by decide +kernel)) rfl rfl rfl rfl ac_o rfl rfl rfl ?_
    refine am_Ev_mono (ac_token hpk hI (ac_JX_parts hj).1 (ac_JX_parts hj).2.1) (fun r ks h1 hq => ?_)
    obtain ⟨rfl, rfl, I1, tk1⟩ := hq
    show am_Ek false am_G0 am_m163 10 _ [] _ _ _ _ _
    have J1 := ac_JX_tk hX _ _ tk1 hj
    have F1 := ab_Fr_trans ab_Fr_refl (ab_mdle_Fr (md' := [(164, 5), (164, 6), (164, 8), (164, 9), (164, 10), (164, 11), (164, 12), (164, 18), (169, 0), (170, 0)]) (by decide) tk1.1)
    have eb1 : h1 164 17 = .int b := (tk1.1 164 17 (by decide)).trans eb
    refine am_e_aload_n (am_nxt_of (i := (18, 1, .aload_n 0, (0, 0, 0), 0)) (by decide +kernel)) (v := 164) rfl ?_
    refine am_e_aload_n (am_nxt_of (i := (19, 1, .aload_n 0, (0, 0, 0), 0)) (by decide +kernel)) (v := 164) rfl ?_
    refine am_e_getf (am_nxt_of (i := (20, 3, .getfield 27, (12, 24, 1408), 0)) (by decide +kernel)) ac_o (ac_f24 I1) ?_
    refine am_e_iconst (w := 4) (am_nxt_of (i := (23, 1, .iconst 4, (0, 0, 0), 0)) (by decide +kernel)) rfl ?_
    refine am_e_aload_n (am_nxt_of (i := (24, 1, .aload_n 0, (0, 0, 0), 0)) (by decide +kernel)) (v := 164) rfl ?_
    refine am_e_getf (v := .int b) (am_nxt_of (i := (25, 3, .getfield 201, (12, 17, 1401), 0)) (by decide +kernel)) ac_o eb1 ?_
    refine am_e_callV (M' := am_m164) (o := 164) (ar := [.int b, .int 4, .ref 169]) (rest := []) (L := lv_args 0 [.ref 164, .ref 169, .int 4, .int b]) (am_nxt_of (i := (28, 3, .invokevirtual 248, (164, 1688, 3), 0)) (by decide +kernel)) rfl rfl rfl rfl ac_o rfl rfl rfl ?_
    refine am_Ev_mono (ac_use hnn rfl ⟨⟨164, rfl, List.mem_singleton.mpr rfl⟩, ⟨169, rfl, List.mem_singleton.mpr rfl⟩, ab_i_ok (by decide) (by decide), ab_i_ok b_0 (by omega), trivial⟩ I1 J1 ac_p0) (fun r ks h2 hq => ?_)
    obtain ⟨rfl, I2, J2, f2, c, hc, hg⟩ := hq
    have F2 := ab_Fr_trans F1 (ab_mdle_Fr (md' := [(164, 5), (164, 6), (164, 8), (164, 9), (164, 10), (164, 11), (164, 12), (164, 18), (169, 0), (170, 0)]) (by decide) f2)
    have hr : r = some (.int 0) ∨ r = some (.int 1) := by
      rcases List.mem_cons.mp hc with rfl | hc
      · exact Or.inl (ac_g0 hg.1 (v := 0) (by decide))
      · have e := List.mem_singleton.mp hc
        subst e
        exact Or.inr (ac_g0 hg.1 (v := 1) (by decide))
    rcases hr with rfl | rfl
    · show am_Ek false am_G0 am_m163 17 _ [.int 0] _ _ _ _ _
      refine am_e_ifF (am_nxt_of (i := (31, 3, .ifCond .ne 5, (20, 0, 0), 0)) (by decide +kernel)) (am_c_neF rfl) ?_
      refine am_e_iconst (w := 0) (am_nxt_of (i := (34, 1, .iconst 0, (0, 0, 0), 0)) (by decide +kernel)) rfl ?_
      exact am_e_iret (ty := .boolean) (am_cur_of (i := (35, 1, .ireturn, (0, 0, 0), 0)) (by decide +kernel)) rfl rfl rfl ⟨rfl, I2, J2, F2, Or.inl rfl⟩
    · show am_Ek false am_G0 am_m163 17 _ [.int 1] _ _ _ _ _
      refine am_e_ifT (am_nxt_of (i := (31, 3, .ifCond .ne 5, (20, 0, 0), 0)) (by decide +kernel)) (am_c_neT (by decide)) (am_tgt_of (by decide +kernel)) ?_
      have eb2 : h2 164 17 = .int b := (f2 164 17 (by decide)).trans eb1
      have e7 : ((7 : Int32) * b).toInt = 7 * b.toInt := by
        rw [Int32.toInt_mul, show (7 : Int32).toInt = 7 by decide]
        exact ab_bm (by omega) (by omega)
      have e28 : ((28 : Int32) + 7 * b).toInt = 28 + 7 * b.toInt := by
        have z28 : (28 : Int32).toInt = 28 := by decide
        rw [ab_iadd (by omega) (by omega), e7, z28]
      refine am_e_bipush (w := 28) (am_nxt_of (i := (36, 2, .bipush 28, (0, 0, 0), 0)) (by decide +kernel)) (by decide) ?_
      refine am_e_bipush (w := 7) (am_nxt_of (i := (38, 2, .bipush 7, (0, 0, 0), 0)) (by decide +kernel)) (by decide) ?_
      refine am_e_aload_n (am_nxt_of (i := (40, 1, .aload_n 0, (0, 0, 0), 0)) (by decide +kernel)) (v := 164) rfl ?_
      refine am_e_getf (v := .int b) (am_nxt_of (i := (41, 3, .getfield 201, (12, 17, 1401), 0)) (by decide +kernel)) ac_o eb2 ?_
      refine am_e_imul (w := 7 * b) (am_nxt_of (i := (44, 1, .imul, (0, 0, 0), 0)) (by decide +kernel)) rfl ?_
      refine am_e_iadd (w := 28 + (7 * b)) (am_nxt_of (i := (45, 1, .iadd, (0, 0, 0), 0)) (by decide +kernel)) rfl ?_
      refine am_e_istore_n (ls' := [(1, .int (28 + (7 * b))), (0, .ref 164)]) (am_nxt_of (i := (46, 1, .istore_n 1, (0, 0, 0), 0)) (by decide +kernel)) (by decide +kernel) rfl ?_
      generalize (28 : Int32) + 7 * b = i at e28 ⊢
      refine am_e_iconst (w := 0) (am_nxt_of (i := (47, 1, .iconst 0, (0, 0, 0), 0)) (by decide +kernel)) rfl ?_
      refine am_e_istore_n (ls' := [(2, .int 0), (1, .int i), (0, .ref 164)]) (am_nxt_of (i := (48, 1, .istore_n 2, (0, 0, 0), 0)) (by decide +kernel)) (by decide +kernel) rfl ?_
      refine am_e_iload_n (am_nxt_of (i := (49, 1, .iload_n 2, (0, 0, 0), 0)) (by decide +kernel)) (v := 0) rfl ?_
      refine am_e_bipush (w := 7) (am_nxt_of (i := (50, 2, .bipush 7, (0, 0, 0), 0)) (by decide +kernel)) (by decide) ?_
      refine am_e_cmpF (am_nxt_of (i := (52, 3, .if_icmp .ge 87, (79, 0, 0), 0)) (by decide +kernel)) (am_c_geF (by decide)) ?_
      refine am_e_iload_n (am_nxt_of (i := (55, 1, .iload_n 2, (0, 0, 0), 0)) (by decide +kernel)) (v := 0) rfl ?_
      refine am_e_ifT (am_nxt_of (i := (56, 3, .ifCond .eq 13, (40, 0, 0), 0)) (by decide +kernel)) (am_c_eqT (by decide)) (am_tgt_of (by decide +kernel)) ?_
      refine am_e_iconst (w := 1) (am_nxt_of (i := (69, 1, .iconst 1, (0, 0, 0), 0)) (by decide +kernel)) rfl ?_
      refine am_e_goto (am_cur_of (i := (70, 3, .goto 4, (43, 0, 0), 0)) (by decide +kernel)) (am_tgt_of (by decide +kernel)) ?_
      refine am_e_istore_n (ls' := [(3, .int 1), (2, .int 0), (1, .int i), (0, .ref 164)]) (am_nxt_of (i := (74, 1, .istore_n 3, (0, 0, 0), 0)) (by decide +kernel)) (by decide +kernel) rfl ?_
      refine am_e_iload_n (am_nxt_of (i := (75, 1, .iload_n 2, (0, 0, 0), 0)) (by decide +kernel)) (v := 0) rfl ?_
      refine am_e_iconst (w := 1) (am_nxt_of (i := (76, 1, .iconst 1, (0, 0, 0), 0)) (by decide +kernel)) rfl ?_
      refine am_e_cmpF (am_nxt_of (i := (77, 3, .if_icmp .eq 8, (50, 0, 0), 0)) (by decide +kernel)) (am_c_eqF (by decide)) ?_
      refine am_e_iload_n (am_nxt_of (i := (80, 1, .iload_n 2, (0, 0, 0), 0)) (by decide +kernel)) (v := 0) rfl ?_
      refine am_e_iconst (w := 2) (am_nxt_of (i := (81, 1, .iconst 2, (0, 0, 0), 0)) (by decide +kernel)) rfl ?_
      refine am_e_cmpT (am_nxt_of (i := (82, 3, .if_icmp .ne 8, (52, 0, 0), 0)) (by decide +kernel)) (am_c_neT (by decide)) (am_tgt_of (by decide +kernel)) ?_
      refine am_e_iload_n (am_nxt_of (i := (90, 1, .iload_n 2, (0, 0, 0), 0)) (by decide +kernel)) (v := 0) rfl ?_
      refine am_e_iconst (w := 3) (am_nxt_of (i := (91, 1, .iconst 3, (0, 0, 0), 0)) (by decide +kernel)) rfl ?_
      refine am_e_cmpF (am_nxt_of (i := (92, 3, .if_icmp .eq 8, (58, 0, 0), 0)) (by decide +kernel)) (am_c_eqF (by decide)) ?_
      refine am_e_iload_n (am_nxt_of (i := (95, 1, .iload_n 2, (0, 0, 0), 0)) (by decide +kernel)) (v := 0) rfl ?_
      refine am_e_iconst (w := 5) (am_nxt_of (i := (96, 1, .iconst 5, (0, 0, 0), 0)) (by decide +kernel)) rfl ?_
      refine am_e_cmpT (am_nxt_of (i := (97, 3, .if_icmp .ne 8, (60, 0, 0), 0)) (by decide +kernel)) (am_c_neT (by decide)) (am_tgt_of (by decide +kernel)) ?_
      refine am_e_bipush (w := 99) (am_nxt_of (i := (105, 2, .bipush 99, (0, 0, 0), 0)) (by decide +kernel)) (by decide) ?_
      refine am_e_istore (ls' := [(4, .int 99), (3, .int 1), (2, .int 0), (1, .int i), (0, .ref 164)]) (am_nxt_of (i := (107, 2, .istore 4, (0, 0, 0), 0)) (by decide +kernel)) (by decide +kernel) rfl ?_
      refine am_Ek_ls (ls' := [(4, .int 99), (3, .int 1), (2, .int 0), (1, .int i), (0, .ref 164)]) ⟨rfl, rfl, rfl, rfl, rfl, trivial⟩ ?_
      refine ac_bl_st hX n99 rfl (c := 0) (by decide) (by decide) (ab_i_ok (by decide) (by decide)) (ab_i_ok (by decide) (by decide)) (by decide) (by decide) (by decide) I2 J2 F2 eb2 b_0 (by omega) e28 (fun h3 g3 I3 J3 F3 eb3 eg3 hg3 hs3 => ?_)
      refine am_e_iinc (w := 1) (ls' := [(2, .int 1), (4, .int 99), (3, .int 1), (1, .int i), (0, .ref 164)]) (am_nxt_of (i := (133, 3, .iinc 2 1, (0, 0, 0), 0)) (by decide +kernel)) (v := 0) rfl (by decide +kernel) (by decide) rfl ?_
      refine am_e_goto (am_cur_of (i := (136, 3, .goto (-87), (29, 0, 0), 0)) (by decide +kernel)) (am_tgt_of (by decide +kernel)) ?_
      refine am_Ek_ls (ls' := [(2, .int 1), (1, .int i), (0, .ref 164)]) ⟨rfl, rfl, rfl, trivial⟩ ?_
      refine am_e_iload_n (am_nxt_of (i := (49, 1, .iload_n 2, (0, 0, 0), 0)) (by decide +kernel)) (v := 1) rfl ?_
      refine am_e_bipush (w := 7) (am_nxt_of (i := (50, 2, .bipush 7, (0, 0, 0), 0)) (by decide +kernel)) (by decide) ?_
      refine am_e_cmpF (am_nxt_of (i := (52, 3, .if_icmp .ge 87, (79, 0, 0), 0)) (by decide +kernel)) (am_c_geF (by decide)) ?_
      refine am_e_iload_n (am_nxt_of (i := (55, 1, .iload_n 2, (0, 0, 0), 0)) (by decide +kernel)) (v := 1) rfl ?_
      refine am_e_ifF (am_nxt_of (i := (56, 3, .ifCond .eq 13, (40, 0, 0), 0)) (by decide +kernel)) (am_c_eqF (by decide)) ?_
      refine am_e_iload_n (am_nxt_of (i := (59, 1, .iload_n 2, (0, 0, 0), 0)) (by decide +kernel)) (v := 1) rfl ?_
      refine am_e_iconst (w := 2) (am_nxt_of (i := (60, 1, .iconst 2, (0, 0, 0), 0)) (by decide +kernel)) rfl ?_
      refine am_e_cmpF (am_nxt_of (i := (61, 3, .if_icmp .eq 8, (40, 0, 0), 0)) (by decide +kernel)) (am_c_eqF (by decide)) ?_
      refine am_e_iload_n (am_nxt_of (i := (64, 1, .iload_n 2, (0, 0, 0), 0)) (by decide +kernel)) (v := 1) rfl ?_
      refine am_e_iconst (w := 3) (am_nxt_of (i := (65, 1, .iconst 3, (0, 0, 0), 0)) (by decide +kernel)) rfl ?_
      refine am_e_cmpT (am_nxt_of (i := (66, 3, .if_icmp .ne 7, (42, 0, 0), 0)) (by decide +kernel)) (am_c_neT (by decide)) (am_tgt_of (by decide +kernel)) ?_
      refine am_e_iconst (w := 0) (am_nxt_of (i := (73, 1, .iconst 0, (0, 0, 0), 0)) (by decide +kernel)) rfl ?_
      refine am_e_istore_n (ls' := [(3, .int 0), (2, .int 1), (1, .int i), (0, .ref 164)]) (am_nxt_of (i := (74, 1, .istore_n 3, (0, 0, 0), 0)) (by decide +kernel)) (by decide +kernel) rfl ?_
      refine am_e_iload_n (am_nxt_of (i := (75, 1, .iload_n 2, (0, 0, 0), 0)) (by decide +kernel)) (v := 1) rfl ?_
      refine am_e_iconst (w := 1) (am_nxt_of (i := (76, 1, .iconst 1, (0, 0, 0), 0)) (by decide +kernel)) rfl ?_
      refine am_e_cmpT (am_nxt_of (i := (77, 3, .if_icmp .eq 8, (50, 0, 0), 0)) (by decide +kernel)) (am_c_eqT (by decide)) (am_tgt_of (by decide +kernel)) ?_
      refine am_e_bipush (w := 20) (am_nxt_of (i := (85, 2, .bipush 20, (0, 0, 0), 0)) (by decide +kernel)) (by decide) ?_
      refine am_e_goto (am_cur_of (i := (87, 3, .goto 20, (61, 0, 0), 0)) (by decide +kernel)) (am_tgt_of (by decide +kernel)) ?_
      refine am_e_istore (ls' := [(4, .int 20), (3, .int 0), (2, .int 1), (1, .int i), (0, .ref 164)]) (am_nxt_of (i := (107, 2, .istore 4, (0, 0, 0), 0)) (by decide +kernel)) (by decide +kernel) rfl ?_
      refine am_Ek_ls (ls' := [(4, .int 20), (3, .int 0), (2, .int 1), (1, .int i), (0, .ref 164)]) ⟨rfl, rfl, rfl, rfl, rfl, trivial⟩ ?_
      refine ac_bl_st hX nxx rfl (c := 1) (by decide) (by decide) (ab_i_ok (by decide) (by decide)) (ab_i_ok (by decide) (by decide)) (by decide) (by decide) (by decide) I3 J3 F3 eb3 b_0 (by omega) e28 (fun h4 g4 I4 J4 F4 eb4 eg4 hg4 hs4 => ?_)
      refine am_e_iinc (w := 2) (ls' := [(2, .int 2), (4, .int 20), (3, .int 0), (1, .int i), (0, .ref 164)]) (am_nxt_of (i := (133, 3, .iinc 2 1, (0, 0, 0), 0)) (by decide +kernel)) (v := 1) rfl (by decide +kernel) (by decide) rfl ?_
      refine am_e_goto (am_cur_of (i := (136, 3, .goto (-87), (29, 0, 0), 0)) (by decide +kernel)) (am_tgt_of (by decide +kernel)) ?_
      refine am_Ek_ls (ls' := [(2, .int 2), (1, .int i), (0, .ref 164)]) ⟨rfl, rfl, rfl, trivial⟩ ?_
      refine am_e_iload_n (am_nxt_of (i := (49, 1, .iload_n 2, (0, 0, 0), 0)) (by decide +kernel)) (v := 2) rfl ?_
      refine am_e_bipush (w := 7) (am_nxt_of (i := (50, 2, .bipush 7, (0, 0, 0), 0)) (by decide +kernel)) (by decide) ?_
      refine am_e_cmpF (am_nxt_of (i := (52, 3, .if_icmp .ge 87, (79, 0, 0), 0)) (by decide +kernel)) (am_c_geF (by decide)) ?_
      refine am_e_iload_n (am_nxt_of (i := (55, 1, .iload_n 2, (0, 0, 0), 0)) (by decide +kernel)) (v := 2) rfl ?_
      refine am_e_ifF (am_nxt_of (i := (56, 3, .ifCond .eq 13, (40, 0, 0), 0)) (by decide +kernel)) (am_c_eqF (by decide)) ?_
      refine am_e_iload_n (am_nxt_of (i := (59, 1, .iload_n 2, (0, 0, 0), 0)) (by decide +kernel)) (v := 2) rfl ?_
      refine am_e_iconst (w := 2) (am_nxt_of (i := (60, 1, .iconst 2, (0, 0, 0), 0)) (by decide +kernel)) rfl ?_
      refine am_e_cmpT (am_nxt_of (i := (61, 3, .if_icmp .eq 8, (40, 0, 0), 0)) (by decide +kernel)) (am_c_eqT (by decide)) (am_tgt_of (by decide +kernel)) ?_
      refine am_e_iconst (w := 1) (am_nxt_of (i := (69, 1, .iconst 1, (0, 0, 0), 0)) (by decide +kernel)) rfl ?_
      refine am_e_goto (am_cur_of (i := (70, 3, .goto 4, (43, 0, 0), 0)) (by decide +kernel)) (am_tgt_of (by decide +kernel)) ?_
      refine am_e_istore_n (ls' := [(3, .int 1), (2, .int 2), (1, .int i), (0, .ref 164)]) (am_nxt_of (i := (74, 1, .istore_n 3, (0, 0, 0), 0)) (by decide +kernel)) (by decide +kernel) rfl ?_
      refine am_e_iload_n (am_nxt_of (i := (75, 1, .iload_n 2, (0, 0, 0), 0)) (by decide +kernel)) (v := 2) rfl ?_
      refine am_e_iconst (w := 1) (am_nxt_of (i := (76, 1, .iconst 1, (0, 0, 0), 0)) (by decide +kernel)) rfl ?_
      refine am_e_cmpF (am_nxt_of (i := (77, 3, .if_icmp .eq 8, (50, 0, 0), 0)) (by decide +kernel)) (am_c_eqF (by decide)) ?_
      refine am_e_iload_n (am_nxt_of (i := (80, 1, .iload_n 2, (0, 0, 0), 0)) (by decide +kernel)) (v := 2) rfl ?_
      refine am_e_iconst (w := 2) (am_nxt_of (i := (81, 1, .iconst 2, (0, 0, 0), 0)) (by decide +kernel)) rfl ?_
      refine am_e_cmpF (am_nxt_of (i := (82, 3, .if_icmp .ne 8, (52, 0, 0), 0)) (by decide +kernel)) (am_c_neF (by decide)) ?_
      refine am_e_bipush (w := 20) (am_nxt_of (i := (85, 2, .bipush 20, (0, 0, 0), 0)) (by decide +kernel)) (by decide) ?_
      refine am_e_goto (am_cur_of (i := (87, 3, .goto 20, (61, 0, 0), 0)) (by decide +kernel)) (am_tgt_of (by decide +kernel)) ?_
      refine am_e_istore (ls' := [(4, .int 20), (3, .int 1), (2, .int 2), (1, .int i), (0, .ref 164)]) (am_nxt_of (i := (107, 2, .istore 4, (0, 0, 0), 0)) (by decide +kernel)) (by decide +kernel) rfl ?_
      refine am_Ek_ls (ls' := [(4, .int 20), (3, .int 1), (2, .int 2), (1, .int i), (0, .ref 164)]) ⟨rfl, rfl, rfl, rfl, rfl, trivial⟩ ?_
      refine ac_bl_st hX n20 rfl (c := 2) (by decide) (by decide) (ab_i_ok (by decide) (by decide)) (ab_i_ok (by decide) (by decide)) (by decide) (by decide) (by decide) I4 J4 F4 eb4 b_0 (by omega) e28 (fun h5 g5 I5 J5 F5 eb5 eg5 hg5 hs5 => ?_)
      refine am_e_iinc (w := 3) (ls' := [(2, .int 3), (4, .int 20), (3, .int 1), (1, .int i), (0, .ref 164)]) (am_nxt_of (i := (133, 3, .iinc 2 1, (0, 0, 0), 0)) (by decide +kernel)) (v := 2) rfl (by decide +kernel) (by decide) rfl ?_
      refine am_e_goto (am_cur_of (i := (136, 3, .goto (-87), (29, 0, 0), 0)) (by decide +kernel)) (am_tgt_of (by decide +kernel)) ?_
      refine am_Ek_ls (ls' := [(2, .int 3), (1, .int i), (0, .ref 164)]) ⟨rfl, rfl, rfl, trivial⟩ ?_
      refine am_e_iload_n (am_nxt_of (i := (49, 1, .iload_n 2, (0, 0, 0), 0)) (by decide +kernel)) (v := 3) rfl ?_
      refine am_e_bipush (w := 7) (am_nxt_of (i := (50, 2, .bipush 7, (0, 0, 0), 0)) (by decide +kernel)) (by decide) ?_
      refine am_e_cmpF (am_nxt_of (i := (52, 3, .if_icmp .ge 87, (79, 0, 0), 0)) (by decide +kernel)) (am_c_geF (by decide)) ?_
      refine am_e_iload_n (am_nxt_of (i := (55, 1, .iload_n 2, (0, 0, 0), 0)) (by decide +kernel)) (v := 3) rfl ?_
      refine am_e_ifF (am_nxt_of (i := (56, 3, .ifCond .eq 13, (40, 0, 0), 0)) (by decide +kernel)) (am_c_eqF (by decide)) ?_
      refine am_e_iload_n (am_nxt_of (i := (59, 1, .iload_n 2, (0, 0, 0), 0)) (by decide +kernel)) (v := 3) rfl ?_
      refine am_e_iconst (w := 2) (am_nxt_of (i := (60, 1, .iconst 2, (0, 0, 0), 0)) (by decide +kernel)) rfl ?_
      refine am_e_cmpF (am_nxt_of (i := (61, 3, .if_icmp .eq 8, (40, 0, 0), 0)) (by decide +kernel)) (am_c_eqF (by decide)) ?_
      refine am_e_iload_n (am_nxt_of (i := (64, 1, .iload_n 2, (0, 0, 0), 0)) (by decide +kernel)) (v := 3) rfl ?_
      refine am_e_iconst (w := 3) (am_nxt_of (i := (65, 1, .iconst 3, (0, 0, 0), 0)) (by decide +kernel)) rfl ?_
      refine am_e_cmpF (am_nxt_of (i := (66, 3, .if_icmp .ne 7, (42, 0, 0), 0)) (by decide +kernel)) (am_c_neF (by decide)) ?_
      refine am_e_iconst (w := 1) (am_nxt_of (i := (69, 1, .iconst 1, (0, 0, 0), 0)) (by decide +kernel)) rfl ?_
      refine am_e_goto (am_cur_of (i := (70, 3, .goto 4, (43, 0, 0), 0)) (by decide +kernel)) (am_tgt_of (by decide +kernel)) ?_
      refine am_e_istore_n (ls' := [(3, .int 1), (2, .int 3), (1, .int i), (0, .ref 164)]) (am_nxt_of (i := (74, 1, .istore_n 3, (0, 0, 0), 0)) (by decide +kernel)) (by decide +kernel) rfl ?_
      refine am_e_iload_n (am_nxt_of (i := (75, 1, .iload_n 2, (0, 0, 0), 0)) (by decide +kernel)) (v := 3) rfl ?_
      refine am_e_iconst (w := 1) (am_nxt_of (i := (76, 1, .iconst 1, (0, 0, 0), 0)) (by decide +kernel)) rfl ?_
      refine am_e_cmpF (am_nxt_of (i := (77, 3, .if_icmp .eq 8, (50, 0, 0), 0)) (by decide +kernel)) (am_c_eqF (by decide)) ?_
      refine am_e_iload_n (am_nxt_of (i := (80, 1, .iload_n 2, (0, 0, 0), 0)) (by decide +kernel)) (v := 3) rfl ?_
      refine am_e_iconst (w := 2) (am_nxt_of (i := (81, 1, .iconst 2, (0, 0, 0), 0)) (by decide +kernel)) rfl ?_
      refine am_e_cmpT (am_nxt_of (i := (82, 3, .if_icmp .ne 8, (52, 0, 0), 0)) (by decide +kernel)) (am_c_neT (by decide)) (am_tgt_of (by decide +kernel)) ?_
      refine am_e_iload_n (am_nxt_of (i := (90, 1, .iload_n 2, (0, 0, 0), 0)) (by decide +kernel)) (v := 3) rfl ?_
      refine am_e_iconst (w := 3) (am_nxt_of (i := (91, 1, .iconst 3, (0, 0, 0), 0)) (by decide +kernel)) rfl ?_
      refine am_e_cmpT (am_nxt_of (i := (92, 3, .if_icmp .eq 8, (58, 0, 0), 0)) (by decide +kernel)) (am_c_eqT (by decide)) (am_tgt_of (by decide +kernel)) ?_
      refine am_e_bipush (w := 9) (am_nxt_of (i := (100, 2, .bipush 9, (0, 0, 0), 0)) (by decide +kernel)) (by decide) ?_
      refine am_e_goto (am_cur_of (i := (102, 3, .goto 5, (61, 0, 0), 0)) (by decide +kernel)) (am_tgt_of (by decide +kernel)) ?_
      refine am_e_istore (ls' := [(4, .int 9), (3, .int 1), (2, .int 3), (1, .int i), (0, .ref 164)]) (am_nxt_of (i := (107, 2, .istore 4, (0, 0, 0), 0)) (by decide +kernel)) (by decide +kernel) rfl ?_
      refine am_Ek_ls (ls' := [(4, .int 9), (3, .int 1), (2, .int 3), (1, .int i), (0, .ref 164)]) ⟨rfl, rfl, rfl, rfl, rfl, trivial⟩ ?_
      refine ac_bl_st hX n9 rfl (c := 3) (by decide) (by decide) (ab_i_ok (by decide) (by decide)) (ab_i_ok (by decide) (by decide)) (by decide) (by decide) (by decide) I5 J5 F5 eb5 b_0 (by omega) e28 (fun h6 g6 I6 J6 F6 eb6 eg6 hg6 hs6 => ?_)
      refine am_e_iinc (w := 4) (ls' := [(2, .int 4), (4, .int 9), (3, .int 1), (1, .int i), (0, .ref 164)]) (am_nxt_of (i := (133, 3, .iinc 2 1, (0, 0, 0), 0)) (by decide +kernel)) (v := 3) rfl (by decide +kernel) (by decide) rfl ?_
      refine am_e_goto (am_cur_of (i := (136, 3, .goto (-87), (29, 0, 0), 0)) (by decide +kernel)) (am_tgt_of (by decide +kernel)) ?_
      refine am_Ek_ls (ls' := [(2, .int 4), (1, .int i), (0, .ref 164)]) ⟨rfl, rfl, rfl, trivial⟩ ?_
      refine am_e_iload_n (am_nxt_of (i := (49, 1, .iload_n 2, (0, 0, 0), 0)) (by decide +kernel)) (v := 4) rfl ?_
      refine am_e_bipush (w := 7) (am_nxt_of (i := (50, 2, .bipush 7, (0, 0, 0), 0)) (by decide +kernel)) (by decide) ?_
      refine am_e_cmpF (am_nxt_of (i := (52, 3, .if_icmp .ge 87, (79, 0, 0), 0)) (by decide +kernel)) (am_c_geF (by decide)) ?_
      refine am_e_iload_n (am_nxt_of (i := (55, 1, .iload_n 2, (0, 0, 0), 0)) (by decide +kernel)) (v := 4) rfl ?_
      refine am_e_ifF (am_nxt_of (i := (56, 3, .ifCond .eq 13, (40, 0, 0), 0)) (by decide +kernel)) (am_c_eqF (by decide)) ?_
      refine am_e_iload_n (am_nxt_of (i := (59, 1, .iload_n 2, (0, 0, 0), 0)) (by decide +kernel)) (v := 4) rfl ?_
      refine am_e_iconst (w := 2) (am_nxt_of (i := (60, 1, .iconst 2, (0, 0, 0), 0)) (by decide +kernel)) rfl ?_
      refine am_e_cmpF (am_nxt_of (i := (61, 3, .if_icmp .eq 8, (40, 0, 0), 0)) (by decide +kernel)) (am_c_eqF (by decide)) ?_
      refine am_e_iload_n (am_nxt_of (i := (64, 1, .iload_n 2, (0, 0, 0), 0)) (by decide +kernel)) (v := 4) rfl ?_
      refine am_e_iconst (w := 3) (am_nxt_of (i := (65, 1, .iconst 3, (0, 0, 0), 0)) (by decide +kernel)) rfl ?_
      refine am_e_cmpT (am_nxt_of (i := (66, 3, .if_icmp .ne 7, (42, 0, 0), 0)) (by decide +kernel)) (am_c_neT (by decide)) (am_tgt_of (by decide +kernel)) ?_
      refine am_e_iconst (w := 0) (am_nxt_of (i := (73, 1, .iconst 0, (0, 0, 0), 0)) (by decide +kernel)) rfl ?_
      refine am_e_istore_n (ls' := [(3, .int 0), (2, .int 4), (1, .int i), (0, .ref 164)]) (am_nxt_of (i := (74, 1, .istore_n 3, (0, 0, 0), 0)) (by decide +kernel)) (by decide +kernel) rfl ?_
      refine am_e_iload_n (am_nxt_of (i := (75, 1, .iload_n 2, (0, 0, 0), 0)) (by decide +kernel)) (v := 4) rfl ?_
      refine am_e_iconst (w := 1) (am_nxt_of (i := (76, 1, .iconst 1, (0, 0, 0), 0)) (by decide +kernel)) rfl ?_
      refine am_e_cmpF (am_nxt_of (i := (77, 3, .if_icmp .eq 8, (50, 0, 0), 0)) (by decide +kernel)) (am_c_eqF (by decide)) ?_
      refine am_e_iload_n (am_nxt_of (i := (80, 1, .iload_n 2, (0, 0, 0), 0)) (by decide +kernel)) (v := 4) rfl ?_
      refine am_e_iconst (w := 2) (am_nxt_of (i := (81, 1, .iconst 2, (0, 0, 0), 0)) (by decide +kernel)) rfl ?_
      refine am_e_cmpT (am_nxt_of (i := (82, 3, .if_icmp .ne 8, (52, 0, 0), 0)) (by decide +kernel)) (am_c_neT (by decide)) (am_tgt_of (by decide +kernel)) ?_
      refine am_e_iload_n (am_nxt_of (i := (90, 1, .iload_n 2, (0, 0, 0), 0)) (by decide +kernel)) (v := 4) rfl ?_
      refine am_e_iconst (w := 3) (am_nxt_of (i := (91, 1, .iconst 3, (0, 0, 0), 0)) (by decide +kernel)) rfl ?_
      refine am_e_cmpF (am_nxt_of (i := (92, 3, .if_icmp .eq 8, (58, 0, 0), 0)) (by decide +kernel)) (am_c_eqF (by decide)) ?_
      refine am_e_iload_n (am_nxt_of (i := (95, 1, .iload_n 2, (0, 0, 0), 0)) (by decide +kernel)) (v := 4) rfl ?_
      refine am_e_iconst (w := 5) (am_nxt_of (i := (96, 1, .iconst 5, (0, 0, 0), 0)) (by decide +kernel)) rfl ?_
      refine am_e_cmpT (am_nxt_of (i := (97, 3, .if_icmp .ne 8, (60, 0, 0), 0)) (by decide +kernel)) (am_c_neT (by decide)) (am_tgt_of (by decide +kernel)) ?_
      refine am_e_bipush (w := 99) (am_nxt_of (i := (105, 2, .bipush 99, (0, 0, 0), 0)) (by decide +kernel)) (by decide) ?_
      refine am_e_istore (ls' := [(4, .int 99), (3, .int 0), (2, .int 4), (1, .int i), (0, .ref 164)]) (am_nxt_of (i := (107, 2, .istore 4, (0, 0, 0), 0)) (by decide +kernel)) (by decide +kernel) rfl ?_
      refine am_Ek_ls (ls' := [(4, .int 99), (3, .int 0), (2, .int 4), (1, .int i), (0, .ref 164)]) ⟨rfl, rfl, rfl, rfl, rfl, trivial⟩ ?_
      refine ac_bl_st hX n099 rfl (c := 4) (by decide) (by decide) (ab_i_ok (by decide) (by decide)) (ab_i_ok (by decide) (by decide)) (by decide) (by decide) (by decide) I6 J6 F6 eb6 b_0 (by omega) e28 (fun h7 g7 I7 J7 F7 eb7 eg7 hg7 hs7 => ?_)
      refine am_e_iinc (w := 5) (ls' := [(2, .int 5), (4, .int 99), (3, .int 0), (1, .int i), (0, .ref 164)]) (am_nxt_of (i := (133, 3, .iinc 2 1, (0, 0, 0), 0)) (by decide +kernel)) (v := 4) rfl (by decide +kernel) (by decide) rfl ?_
      refine am_e_goto (am_cur_of (i := (136, 3, .goto (-87), (29, 0, 0), 0)) (by decide +kernel)) (am_tgt_of (by decide +kernel)) ?_
      refine am_Ek_ls (ls' := [(2, .int 5), (1, .int i), (0, .ref 164)]) ⟨rfl, rfl, rfl, trivial⟩ ?_
      refine am_e_iload_n (am_nxt_of (i := (49, 1, .iload_n 2, (0, 0, 0), 0)) (by decide +kernel)) (v := 5) rfl ?_
      refine am_e_bipush (w := 7) (am_nxt_of (i := (50, 2, .bipush 7, (0, 0, 0), 0)) (by decide +kernel)) (by decide) ?_
      refine am_e_cmpF (am_nxt_of (i := (52, 3, .if_icmp .ge 87, (79, 0, 0), 0)) (by decide +kernel)) (am_c_geF (by decide)) ?_
      refine am_e_iload_n (am_nxt_of (i := (55, 1, .iload_n 2, (0, 0, 0), 0)) (by decide +kernel)) (v := 5) rfl ?_
      refine am_e_ifF (am_nxt_of (i := (56, 3, .ifCond .eq 13, (40, 0, 0), 0)) (by decide +kernel)) (am_c_eqF (by decide)) ?_
      refine am_e_iload_n (am_nxt_of (i := (59, 1, .iload_n 2, (0, 0, 0), 0)) (by decide +kernel)) (v := 5) rfl ?_
      refine am_e_iconst (w := 2) (am_nxt_of (i := (60, 1, .iconst 2, (0, 0, 0), 0)) (by decide +kernel)) rfl ?_
      refine am_e_cmpF (am_nxt_of (i := (61, 3, .if_icmp .eq 8, (40, 0, 0), 0)) (by decide +kernel)) (am_c_eqF (by decide)) ?_
      refine am_e_iload_n (am_nxt_of (i := (64, 1, .iload_n 2, (0, 0, 0), 0)) (by decide +kernel)) (v := 5) rfl ?_
      refine am_e_iconst (w := 3) (am_nxt_of (i := (65, 1, .iconst 3, (0, 0, 0), 0)) (by decide +kernel)) rfl ?_
      refine am_e_cmpT (am_nxt_of (i := (66, 3, .if_icmp .ne 7, (42, 0, 0), 0)) (by decide +kernel)) (am_c_neT (by decide)) (am_tgt_of (by decide +kernel)) ?_
      refine am_e_iconst (w := 0) (am_nxt_of (i := (73, 1, .iconst 0, (0, 0, 0), 0)) (by decide +kernel)) rfl ?_
      refine am_e_istore_n (ls' := [(3, .int 0), (2, .int 5), (1, .int i), (0, .ref 164)]) (am_nxt_of (i := (74, 1, .istore_n 3, (0, 0, 0), 0)) (by decide +kernel)) (by decide +kernel) rfl ?_
      refine am_e_iload_n (am_nxt_of (i := (75, 1, .iload_n 2, (0, 0, 0), 0)) (by decide +kernel)) (v := 5) rfl ?_
      refine am_e_iconst (w := 1) (am_nxt_of (i := (76, 1, .iconst 1, (0, 0, 0), 0)) (by decide +kernel)) rfl ?_
      refine am_e_cmpF (am_nxt_of (i := (77, 3, .if_icmp .eq 8, (50, 0, 0), 0)) (by decide +kernel)) (am_c_eqF (by decide)) ?_
      refine am_e_iload_n (am_nxt_of (i := (80, 1, .iload_n 2, (0, 0, 0), 0)) (by decide +kernel)) (v := 5) rfl ?_
      refine am_e_iconst (w := 2) (am_nxt_of (i := (81, 1, .iconst 2, (0, 0, 0), 0)) (by decide +kernel)) rfl ?_
      refine am_e_cmpT (am_nxt_of (i := (82, 3, .if_icmp .ne 8, (52, 0, 0), 0)) (by decide +kernel)) (am_c_neT (by decide)) (am_tgt_of (by decide +kernel)) ?_
      refine am_e_iload_n (am_nxt_of (i := (90, 1, .iload_n 2, (0, 0, 0), 0)) (by decide +kernel)) (v := 5) rfl ?_
      refine am_e_iconst (w := 3) (am_nxt_of (i := (91, 1, .iconst 3, (0, 0, 0), 0)) (by decide +kernel)) rfl ?_
      refine am_e_cmpF (am_nxt_of (i := (92, 3, .if_icmp .eq 8, (58, 0, 0), 0)) (by decide +kernel)) (am_c_eqF (by decide)) ?_
      refine am_e_iload_n (am_nxt_of (i := (95, 1, .iload_n 2, (0, 0, 0), 0)) (by decide +kernel)) (v := 5) rfl ?_
      refine am_e_iconst (w := 5) (am_nxt_of (i := (96, 1, .iconst 5, (0, 0, 0), 0)) (by decide +kernel)) rfl ?_
      refine am_e_cmpF (am_nxt_of (i := (97, 3, .if_icmp .ne 8, (60, 0, 0), 0)) (by decide +kernel)) (am_c_neF (by decide)) ?_
      refine am_e_bipush (w := 9) (am_nxt_of (i := (100, 2, .bipush 9, (0, 0, 0), 0)) (by decide +kernel)) (by decide) ?_
      refine am_e_goto (am_cur_of (i := (102, 3, .goto 5, (61, 0, 0), 0)) (by decide +kernel)) (am_tgt_of (by decide +kernel)) ?_
      refine am_e_istore (ls' := [(4, .int 9), (3, .int 0), (2, .int 5), (1, .int i), (0, .ref 164)]) (am_nxt_of (i := (107, 2, .istore 4, (0, 0, 0), 0)) (by decide +kernel)) (by decide +kernel) rfl ?_
      refine am_Ek_ls (ls' := [(4, .int 9), (3, .int 0), (2, .int 5), (1, .int i), (0, .ref 164)]) ⟨rfl, rfl, rfl, rfl, rfl, trivial⟩ ?_
      refine ac_bl_st hX nxx rfl (c := 5) (by decide) (by decide) (ab_i_ok (by decide) (by decide)) (ab_i_ok (by decide) (by decide)) (by decide) (by decide) (by decide) I7 J7 F7 eb7 b_0 (by omega) e28 (fun h8 g8 I8 J8 F8 eb8 eg8 hg8 hs8 => ?_)
      refine am_e_iinc (w := 6) (ls' := [(2, .int 6), (4, .int 9), (3, .int 0), (1, .int i), (0, .ref 164)]) (am_nxt_of (i := (133, 3, .iinc 2 1, (0, 0, 0), 0)) (by decide +kernel)) (v := 5) rfl (by decide +kernel) (by decide) rfl ?_
      refine am_e_goto (am_cur_of (i := (136, 3, .goto (-87), (29, 0, 0), 0)) (by decide +kernel)) (am_tgt_of (by decide +kernel)) ?_
      refine am_Ek_ls (ls' := [(2, .int 6), (1, .int i), (0, .ref 164)]) ⟨rfl, rfl, rfl, trivial⟩ ?_
      refine am_e_iload_n (am_nxt_of (i := (49, 1, .iload_n 2, (0, 0, 0), 0)) (by decide +kernel)) (v := 6) rfl ?_
      refine am_e_bipush (w := 7) (am_nxt_of (i := (50, 2, .bipush 7, (0, 0, 0), 0)) (by decide +kernel)) (by decide) ?_
      refine am_e_cmpF (am_nxt_of (i := (52, 3, .if_icmp .ge 87, (79, 0, 0), 0)) (by decide +kernel)) (am_c_geF (by decide)) ?_
      refine am_e_iload_n (am_nxt_of (i := (55, 1, .iload_n 2, (0, 0, 0), 0)) (by decide +kernel)) (v := 6) rfl ?_
      refine am_e_ifF (am_nxt_of (i := (56, 3, .ifCond .eq 13, (40, 0, 0), 0)) (by decide +kernel)) (am_c_eqF (by decide)) ?_
      refine am_e_iload_n (am_nxt_of (i := (59, 1, .iload_n 2, (0, 0, 0), 0)) (by decide +kernel)) (v := 6) rfl ?_
      refine am_e_iconst (w := 2) (am_nxt_of (i := (60, 1, .iconst 2, (0, 0, 0), 0)) (by decide +kernel)) rfl ?_
      refine am_e_cmpF (am_nxt_of (i := (61, 3, .if_icmp .eq 8, (40, 0, 0), 0)) (by decide +kernel)) (am_c_eqF (by decide)) ?_
      refine am_e_iload_n (am_nxt_of (i := (64, 1, .iload_n 2, (0, 0, 0), 0)) (by decide +kernel)) (v := 6) rfl ?_
      refine am_e_iconst (w := 3) (am_nxt_of (i := (65, 1, .iconst 3, (0, 0, 0), 0)) (by decide +kernel)) rfl ?_
      refine am_e_cmpT (am_nxt_of (i := (66, 3, .if_icmp .ne 7, (42, 0, 0), 0)) (by decide +kernel)) (am_c_neT (by decide)) (am_tgt_of (by decide +kernel)) ?_
      refine am_e_iconst (w := 0) (am_nxt_of (i := (73, 1, .iconst 0, (0, 0, 0), 0)) (by decide +kernel)) rfl ?_
      refine am_e_istore_n (ls' := [(3, .int 0), (2, .int 6), (1, .int i), (0, .ref 164)]) (am_nxt_of (i := (74, 1, .istore_n 3, (0, 0, 0), 0)) (by decide +kernel)) (by decide +kernel) rfl ?_
      refine am_e_iload_n (am_nxt_of (i := (75, 1, .iload_n 2, (0, 0, 0), 0)) (by decide +kernel)) (v := 6) rfl ?_
      refine am_e_iconst (w := 1) (am_nxt_of (i := (76, 1, .iconst 1, (0, 0, 0), 0)) (by decide +kernel)) rfl ?_
      refine am_e_cmpF (am_nxt_of (i := (77, 3, .if_icmp .eq 8, (50, 0, 0), 0)) (by decide +kernel)) (am_c_eqF (by decide)) ?_
      refine am_e_iload_n (am_nxt_of (i := (80, 1, .iload_n 2, (0, 0, 0), 0)) (by decide +kernel)) (v := 6) rfl ?_
      refine am_e_iconst (w := 2) (am_nxt_of (i := (81, 1, .iconst 2, (0, 0, 0), 0)) (by decide +kernel)) rfl ?_
      refine am_e_cmpT (am_nxt_of (i := (82, 3, .if_icmp .ne 8, (52, 0, 0), 0)) (by decide +kernel)) (am_c_neT (by decide)) (am_tgt_of (by decide +kernel)) ?_
      refine am_e_iload_n (am_nxt_of (i := (90, 1, .iload_n 2, (0, 0, 0), 0)) (by decide +kernel)) (v := 6) rfl ?_
      refine am_e_iconst (w := 3) (am_nxt_of (i := (91, 1, .iconst 3, (0, 0, 0), 0)) (by decide +kernel)) rfl ?_
      refine am_e_cmpF (am_nxt_of (i := (92, 3, .if_icmp .eq 8, (58, 0, 0), 0)) (by decide +kernel)) (am_c_eqF (by decide)) ?_
      refine am_e_iload_n (am_nxt_of (i := (95, 1, .iload_n 2, (0, 0, 0), 0)) (by decide +kernel)) (v := 6) rfl ?_
      refine am_e_iconst (w := 5) (am_nxt_of (i := (96, 1, .iconst 5, (0, 0, 0), 0)) (by decide +kernel)) rfl ?_
      refine am_e_cmpT (am_nxt_of (i := (97, 3, .if_icmp .ne 8, (60, 0, 0), 0)) (by decide +kernel)) (am_c_neT (by decide)) (am_tgt_of (by decide +kernel)) ?_
      refine am_e_bipush (w := 99) (am_nxt_of (i := (105, 2, .bipush 99, (0, 0, 0), 0)) (by decide +kernel)) (by decide) ?_
      refine am_e_istore (ls' := [(4, .int 99), (3, .int 0), (2, .int 6), (1, .int i), (0, .ref 164)]) (am_nxt_of (i := (107, 2, .istore 4, (0, 0, 0), 0)) (by decide +kernel)) (by decide +kernel) rfl ?_
      refine am_Ek_ls (ls' := [(4, .int 99), (3, .int 0), (2, .int 6), (1, .int i), (0, .ref 164)]) ⟨rfl, rfl, rfl, rfl, rfl, trivial⟩ ?_
      refine ac_bl_st hX n099 rfl (c := 6) (by decide) (by decide) (ab_i_ok (by decide) (by decide)) (ab_i_ok (by decide) (by decide)) (by decide) (by decide) (by decide) I8 J8 F8 eb8 b_0 (by omega) e28 (fun h9 g9 I9 J9 F9 eb9 eg9 hg9 hs9 => ?_)
      refine am_e_iinc (w := 7) (ls' := [(2, .int 7), (4, .int 99), (3, .int 0), (1, .int i), (0, .ref 164)]) (am_nxt_of (i := (133, 3, .iinc 2 1, (0, 0, 0), 0)) (by decide +kernel)) (v := 6) rfl (by decide +kernel) (by decide) rfl ?_
      refine am_e_goto (am_cur_of (i := (136, 3, .goto (-87), (29, 0, 0), 0)) (by decide +kernel)) (am_tgt_of (by decide +kernel)) ?_
      refine am_Ek_ls (ls' := [(2, .int 7), (1, .int i), (0, .ref 164)]) ⟨rfl, rfl, rfl, trivial⟩ ?_
      refine am_e_iload_n (am_nxt_of (i := (49, 1, .iload_n 2, (0, 0, 0), 0)) (by decide +kernel)) (v := 7) rfl ?_
      refine am_e_bipush (w := 7) (am_nxt_of (i := (50, 2, .bipush 7, (0, 0, 0), 0)) (by decide +kernel)) (by decide) ?_
      refine am_e_cmpT (am_nxt_of (i := (52, 3, .if_icmp .ge 87, (79, 0, 0), 0)) (by decide +kernel)) (am_c_geT (by decide)) (am_tgt_of (by decide +kernel)) ?_
      have eb10 := ac_c1 (x := b) b_0 (by omega)
      have I10 := ac_p17 (v := b + 1) I9 (by omega) (by omega)
      refine am_e_aload_n (am_nxt_of (i := (139, 1, .aload_n 0, (0, 0, 0), 0)) (by decide +kernel)) (v := 164) rfl ?_
      refine am_e_dup (am_nxt_of (i := (140, 1, .dup, (0, 0, 0), 0)) (by decide +kernel)) rfl ?_
      refine am_e_getf (v := .int b) (am_nxt_of (i := (141, 3, .getfield 201, (12, 17, 1401), 0)) (by decide +kernel)) ac_o eb9 ?_
      refine am_e_iconst (w := 1) (am_nxt_of (i := (144, 1, .iconst 1, (0, 0, 0), 0)) (by decide +kernel)) rfl ?_
      refine am_e_iadd (w := b + 1) (am_nxt_of (i := (145, 1, .iadd, (0, 0, 0), 0)) (by decide +kernel)) rfl ?_
      refine am_e_putf (am_nxt_of (i := (146, 3, .putfield 201, (12, 17, 1401), 0)) (by decide +kernel)) ac_o rfl ?_
      have e2 : h9 170 (28 + 7 * b.toInt.toNat + 2) = .int g5 := (hs9 _ (by omega)).trans ((hs8 _ (by omega)).trans ((hs7 _ (by omega)).trans ((hs6 _ (by omega)).trans eg5)))
      have e3 : h9 170 (28 + 7 * b.toInt.toNat + 3) = .int g6 := (hs9 _ (by omega)).trans ((hs8 _ (by omega)).trans ((hs7 _ (by omega)).trans eg6))
      refine am_e_iconst (w := 1) (am_nxt_of (i := (149, 1, .iconst 1, (0, 0, 0), 0)) (by decide +kernel)) rfl ?_
      exact am_e_iret (ty := .boolean) (am_cur_of (i := (150, 1, .ireturn, (0, 0, 0), 0)) (by decide +kernel)) rfl rfl rfl ⟨rfl, I10, ac_J_b1 hX J9 eb9 b_0 (by omega) e2 hg5 e3 hg6, ab_Fr_up rfl F9, Or.inr rfl⟩
end ACD
