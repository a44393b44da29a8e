/-! ===== THE MODEL'S goRounds (wip/s/tpl/92.tpl) ===== -/
/-- who takes a turn takes a second at least for a breath -/
def ab_M5 (h : am_H) : Prop := ∀ (t : Nat) (n : Int32), h 164 13 = .int n → (t : Int) < n.toInt → ∃ k v : Int32, h 171 t = .int k ∧ 0 ≤ k.toInt ∧ k.toInt ≤ 3 ∧ h 170 (7 * k.toInt.toNat + 3) = .int v ∧ 1 ≤ v.toInt
section ABGR
variable {J : am_H → Prop} {md : List (Nat × Nat)} {h0 : am_H} {b : Int32} {sfn sho sdz srs sfl : ab_Sm}
theorem ab_Bd_up {D : Int} {h : am_H} {j : Nat} {v : Int32} (hB : ab_Bd J md h0 b D h) (hj : j = 64 ∨ j = 65) (hm : ab_in md 164 j = true) (hJ : ∀ h h', ab_Fr [(164, 65), (164, 66)] h h' → J h → J h') : ab_Bd J md h0 b D (am_up h 164 j (.int v)) := by
  obtain ⟨h1, h2, h3, h4, h5, s', h6, h7⟩ := hB
  rcases hj with rfl | rfl
  · exact ⟨ab_Inv_up h1 (by rw [show ab_hi ab_tab 164 64 = ab_top by decide +kernel]; exact ab_top_ok _), hJ h _ (ab_Fr_up rfl ab_Fr_refl) h2, ab_Fr_up hm h3, h4, h5, s', h6, h7⟩
  · exact ⟨ab_Inv_up h1 (by rw [show ab_hi ab_tab 164 65 = ab_top by decide +kernel]; exact ab_top_ok _), hJ h _ (ab_Fr_up rfl ab_Fr_refl) h2, ab_Fr_up hm h3, h4, h5, s', h6, h7⟩
abbrev ab_grL (m t d : Int32) : am_L := [(0, .ref 164), (1, .int m), (2, .int t), (3, .int d)]
abbrev ab_grQ (J : am_H → Prop) (md : List (Nat × Nat)) (h0 : am_H) (b : Int32) : Option Value → List am_k → am_H → Prop := fun r ks h' => ks = am_ks0 ∧ (r = some (.int 0) ∨ r = some (.int 1)) ∧ ∃ D' : Int, ab_Bd J md h0 b D' h'
theorem ab_gr_end {D : Int} {h : am_H} {m t d : Int32} (hB : ab_Bd J md h0 b D h) : am_Ek false am_G0 am_m214 107 (ab_grL m t d) [] am_ks0 h 0 0 (ab_grQ J md h0 b) := by
  have q1 : am_ks0[164]? = some (.inl 12) := by decide +kernel
  have k8 : am_ks0[188]? = some (.inr (.int, 4)) := by decide +kernel
  have k6 : am_ks0[168]? = some (.inr (.int, 12)) := by decide +kernel
  have z : ab_sz (.inl 12) = 81 := rfl
  have f50 : h 164 50 = .ref 188 := ab_ref1 hB.1 q1 (by rw [z]; decide) (by decide +kernel)
  have f23 : h 164 23 = .ref 168 := ab_ref1 hB.1 q1 (by rw [z]; decide) (by decide +kernel)
  obtain ⟨x, ex, -, -⟩ := ab_arrI hB.1 (q := 1) k8 (l := -2147483648) (u := 2147483647) (by decide +kernel) (by decide +kernel) (by decide)
  obtain ⟨y, ey, -, -⟩ := ab_arrI hB.1 (q := 0) k6 (l := 0) (u := 99999) (by decide +kernel) (by decide +kernel) (by decide)
  refine am_e_aload_n (am_nxt_of (i := (185, 1, .aload_n 0, (0, 0, 0), 0)) (by decide +kernel)) (v := 164) rfl ?_
  refine am_e_getf (am_nxt_of (i := (186, 3, .getfield 85, (12, 50, 1434), 0)) (by decide +kernel)) q1 f50 ?_
  refine am_e_iconst (w := 1) (am_nxt_of (i := (189, 1, .iconst 1, (0, 0, 0), 0)) (by decide +kernel)) rfl ?_
  refine am_e_iaload (q := 1) (am_nxt_of (i := (190, 1, .iaload, (0, 0, 0), 0)) (by decide +kernel)) k8 (by decide) rfl ex ?_
  refine am_e_aload_n (am_nxt_of (i := (191, 1, .aload_n 0, (0, 0, 0), 0)) (by decide +kernel)) (v := 164) rfl ?_
  refine am_e_getf (am_nxt_of (i := (192, 3, .getfield 24, (12, 23, 1407), 0)) (by decide +kernel)) q1 f23 ?_
  refine am_e_iconst (w := 0) (am_nxt_of (i := (195, 1, .iconst 0, (0, 0, 0), 0)) (by decide +kernel)) rfl ?_
  refine am_e_iaload (q := 0) (am_nxt_of (i := (196, 1, .iaload, (0, 0, 0), 0)) (by decide +kernel)) k6 (by decide) rfl ey ?_
  by_cases hlt : x < y
  · refine am_e_cmpT (am_nxt_of (i := (197, 3, .if_icmp .lt 7, (118, 0, 0), 0)) (by decide +kernel)) (am_c_ltT hlt) (am_tgt_of (by decide +kernel)) ?_
    refine am_e_iconst (w := 0) (am_nxt_of (i := (204, 1, .iconst 0, (0, 0, 0), 0)) (by decide +kernel)) rfl ?_
    exact am_e_iret (ty := .boolean) (am_cur_of (i := (205, 1, .ireturn, (0, 0, 0), 0)) (by decide +kernel)) rfl rfl rfl ⟨rfl, Or.inl rfl, D, hB⟩
  · refine am_e_cmpF (am_nxt_of (i := (197, 3, .if_icmp .lt 7, (118, 0, 0), 0)) (by decide +kernel)) (am_c_ltF hlt) ?_
    refine am_e_iconst (w := 1) (am_nxt_of (i := (200, 1, .iconst 1, (0, 0, 0), 0)) (by decide +kernel)) rfl ?_
    refine am_e_goto (am_cur_of (i := (201, 3, .goto 4, (119, 0, 0), 0)) (by decide +kernel)) (am_tgt_of (by decide +kernel)) ?_
    exact am_e_iret (ty := .boolean) (am_cur_of (i := (205, 1, .ireturn, (0, 0, 0), 0)) (by decide +kernel)) rfl rfl rfl ⟨rfl, Or.inr rfl, D, hB⟩
theorem ab_gr_loop (H : ab_BrC J md sfn sho sdz srs sfl) (h170 : ab_no 170 md = true) (h171 : ab_no 171 md = true) (h13 : ab_in md 164 13 = false) (hm1 : ab_in md 164 64 = true) (hm2 : ab_in md 164 65 = true) (hJr : ∀ h h', ab_Fr [(164, 65), (164, 66)] h h' → J h → J h') (hM : ab_M5 h0) {n : Int32} (en : h0 164 13 = .int n) (n1 : 1 ≤ n.toInt) (n8 : n.toInt ≤ 8) :
    ∀ (e : Nat) (D : Int) (m t d : Int32) (h : am_H), D + e = 3600 → 0 ≤ D → ab_Bd J md h0 b D h → (¬ m = 0 → D < 3600) → 0 ≤ t.toInt → t.toInt < n.toInt → am_Ek false am_G0 am_m214 36 (ab_grL m t d) [] am_ks0 h 0 0 (ab_grQ J md h0 b) := by
  have q1 : am_ks0[164]? = some (.inl 12) := by decide +kernel
  have k1 : am_ks0[171]? = some (.inr (.int, 16)) := by decide +kernel
  have k2 : am_ks0[172]? = some (.inr (.int, 16)) := by decide +kernel
  have k8 : am_ks0[188]? = some (.inr (.int, 4)) := by decide +kernel
  have k6 : am_ks0[168]? = some (.inr (.int, 12)) := by decide +kernel
  have z : ab_sz (.inl 12) = 81 := rfl
  intro e
  induction e using Nat.strongRecOn with
  | _ e ih =>
    intro D m t d h he D0 hB hmD t0 t1
    refine am_e_iload_n (am_nxt_of (i := (56, 1, .iload_n 1, (0, 0, 0), 0)) (by decide +kernel)) (v := m) rfl ?_
    by_cases hm0 : m = 0
    · refine am_e_ifT (am_nxt_of (i := (57, 3, .ifCond .eq 128, (107, 0, 0), 0)) (by decide +kernel)) (am_c_eqT hm0) (am_tgt_of (by decide +kernel)) ?_
      exact ab_gr_end hB
    · refine am_e_ifF (am_nxt_of (i := (57, 3, .ifCond .eq 128, (107, 0, 0), 0)) (by decide +kernel)) (am_c_eqF hm0) ?_
      have hD := hmD hm0
      have f26 : h 164 26 = .ref 171 := ab_ref1 hB.1 q1 (by rw [z]; decide) (by decide +kernel)
      obtain ⟨k, v, ek, kk0, kk1, ev, v1⟩ := hM t.toInt.toNat n en (by omega)
      have ek' : h 171 t.toInt.toNat = .int k := (ab_no_ok h171 hB.2.2.1 _).trans ek
      have hix := ab_ix (x := t) (n := 16) t0 (by omega)
      refine am_e_aload_n (am_nxt_of (i := (60, 1, .aload_n 0, (0, 0, 0), 0)) (by decide +kernel)) (v := 164) rfl ?_
      refine am_e_aload_n (am_nxt_of (i := (61, 1, .aload_n 0, (0, 0, 0), 0)) (by decide +kernel)) (v := 164) rfl ?_
      refine am_e_getf (am_nxt_of (i := (62, 3, .getfield 33, (12, 26, 1410), 0)) (by decide +kernel)) q1 f26 ?_
      refine am_e_iload_n (am_nxt_of (i := (65, 1, .iload_n 2, (0, 0, 0), 0)) (by decide +kernel)) (v := t) rfl ?_
      refine am_e_iaload (am_nxt_of (i := (66, 1, .iaload, (0, 0, 0), 0)) (by decide +kernel)) k1 hix rfl ek' ?_
      refine am_e_iconst (w := 1) (am_nxt_of (i := (67, 1, .iconst 1, (0, 0, 0), 0)) (by decide +kernel)) rfl ?_
      refine am_e_callV (M' := am_m215) (o := 164) (ar := [.int 1, .int k]) (rest := []) (L := lv_args 0 [.ref 164, .int k, .int 1]) (am_nxt_of (i := (68, 3, .invokevirtual 460, (215, 1891, 3), 0)) (by decide +kernel)) rfl rfl rfl rfl q1 rfl rfl rfl ?_
      refine am_Ev_mono (ab_breathes H h170 (k := k) (w := 1) kk0 kk1 D0 hD ⟨v, ev, v1⟩ hB) (fun r ks h1 hq => ?_)
      obtain ⟨rfl, D1, m1, hB1, hD1, rfl, hmo⟩ := hq
      show am_Ek false am_G0 am_m214 45 (ab_grL m t d) [.int m1] am_ks0 h1 0 0 (ab_grQ J md h0 b)
      have hD1' : D1 ≤ 3600 := by
        rcases hmo with ⟨-, q⟩ | ⟨-, q⟩ <;> omega
      refine am_e_istore_n (am_nxt_of (i := (71, 1, .istore_n 1, (0, 0, 0), 0)) (by decide +kernel)) (by decide +kernel) rfl ?_
      refine am_Ek_ls (ls' := ab_grL m1 t d) ⟨rfl, rfl, rfl, rfl, trivial⟩ ?_
      have f50 : h1 164 50 = .ref 188 := ab_ref1 hB1.1 q1 (by rw [z]; decide) (by decide +kernel)
      obtain ⟨x, ex, -, -⟩ := ab_arrI hB1.1 (q := 1) k8 (l := -2147483648) (u := 2147483647) (by decide +kernel) (by decide +kernel) (by decide)
      have g64 := hB1.1 164 64 _ q1 (by rw [z]; decide)
      rw [show ab_hi ab_tab 164 64 = ab_top by decide +kernel] at g64
      obtain ⟨y, ey, -, -⟩ := g64
      -- behind the most: more, the count, the turn
      have hrest : ∀ w : Int32, am_Ek false am_G0 am_m214 61 (ab_grL m1 t d) [.int w, .ref 164] am_ks0 h1 0 0 (ab_grQ J md h0 b) := by
        intro w
        refine am_e_putf (am_nxt_of (i := (99, 3, .putfield 454, (12, 64, 1448), 0)) (by decide +kernel)) q1 rfl ?_
        have hB2 := ab_Bd_up (v := w) hB1 (Or.inl rfl) hm1 hJr
        refine am_e_iload_n (am_nxt_of (i := (102, 1, .iload_n 1, (0, 0, 0), 0)) (by decide +kernel)) (v := m1) rfl ?_
        by_cases hm10 : m1 = 0
        · refine am_e_ifF (am_nxt_of (i := (103, 3, .ifCond .ne 6, (65, 0, 0), 0)) (by decide +kernel)) (am_c_neF hm10) ?_
          refine am_e_goto (am_cur_of (i := (106, 3, .goto (-50), (36, 0, 0), 0)) (by decide +kernel)) (am_tgt_of (by decide +kernel)) ?_
          exact ih (3600 - D1).toNat (by omega) D1 m1 t d _ (by omega) (by omega) hB2 (fun q => absurd hm10 q) t0 t1
        · refine am_e_ifT (am_nxt_of (i := (103, 3, .ifCond .ne 6, (65, 0, 0), 0)) (by decide +kernel)) (am_c_neT hm10) (am_tgt_of (by decide +kernel)) ?_
          have hD2 : D1 < 3600 := by
            rcases hmo with ⟨-, q⟩ | ⟨q, -⟩
            · exact q
            · exact absurd q hm10
          generalize hh2 : am_up h1 164 64 (.int w) = h2 at hB2
          have g50 : h2 164 50 = .ref 188 := ab_ref1 hB2.1 q1 (by rw [z]; decide) (by decide +kernel)
          have g23 : h2 164 23 = .ref 168 := ab_ref1 hB2.1 q1 (by rw [z]; decide) (by decide +kernel)
          have g27 : h2 164 27 = .ref 172 := ab_ref1 hB2.1 q1 (by rw [z]; decide) (by decide +kernel)
          have gn : h2 164 13 = .int n := (hB2.2.2.1 164 13 h13).trans en
          obtain ⟨x2, ex2, -, -⟩ := ab_arrI hB2.1 (q := 1) k8 (l := -2147483648) (u := 2147483647) (by decide +kernel) (by decide +kernel) (by decide)
          obtain ⟨y2, ey2, -, -⟩ := ab_arrI hB2.1 (q := 0) k6 (l := 0) (u := 99999) (by decide +kernel) (by decide +kernel) (by decide)
          obtain ⟨tm, etm, -, -⟩ := ab_arrI hB2.1 (q := t.toNatClampNeg) k2 (l := 0) (u := 20) (by decide +kernel) (by decide +kernel) (Nat.lt_of_not_le (fun q => hix (Or.inr q)))
          refine am_e_aload_n (am_nxt_of (i := (109, 1, .aload_n 0, (0, 0, 0), 0)) (by decide +kernel)) (v := 164) rfl ?_
          refine am_e_getf (am_nxt_of (i := (110, 3, .getfield 85, (12, 50, 1434), 0)) (by decide +kernel)) q1 g50 ?_
          refine am_e_iconst (w := 1) (am_nxt_of (i := (113, 1, .iconst 1, (0, 0, 0), 0)) (by decide +kernel)) rfl ?_
          refine am_e_iaload (q := 1) (am_nxt_of (i := (114, 1, .iaload, (0, 0, 0), 0)) (by decide +kernel)) k8 (by decide) rfl ex2 ?_
          refine am_e_aload_n (am_nxt_of (i := (115, 1, .aload_n 0, (0, 0, 0), 0)) (by decide +kernel)) (v := 164) rfl ?_
          refine am_e_getf (am_nxt_of (i := (116, 3, .getfield 24, (12, 23, 1407), 0)) (by decide +kernel)) q1 g23 ?_
          refine am_e_iconst (w := 0) (am_nxt_of (i := (119, 1, .iconst 0, (0, 0, 0), 0)) (by decide +kernel)) rfl ?_
          refine am_e_iaload (q := 0) (am_nxt_of (i := (120, 1, .iaload, (0, 0, 0), 0)) (by decide +kernel)) k6 (by decide) rfl ey2 ?_
          have hback : ∀ (m2 t2 d2 : Int32) (h3 : am_H), ab_Bd J md h0 b D1 h3 → 0 ≤ t2.toInt → t2.toInt < n.toInt → am_Ek false am_G0 am_m214 36 (ab_grL m2 t2 d2) [] am_ks0 h3 0 0 (ab_grQ J md h0 b) := fun m2 t2 d2 h3 hB3 a0 a1 => ih (3600 - D1).toNat (by omega) D1 m2 t2 d2 h3 (by omega) (by omega) hB3 (fun _ => hD2) a0 a1
          have h77 : ∀ m2 : Int32, am_Ek false am_G0 am_m214 77 (ab_grL m1 t d) [.int m2] am_ks0 h2 0 0 (ab_grQ J md h0 b) := by
            intro m2
            refine am_e_istore_n (am_nxt_of (i := (129, 1, .istore_n 1, (0, 0, 0), 0)) (by decide +kernel)) (by decide +kernel) rfl ?_
            refine am_e_iinc (am_nxt_of (i := (130, 3, .iinc 3 1, (0, 0, 0), 0)) (by decide +kernel)) (v := d) rfl (by decide +kernel) rfl rfl ?_
            refine am_Ek_ls (ls' := ab_grL m2 t (d + Int32.ofInt 1)) ⟨rfl, rfl, rfl, rfl, trivial⟩ ?_
            refine am_e_iload_n (am_nxt_of (i := (133, 1, .iload_n 3, (0, 0, 0), 0)) (by decide +kernel)) (v := d + Int32.ofInt 1) rfl ?_
            refine am_e_aload_n (am_nxt_of (i := (134, 1, .aload_n 0, (0, 0, 0), 0)) (by decide +kernel)) (v := 164) rfl ?_
            refine am_e_getf (am_nxt_of (i := (135, 3, .getfield 36, (12, 27, 1411), 0)) (by decide +kernel)) q1 g27 ?_
            refine am_e_iload_n (am_nxt_of (i := (138, 1, .iload_n 2, (0, 0, 0), 0)) (by decide +kernel)) (v := t) rfl ?_
            refine am_e_iaload (am_nxt_of (i := (139, 1, .iaload, (0, 0, 0), 0)) (by decide +kernel)) k2 hix rfl etm ?_
            by_cases hlt : d + Int32.ofInt 1 < tm
            · refine am_e_cmpF (am_nxt_of (i := (140, 3, .if_icmp .ge 6, (86, 0, 0), 0)) (by decide +kernel)) (am_c_geF hlt) ?_
              refine am_e_goto (am_cur_of (i := (143, 3, .goto (-87), (36, 0, 0), 0)) (by decide +kernel)) (am_tgt_of (by decide +kernel)) ?_
              exact hback m2 t _ h2 hB2 t0 t1
            · refine am_e_cmpT (am_nxt_of (i := (140, 3, .if_icmp .ge 6, (86, 0, 0), 0)) (by decide +kernel)) (am_c_geT hlt) (am_tgt_of (by decide +kernel)) ?_
              refine am_e_iconst (w := 0) (am_nxt_of (i := (146, 1, .iconst 0, (0, 0, 0), 0)) (by decide +kernel)) rfl ?_
              refine am_e_istore_n (am_nxt_of (i := (147, 1, .istore_n 3, (0, 0, 0), 0)) (by decide +kernel)) (by decide +kernel) rfl ?_
              refine am_e_iinc (am_nxt_of (i := (148, 3, .iinc 2 1, (0, 0, 0), 0)) (by decide +kernel)) (v := t) rfl (by decide +kernel) rfl rfl ?_
              have e1 := ab_inc1 t0 (by omega)
              refine am_Ek_ls (ls' := ab_grL m2 (t + Int32.ofInt 1) 0) ⟨rfl, rfl, rfl, rfl, trivial⟩ ?_
              refine am_e_iload_n (am_nxt_of (i := (151, 1, .iload_n 2, (0, 0, 0), 0)) (by decide +kernel)) (v := t + Int32.ofInt 1) rfl ?_
              refine am_e_aload_n (am_nxt_of (i := (152, 1, .aload_n 0, (0, 0, 0), 0)) (by decide +kernel)) (v := 164) rfl ?_
              refine am_e_getf (am_nxt_of (i := (153, 3, .getfield 222, (12, 13, 1397), 0)) (by decide +kernel)) q1 gn ?_
              by_cases htn : t + Int32.ofInt 1 < n
              · refine am_e_cmpF (am_nxt_of (i := (156, 3, .if_icmp .ge 6, (94, 0, 0), 0)) (by decide +kernel)) (am_c_geF htn) ?_
                refine am_e_goto (am_cur_of (i := (159, 3, .goto (-103), (36, 0, 0), 0)) (by decide +kernel)) (am_tgt_of (by decide +kernel)) ?_
                rw [Int32.lt_iff_toInt_lt] at htn
                exact hback m2 _ 0 h2 hB2 (by omega) (by omega)
              · refine am_e_cmpT (am_nxt_of (i := (156, 3, .if_icmp .ge 6, (94, 0, 0), 0)) (by decide +kernel)) (am_c_geT htn) (am_tgt_of (by decide +kernel)) ?_
                have g65 := hB2.1 164 65 _ q1 (by rw [z]; decide)
                rw [show ab_hi ab_tab 164 65 = ab_top by decide +kernel] at g65
                obtain ⟨rr, er, -, -⟩ := g65
                refine am_e_iconst (w := 0) (am_nxt_of (i := (162, 1, .iconst 0, (0, 0, 0), 0)) (by decide +kernel)) rfl ?_
                refine am_e_istore_n (am_nxt_of (i := (163, 1, .istore_n 2, (0, 0, 0), 0)) (by decide +kernel)) (by decide +kernel) rfl ?_
                refine am_Ek_ls (ls' := ab_grL m2 0 0) ⟨rfl, rfl, rfl, rfl, trivial⟩ ?_
                refine am_e_aload_n (am_nxt_of (i := (164, 1, .aload_n 0, (0, 0, 0), 0)) (by decide +kernel)) (v := 164) rfl ?_
                refine am_e_dup (am_nxt_of (i := (165, 1, .dup, (0, 0, 0), 0)) (by decide +kernel)) rfl ?_
                refine am_e_getf (am_nxt_of (i := (166, 3, .getfield 457, (12, 65, 1449), 0)) (by decide +kernel)) q1 er ?_
                refine am_e_iload_n (am_nxt_of (i := (169, 1, .iload_n 1, (0, 0, 0), 0)) (by decide +kernel)) (v := m2) rfl ?_
                have hlast : ∀ u : Int32, am_Ek false am_G0 am_m214 104 (ab_grL m2 0 0) [.int u, .int rr, .ref 164] am_ks0 h2 0 0 (ab_grQ J md h0 b) := by
                  intro u
                  refine am_e_iadd (am_nxt_of (i := (178, 1, .iadd, (0, 0, 0), 0)) (by decide +kernel)) rfl ?_
                  refine am_e_putf (am_nxt_of (i := (179, 3, .putfield 457, (12, 65, 1449), 0)) (by decide +kernel)) q1 rfl ?_
                  refine am_e_goto (am_cur_of (i := (182, 3, .goto (-126), (36, 0, 0), 0)) (by decide +kernel)) (am_tgt_of (by decide +kernel)) ?_
                  exact hback m2 0 0 _ (ab_Bd_up hB2 (Or.inr rfl) hm2 hJr) (by decide) (by rw [show (0 : Int32).toInt = 0 by decide]; omega)
                by_cases hmm : m2 = 0
                · refine am_e_ifT (am_nxt_of (i := (170, 3, .ifCond .eq 7, (103, 0, 0), 0)) (by decide +kernel)) (am_c_eqT hmm) (am_tgt_of (by decide +kernel)) ?_
                  refine am_e_iconst (w := 0) (am_nxt_of (i := (177, 1, .iconst 0, (0, 0, 0), 0)) (by decide +kernel)) rfl ?_
                  exact hlast 0
                · refine am_e_ifF (am_nxt_of (i := (170, 3, .ifCond .eq 7, (103, 0, 0), 0)) (by decide +kernel)) (am_c_eqF hmm) ?_
                  refine am_e_iconst (w := 1) (am_nxt_of (i := (173, 1, .iconst 1, (0, 0, 0), 0)) (by decide +kernel)) rfl ?_
                  refine am_e_goto (am_cur_of (i := (174, 3, .goto 4, (104, 0, 0), 0)) (by decide +kernel)) (am_tgt_of (by decide +kernel)) ?_
                  exact hlast 1
          by_cases hfy : x2 < y2
          · refine am_e_cmpF (am_nxt_of (i := (121, 3, .if_icmp .ge 7, (76, 0, 0), 0)) (by decide +kernel)) (am_c_geF hfy) ?_
            refine am_e_iconst (w := 1) (am_nxt_of (i := (124, 1, .iconst 1, (0, 0, 0), 0)) (by decide +kernel)) rfl ?_
            refine am_e_goto (am_cur_of (i := (125, 3, .goto 4, (77, 0, 0), 0)) (by decide +kernel)) (am_tgt_of (by decide +kernel)) ?_
            exact h77 1
          · refine am_e_cmpT (am_nxt_of (i := (121, 3, .if_icmp .ge 7, (76, 0, 0), 0)) (by decide +kernel)) (am_c_geT hfy) (am_tgt_of (by decide +kernel)) ?_
            refine am_e_iconst (w := 0) (am_nxt_of (i := (128, 1, .iconst 0, (0, 0, 0), 0)) (by decide +kernel)) rfl ?_
            exact h77 0
      refine am_e_aload_n (am_nxt_of (i := (72, 1, .aload_n 0, (0, 0, 0), 0)) (by decide +kernel)) (v := 164) rfl ?_
      refine am_e_aload_n (am_nxt_of (i := (73, 1, .aload_n 0, (0, 0, 0), 0)) (by decide +kernel)) (v := 164) rfl ?_
      refine am_e_getf (am_nxt_of (i := (74, 3, .getfield 85, (12, 50, 1434), 0)) (by decide +kernel)) q1 f50 ?_
      refine am_e_iconst (w := 1) (am_nxt_of (i := (77, 1, .iconst 1, (0, 0, 0), 0)) (by decide +kernel)) rfl ?_
      refine am_e_iaload (q := 1) (am_nxt_of (i := (78, 1, .iaload, (0, 0, 0), 0)) (by decide +kernel)) k8 (by decide) rfl ex ?_
      refine am_e_aload_n (am_nxt_of (i := (79, 1, .aload_n 0, (0, 0, 0), 0)) (by decide +kernel)) (v := 164) rfl ?_
      refine am_e_getf (am_nxt_of (i := (80, 3, .getfield 454, (12, 64, 1448), 0)) (by decide +kernel)) q1 ey ?_
      by_cases hxy : y < x
      · refine am_e_cmpF (am_nxt_of (i := (83, 3, .if_icmp .le 12, (59, 0, 0), 0)) (by decide +kernel)) (am_c_leF hxy) ?_
        refine am_e_aload_n (am_nxt_of (i := (86, 1, .aload_n 0, (0, 0, 0), 0)) (by decide +kernel)) (v := 164) rfl ?_
        refine am_e_getf (am_nxt_of (i := (87, 3, .getfield 85, (12, 50, 1434), 0)) (by decide +kernel)) q1 f50 ?_
        refine am_e_iconst (w := 1) (am_nxt_of (i := (90, 1, .iconst 1, (0, 0, 0), 0)) (by decide +kernel)) rfl ?_
        refine am_e_iaload (q := 1) (am_nxt_of (i := (91, 1, .iaload, (0, 0, 0), 0)) (by decide +kernel)) k8 (by decide) rfl ex ?_
        refine am_e_goto (am_cur_of (i := (92, 3, .goto 7, (61, 0, 0), 0)) (by decide +kernel)) (am_tgt_of (by decide +kernel)) ?_
        exact hrest x
      · refine am_e_cmpT (am_nxt_of (i := (83, 3, .if_icmp .le 12, (59, 0, 0), 0)) (by decide +kernel)) (am_c_leT hxy) (am_tgt_of (by decide +kernel)) ?_
        refine am_e_aload_n (am_nxt_of (i := (95, 1, .aload_n 0, (0, 0, 0), 0)) (by decide +kernel)) (v := 164) rfl ?_
        refine am_e_getf (am_nxt_of (i := (96, 3, .getfield 454, (12, 64, 1448), 0)) (by decide +kernel)) q1 ey ?_
        exact hrest y
end ABGR
