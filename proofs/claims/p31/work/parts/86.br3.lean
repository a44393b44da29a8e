/-! ===== THE MODEL'S breathes: its beginning (wip/s/tpl/86.tpl) ===== -/
section ABB3
variable {J : am_H → Prop} {md : List (Nat × Nat)} {h0 : am_H} {b : Int32} {sfn sho sdz srs sfl : ab_Sm}
theorem ab_br_41 (H : ab_BrC J md sfn sho sdz srs sfl) (h170 : ab_no 170 md = true) {k w m i : Int32} {D0 D : Int} {h : am_H} (k0 : 0 ≤ k.toInt) (k1 : k.toInt ≤ 3) (d00 : 0 ≤ D0) (d01 : D0 < 3600) (hk3 : ∃ v : Int32, h0 170 (7 * k.toInt.toNat + 3) = .int v ∧ 1 ≤ v.toInt) (hB : ab_Bd J md h0 b D h) (hmo : ab_mo m D) (hD : D0 ≤ D) : am_Ek false am_G0 am_m215 41 (ab_brL k w m i) [] am_ks0 h 0 0 (ab_brQ J md h0 b D0) := by
  have H0 := H
  obtain ⟨-, -, -, -, -, ⟨c1, c2, c3, c4, c5⟩, -⟩ := H0
  have q1 : am_ks0[164]? = some (.inl 12) := by decide +kernel
  refine am_e_aload_n (am_nxt_of (i := (72, 1, .aload_n 0, (0, 0, 0), 0)) (by decide +kernel)) (v := 164) rfl ?_
  refine am_e_iconst (w := 1) (am_nxt_of (i := (73, 1, .iconst 1, (0, 0, 0), 0)) (by decide +kernel)) rfl ?_
  refine am_e_iload_n (am_nxt_of (i := (74, 1, .iload_n 1, (0, 0, 0), 0)) (by decide +kernel)) (v := k) rfl ?_
  refine am_e_callV (M' := am_m204) (o := 164) (ar := [.int k, .int 1]) (rest := []) (L := lv_args 0 [.ref 164, .int 1, .int k]) (am_nxt_of (i := (75, 3, .invokevirtual 413, (204, 1847, 3), 0)) (by decide +kernel)) rfl rfl rfl rfl q1 rfl rfl rfl ?_
  refine am_Ev_mono (ab_Bd_con c1 (by rw [c2]; rfl) c5 (ab_as3 c3 k0 k1) hB) (fun r ks h' hq => ?_)
  obtain ⟨rfl, hB', hr⟩ := hq
  have e := ab_voidC_ok c4 hr
  subst e
  show am_Ek false am_G0 am_m215 45 (ab_brL k w m i) [] am_ks0 h' 0 0 (ab_brQ J md h0 b D0)
  refine am_e_iconst (w := 0) (am_nxt_of (i := (78, 1, .iconst 0, (0, 0, 0), 0)) (by decide +kernel)) rfl ?_
  refine am_e_istore (am_nxt_of (i := (79, 2, .istore 4, (0, 0, 0), 0)) (by decide +kernel)) (by decide +kernel) rfl ?_
  refine am_Ek_ls (ls' := ab_brL k w m 0) ⟨rfl, rfl, rfl, rfl, rfl, trivial⟩ ?_
  refine ab_br_l3 H h170 k0 k1 d00 hk3 100 m 0 D h' (by decide) (by decide) hB' hmo hD ?_
  rcases hmo with ⟨q, -⟩ | ⟨-, q⟩
  · exact Or.inr ⟨by decide, q⟩
  · exact Or.inl (by omega)
/-- till one isn't dizzy -/
theorem ab_br_l2 (H : ab_BrC J md sfn sho sdz srs sfl) (h170 : ab_no 170 md = true) {k w i : Int32} {D0 : Int} (k0 : 0 ≤ k.toInt) (k1 : k.toInt ≤ 3) (d00 : 0 ≤ D0) (d01 : D0 < 3600) (hk3 : ∃ v : Int32, h0 170 (7 * k.toInt.toNat + 3) = .int v ∧ 1 ≤ v.toInt) :
    ∀ (n : Nat) (m : Int32) (D : Int) (h : am_H), D + n = 3600 → ab_Bd J md h0 b D h → ab_mo m D → D0 ≤ D → am_Ek false am_G0 am_m215 27 (ab_brL k w m i) [] am_ks0 h 0 0 (ab_brQ J md h0 b D0) := by
  have H0 := H
  obtain ⟨⟨f1, f2, f3, f4, f5⟩, f6, f7, -, ⟨c1, c2, c3, c4, c5⟩, -, -⟩ := H0
  have q1 : am_ks0[164]? = some (.inl 12) := by decide +kernel
  intro n
  induction n with
  | zero =>
    intro m D h hn hB hmo hD
    have hm0 : m = 0 := by
      rcases hmo with ⟨-, q⟩ | ⟨q, -⟩
      · omega
      · exact q
    refine am_e_iload_n (am_nxt_of (i := (46, 1, .iload_n 3, (0, 0, 0), 0)) (by decide +kernel)) (v := m) rfl ?_
    refine am_e_ifT (am_nxt_of (i := (47, 3, .ifCond .eq 25, (41, 0, 0), 0)) (by decide +kernel)) (am_c_eqT hm0) (am_tgt_of (by decide +kernel)) ?_
    exact ab_br_41 H h170 k0 k1 d00 d01 hk3 hB hmo hD
  | succ n ih =>
    intro m D h hn hB hmo hD
    have hm1 : ¬ m = 0 := by
      rcases hmo with ⟨q, -⟩ | ⟨-, q⟩
      · rw [q]; decide
      · omega
    refine am_e_iload_n (am_nxt_of (i := (46, 1, .iload_n 3, (0, 0, 0), 0)) (by decide +kernel)) (v := m) rfl ?_
    refine am_e_ifF (am_nxt_of (i := (47, 3, .ifCond .eq 25, (41, 0, 0), 0)) (by decide +kernel)) (am_c_eqF hm1) ?_
    refine am_e_iload_n (am_nxt_of (i := (50, 1, .iload_n 2, (0, 0, 0), 0)) (by decide +kernel)) (v := w) rfl ?_
    by_cases hw : w = 0
    · refine am_e_ifT (am_nxt_of (i := (51, 3, .ifCond .eq 21, (41, 0, 0), 0)) (by decide +kernel)) (am_c_eqT hw) (am_tgt_of (by decide +kernel)) ?_
      exact ab_br_41 H h170 k0 k1 d00 d01 hk3 hB hmo hD
    · refine am_e_ifF (am_nxt_of (i := (51, 3, .ifCond .eq 21, (41, 0, 0), 0)) (by decide +kernel)) (am_c_eqF hw) ?_
      refine am_e_aload_n (am_nxt_of (i := (54, 1, .aload_n 0, (0, 0, 0), 0)) (by decide +kernel)) (v := 164) rfl ?_
      refine am_e_iconst (w := 1) (am_nxt_of (i := (55, 1, .iconst 1, (0, 0, 0), 0)) (by decide +kernel)) rfl ?_
      refine am_e_iload_n (am_nxt_of (i := (56, 1, .iload_n 1, (0, 0, 0), 0)) (by decide +kernel)) (v := k) rfl ?_
      refine am_e_callV (M' := am_m203) (o := 164) (ar := [.int k, .int 1]) (rest := []) (L := lv_args 0 [.ref 164, .int 1, .int k]) (am_nxt_of (i := (57, 3, .invokevirtual 438, (203, 1843, 3), 0)) (by decide +kernel)) rfl rfl rfl rfl q1 rfl rfl rfl ?_
      refine am_Ev_mono (ab_Bd_con c1 (by rw [c2]; rfl) c5 (ab_as3 c3 k0 k1) hB) (fun r ks h' hq => ?_)
      obtain ⟨rfl, hB', hr⟩ := hq
      obtain ⟨x, rfl⟩ := ab_intC_ok c4 hr
      show am_Ek false am_G0 am_m215 35 (ab_brL k w m i) [.int x] am_ks0 h' 0 0 (ab_brQ J md h0 b D0)
      by_cases hx : x = 0
      · refine am_e_ifT (am_nxt_of (i := (60, 3, .ifCond .eq 12, (41, 0, 0), 0)) (by decide +kernel)) (am_c_eqT hx) (am_tgt_of (by decide +kernel)) ?_
        exact ab_br_41 H h170 k0 k1 d00 d01 hk3 hB' hmo hD
      · refine am_e_ifF (am_nxt_of (i := (60, 3, .ifCond .eq 12, (41, 0, 0), 0)) (by decide +kernel)) (am_c_eqF hx) ?_
        refine am_e_aload_n (am_nxt_of (i := (63, 1, .aload_n 0, (0, 0, 0), 0)) (by decide +kernel)) (v := 164) rfl ?_
        refine am_e_iconst (w := 0) (am_nxt_of (i := (64, 1, .iconst 0, (0, 0, 0), 0)) (by decide +kernel)) rfl ?_
        refine am_e_callV (M' := am_m216) (o := 164) (ar := [.int 0]) (rest := []) (L := lv_args 0 [.ref 164, .int 0]) (am_nxt_of (i := (65, 3, .invokevirtual 450, (216, 1895, 3), 0)) (by decide +kernel)) rfl rfl rfl rfl q1 rfl rfl rfl ?_
        refine am_Ev_mono (ab_Bd_tick f1 f2 f3 f4 f5 f6 f7 hB' (by decide) (by decide) (by omega) (by omega)) (fun r ks h2 hq2 => ?_)
        obtain ⟨rfl, hB2, hr2⟩ := hq2
        have hgo : ∀ m' : Int32, ab_mo m' (D + 1) → am_Ek false am_G0 am_m215 39 (ab_brL k w m i) [.int m'] am_ks0 h2 0 0 (ab_brQ J md h0 b D0) := by
          intro m' hmo'
          refine am_e_istore_n (am_nxt_of (i := (68, 1, .istore_n 3, (0, 0, 0), 0)) (by decide +kernel)) (by decide +kernel) rfl ?_
          refine am_e_goto (am_cur_of (i := (69, 3, .goto (-23), (27, 0, 0), 0)) (by decide +kernel)) (am_tgt_of (by decide +kernel)) ?_
          refine am_Ek_ls (ls' := ab_brL k w m' i) ⟨rfl, rfl, rfl, rfl, rfl, trivial⟩ ?_
          exact ih m' (D + 1) h2 (by omega) hB2 hmo' (by omega)
        rcases hr2 with ⟨rfl, q⟩ | ⟨rfl, q⟩
        · exact hgo 1 (Or.inl ⟨rfl, q⟩)
        · exact hgo 0 (Or.inr ⟨rfl, q⟩)
/-- handing over -/
theorem ab_br_l1 (H : ab_BrC J md sfn sho sdz srs sfl) (h170 : ab_no 170 md = true) {k w : Int32} {D0 : Int} (k0 : 0 ≤ k.toInt) (k1 : k.toInt ≤ 3) (d00 : 0 ≤ D0) (d01 : D0 < 3600) (hk3 : ∃ v : Int32, h0 170 (7 * k.toInt.toNat + 3) = .int v ∧ 1 ≤ v.toInt) :
    ∀ (d : Nat) (m i : Int32) (D : Int) (h : am_H), i.toInt + d = 100 → 0 ≤ i.toInt → ab_Bd J md h0 b D h → ab_mo m D → D0 ≤ D → am_Ek false am_G0 am_m215 4 (ab_brL k w m i) [] am_ks0 h 0 0 (ab_brQ J md h0 b D0) := by
  have H0 := H
  obtain ⟨⟨f1, f2, f3, f4, f5⟩, f6, f7, ⟨c1, c2, c3, c4, c5⟩, -, -, -⟩ := H0
  have q1 : am_ks0[164]? = some (.inl 12) := by decide +kernel
  have k7 : am_ks0[170]? = some (.inr (.int, 56)) := by decide +kernel
  have z : ab_sz (.inl 12) = 81 := rfl
  have e5 := ab_m7 (c := 5) k0 k1 (by decide) (by decide)
  have e5' : (5 : Int32).toInt = 5 := by decide
  have hix := ab_ix (x := (7 : Int32) * k + 5) (n := 56) (by omega) (by omega)
  have h27 : ∀ (m i : Int32) (D : Int) (h : am_H), ab_Bd J md h0 b D h → ab_mo m D → D0 ≤ D → am_Ek false am_G0 am_m215 27 (ab_brL k w m i) [] am_ks0 h 0 0 (ab_brQ J md h0 b D0) := by
    intro m i D h hB hmo hD
    have hle : D ≤ 3600 := by
      rcases hmo with ⟨-, q⟩ | ⟨-, q⟩ <;> omega
    exact ab_br_l2 H h170 k0 k1 d00 d01 hk3 (3600 - D).toNat m D h (by omega) hB hmo hD
  intro d
  induction d with
  | zero =>
    intro m i D h hi i0 hB hmo hD
    have f25 : h 164 25 = .ref 170 := ab_ref1 hB.1 q1 (by rw [z]; decide) (by decide +kernel)
    obtain ⟨v, ev, v0, v1⟩ := ab_has hB.1 (q := ((7 : Int32) * k + 5).toNatClampNeg) (Nat.lt_of_not_le (fun q => hix (Or.inr q)))
    refine am_e_iload (am_nxt_of (i := (5, 2, .iload 4, (0, 0, 0), 0)) (by decide +kernel)) (v := i) rfl ?_
    refine am_e_aload_n (am_nxt_of (i := (7, 1, .aload_n 0, (0, 0, 0), 0)) (by decide +kernel)) (v := 164) rfl ?_
    refine am_e_getf (am_nxt_of (i := (8, 3, .getfield 30, (12, 25, 1409), 0)) (by decide +kernel)) q1 f25 ?_
    refine am_e_bipush (w := 7) (am_nxt_of (i := (11, 2, .bipush 7, (0, 0, 0), 0)) (by decide +kernel)) (by decide) ?_
    refine am_e_iload_n (am_nxt_of (i := (13, 1, .iload_n 1, (0, 0, 0), 0)) (by decide +kernel)) (v := k) rfl ?_
    refine am_e_imul (am_nxt_of (i := (14, 1, .imul, (0, 0, 0), 0)) (by decide +kernel)) rfl ?_
    refine am_e_iconst (w := 5) (am_nxt_of (i := (15, 1, .iconst 5, (0, 0, 0), 0)) (by decide +kernel)) rfl ?_
    refine am_e_iadd (am_nxt_of (i := (16, 1, .iadd, (0, 0, 0), 0)) (by decide +kernel)) rfl ?_
    refine am_e_iaload (am_nxt_of (i := (17, 1, .iaload, (0, 0, 0), 0)) (by decide +kernel)) k7 hix rfl ev ?_
    refine am_e_cmpT (am_nxt_of (i := (18, 3, .if_icmp .ge 28, (27, 0, 0), 0)) (by decide +kernel)) (am_c_geT (by rw [Int32.lt_iff_toInt_lt]; omega)) (am_tgt_of (by decide +kernel)) ?_
    exact h27 m i D h hB hmo hD
  | succ d ih =>
    intro m i D h hi i0 hB hmo hD
    have f25 : h 164 25 = .ref 170 := ab_ref1 hB.1 q1 (by rw [z]; decide) (by decide +kernel)
    obtain ⟨v, ev, v0, v1⟩ := ab_has hB.1 (q := ((7 : Int32) * k + 5).toNatClampNeg) (Nat.lt_of_not_le (fun q => hix (Or.inr q)))
    refine am_e_iload (am_nxt_of (i := (5, 2, .iload 4, (0, 0, 0), 0)) (by decide +kernel)) (v := i) rfl ?_
    refine am_e_aload_n (am_nxt_of (i := (7, 1, .aload_n 0, (0, 0, 0), 0)) (by decide +kernel)) (v := 164) rfl ?_
    refine am_e_getf (am_nxt_of (i := (8, 3, .getfield 30, (12, 25, 1409), 0)) (by decide +kernel)) q1 f25 ?_
    refine am_e_bipush (w := 7) (am_nxt_of (i := (11, 2, .bipush 7, (0, 0, 0), 0)) (by decide +kernel)) (by decide) ?_
    refine am_e_iload_n (am_nxt_of (i := (13, 1, .iload_n 1, (0, 0, 0), 0)) (by decide +kernel)) (v := k) rfl ?_
    refine am_e_imul (am_nxt_of (i := (14, 1, .imul, (0, 0, 0), 0)) (by decide +kernel)) rfl ?_
    refine am_e_iconst (w := 5) (am_nxt_of (i := (15, 1, .iconst 5, (0, 0, 0), 0)) (by decide +kernel)) rfl ?_
    refine am_e_iadd (am_nxt_of (i := (16, 1, .iadd, (0, 0, 0), 0)) (by decide +kernel)) rfl ?_
    refine am_e_iaload (am_nxt_of (i := (17, 1, .iaload, (0, 0, 0), 0)) (by decide +kernel)) k7 hix rfl ev ?_
    by_cases hlt : i < v
    · refine am_e_cmpF (am_nxt_of (i := (18, 3, .if_icmp .ge 28, (27, 0, 0), 0)) (by decide +kernel)) (am_c_geF hlt) ?_
      refine am_e_iload_n (am_nxt_of (i := (21, 1, .iload_n 3, (0, 0, 0), 0)) (by decide +kernel)) (v := m) rfl ?_
      by_cases hm0 : m = 0
      · refine am_e_ifT (am_nxt_of (i := (22, 3, .ifCond .eq 24, (27, 0, 0), 0)) (by decide +kernel)) (am_c_eqT hm0) (am_tgt_of (by decide +kernel)) ?_
        exact h27 m i D h hB hmo hD
      · refine am_e_ifF (am_nxt_of (i := (22, 3, .ifCond .eq 24, (27, 0, 0), 0)) (by decide +kernel)) (am_c_eqF hm0) ?_
        have hD1 : D < 3600 := by
          rcases hmo with ⟨-, q⟩ | ⟨q, -⟩
          · exact q
          · exact absurd q hm0
        refine am_e_aload_n (am_nxt_of (i := (25, 1, .aload_n 0, (0, 0, 0), 0)) (by decide +kernel)) (v := 164) rfl ?_
        refine am_e_iconst (w := 1) (am_nxt_of (i := (26, 1, .iconst 1, (0, 0, 0), 0)) (by decide +kernel)) rfl ?_
        refine am_e_iload_n (am_nxt_of (i := (27, 1, .iload_n 1, (0, 0, 0), 0)) (by decide +kernel)) (v := k) rfl ?_
        refine am_e_callV (M' := am_m198) (o := 164) (ar := [.int k, .int 1]) (rest := []) (L := lv_args 0 [.ref 164, .int 1, .int k]) (am_nxt_of (i := (28, 3, .invokevirtual 431, (198, 1824, 3), 0)) (by decide +kernel)) rfl rfl rfl rfl q1 rfl rfl rfl ?_
        refine am_Ev_mono (ab_Bd_con c1 (by rw [c2]; rfl) c5 (ab_as3 c3 k0 k1) hB) (fun r ks h' hq => ?_)
        obtain ⟨rfl, hB', hr⟩ := hq
        obtain ⟨x, rfl⟩ := ab_intC_ok c4 hr
        show am_Ek false am_G0 am_m215 20 (ab_brL k w m i) [.int x] am_ks0 h' 0 0 (ab_brQ J md h0 b D0)
        by_cases hx : x = 0
        · refine am_e_ifT (am_nxt_of (i := (31, 3, .ifCond .eq 15, (27, 0, 0), 0)) (by decide +kernel)) (am_c_eqT hx) (am_tgt_of (by decide +kernel)) ?_
          exact h27 m i D h' hB' hmo hD
        · refine am_e_ifF (am_nxt_of (i := (31, 3, .ifCond .eq 15, (27, 0, 0), 0)) (by decide +kernel)) (am_c_eqF hx) ?_
          refine am_e_aload_n (am_nxt_of (i := (34, 1, .aload_n 0, (0, 0, 0), 0)) (by decide +kernel)) (v := 164) rfl ?_
          refine am_e_iconst (w := 1) (am_nxt_of (i := (35, 1, .iconst 1, (0, 0, 0), 0)) (by decide +kernel)) rfl ?_
          refine am_e_callV (M' := am_m216) (o := 164) (ar := [.int 1]) (rest := []) (L := lv_args 0 [.ref 164, .int 1]) (am_nxt_of (i := (36, 3, .invokevirtual 450, (216, 1895, 3), 0)) (by decide +kernel)) rfl rfl rfl rfl q1 rfl rfl rfl ?_
          refine am_Ev_mono (ab_Bd_tick f1 f2 f3 f4 f5 f6 f7 hB' (by decide) (by decide) (by omega) hD1) (fun r ks h2 hq2 => ?_)
          obtain ⟨rfl, hB2, hr2⟩ := hq2
          have hgo : ∀ m' : Int32, ab_mo m' (D + 1) → am_Ek false am_G0 am_m215 24 (ab_brL k w m i) [.int m'] am_ks0 h2 0 0 (ab_brQ J md h0 b D0) := by
            intro m' hmo'
            refine am_e_istore_n (am_nxt_of (i := (39, 1, .istore_n 3, (0, 0, 0), 0)) (by decide +kernel)) (by decide +kernel) rfl ?_
            refine am_e_iinc (am_nxt_of (i := (40, 3, .iinc 4 1, (0, 0, 0), 0)) (by decide +kernel)) (v := i) rfl (by decide +kernel) rfl rfl ?_
            refine am_e_goto (am_cur_of (i := (43, 3, .goto (-38), (4, 0, 0), 0)) (by decide +kernel)) (am_tgt_of (by decide +kernel)) ?_
            refine am_Ek_ls (ls' := ab_brL k w m' (i + Int32.ofInt 1)) ⟨rfl, rfl, rfl, rfl, rfl, trivial⟩ ?_
            have e1 := ab_inc1 i0 (by omega)
            exact ih m' _ (D + 1) h2 (by omega) (by omega) hB2 hmo' (by omega)
          rcases hr2 with ⟨rfl, q⟩ | ⟨rfl, q⟩
          · exact hgo 1 (Or.inl ⟨rfl, q⟩)
          · exact hgo 0 (Or.inr ⟨rfl, q⟩)
    · refine am_e_cmpT (am_nxt_of (i := (18, 3, .if_icmp .ge 28, (27, 0, 0), 0)) (by decide +kernel)) (am_c_geT hlt) (am_tgt_of (by decide +kernel)) ?_
      exact h27 m i D h hB hmo hD
/-- breathes: a second at least goes by -/
theorem ab_breathes (H : ab_BrC J md sfn sho sdz srs sfl) (h170 : ab_no 170 md = true) {k w : Int32} {D0 : Int} {h : am_H} (k0 : 0 ≤ k.toInt) (k1 : k.toInt ≤ 3) (d00 : 0 ≤ D0) (d01 : D0 < 3600) (hk3 : ∃ v : Int32, h0 170 (7 * k.toInt.toNat + 3) = .int v ∧ 1 ≤ v.toInt) (hB : ab_Bd J md h0 b D0 h) : am_Ek false am_G0 am_m215 0 (lv_args 0 [.ref 164, .int k, .int w]) [] am_ks0 h 0 0 (ab_brQ J md h0 b D0) := by
  refine am_e_iconst (w := 1) (am_nxt_of (i := (0, 1, .iconst 1, (0, 0, 0), 0)) (by decide +kernel)) rfl ?_
  refine am_e_istore_n (am_nxt_of (i := (1, 1, .istore_n 3, (0, 0, 0), 0)) (by decide +kernel)) (by decide +kernel) rfl ?_
  refine am_e_iconst (w := 0) (am_nxt_of (i := (2, 1, .iconst 0, (0, 0, 0), 0)) (by decide +kernel)) rfl ?_
  refine am_e_istore (am_nxt_of (i := (3, 2, .istore 4, (0, 0, 0), 0)) (by decide +kernel)) (by decide +kernel) rfl ?_
  refine am_Ek_ls (ls' := ab_brL k w 1 0) ⟨rfl, rfl, rfl, rfl, rfl, trivial⟩ ?_
  exact ab_br_l1 H h170 k0 k1 d00 d01 hk3 100 1 0 D0 h (by decide) (by decide) hB (Or.inl ⟨rfl, d01⟩) (Int.le_refl _)
end ABB3
