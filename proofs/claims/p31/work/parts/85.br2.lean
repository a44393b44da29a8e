/-! ===== THE MODEL'S breathes, all of it (wip/s/tpl/85.tpl) ===== -/
def ab_intC (s : ab_Sm) : Bool := s.2.2.2.2.all (fun c => match c.1 with | some V => Nat.beq V.1 0 | none => false)
def ab_voidC (s : ab_Sm) : Bool := s.2.2.2.2.all (fun c => match c.1 with | some _ => false | none => true)
/-- the contracts that breathes rests on -/
def ab_BrC (J : am_H → Prop) (md : List (Nat × Nat)) (sfn sho sdz srs sfl : ab_Sm) : Prop :=
  (ab_Con ab_tab J sfn ∧ sfn.1 = 200 ∧ sfn.2.1 = [(4, 0, 0, [164]), ab_i 0 3, ab_i 0 1, ab_i 0 1] ∧ ab_intC sfn = true ∧ ab_calm md sfn = true) ∧ ab_mdle [(188, 0), (189, 2)] md = true ∧ (∀ h h', ab_Fr [(188, 0), (189, 0)] h h' → J h → J h') ∧
  (ab_Con ab_tab J sho ∧ sho.1 = 198 ∧ ab_leAs [ab_n (4, 0, 0, [164]), ab_n (ab_i 1 1), ab_n (ab_i 0 3)] sho.2.1 = true ∧ ab_intC sho = true ∧ ab_calm md sho = true) ∧
  (ab_Con ab_tab J sdz ∧ sdz.1 = 203 ∧ ab_leAs [ab_n (4, 0, 0, [164]), ab_n (ab_i 1 1), ab_n (ab_i 0 3)] sdz.2.1 = true ∧ ab_intC sdz = true ∧ ab_calm md sdz = true) ∧
  (ab_Con ab_tab J srs ∧ srs.1 = 204 ∧ ab_leAs [ab_n (4, 0, 0, [164]), ab_n (ab_i 1 1), ab_n (ab_i 0 3)] srs.2.1 = true ∧ ab_voidC srs = true ∧ ab_calm md srs = true) ∧
  (ab_Con ab_tab J sfl ∧ sfl.1 = 205 ∧ ab_leAs [ab_n (4, 0, 0, [164]), ab_n (ab_i 1 1), ab_n (ab_i 0 3)] sfl.2.1 = true ∧ ab_voidC sfl = true ∧ ab_calm md sfl = true)
abbrev ab_brL (k w m i : Int32) : am_L := [(0, .ref 164), (1, .int k), (2, .int w), (3, .int m), (4, .int i)]
section ABB2
variable {J : am_H → Prop} {md : List (Nat × Nat)} {h0 : am_H} {b : Int32} {sfn sho sdz srs sfl : ab_Sm}
theorem ab_as3 {s : ab_Sm} {k : Int32} (hl : ab_leAs [ab_n (4, 0, 0, [164]), ab_n (ab_i 1 1), ab_n (ab_i 0 3)] s.2.1 = true) (k0 : 0 ≤ k.toInt) (k1 : k.toInt ≤ 3) : ab_gAs s.2.1 [.ref 164, .int 1, .int k] :=
  ab_leAs_ok (ls := []) (h := fun _ _ => .int 0) hl ⟨ab_n_ok ⟨164, rfl, List.mem_singleton.mpr rfl⟩, ab_n_ok (ab_i_ok (by decide) (by decide)), ab_n_ok (ab_i_ok k0 k1), trivial⟩
theorem ab_Bd_con {s : ab_Sm} {M' : am_M} (hs : ab_Con ab_tab J s) (hM : am_prog[s.1]? = some M') (hc : ab_calm md s = true) {as : List Value} (hg : ab_gAs s.2.1 as) {D : Int} {h : am_H} (hB : ab_Bd J md h0 b D h) : am_Ek false am_G0 M' 0 (lv_args 0 as) [] am_ks0 h 0 0 (fun r ks h' => ks = am_ks0 ∧ ab_Bd J md h0 b D h' ∧ ∃ c ∈ s.2.2.2.2, ab_gR c.1 r) := by
  obtain ⟨M2, hM2, hz, hcon⟩ := hs
  rw [hM] at hM2
  cases hM2
  refine am_Ev_mono (hcon as h hg hB.1 hB.2.1 (ab_Bd_pre hc hB)) (fun r ks h' hq => ?_)
  obtain ⟨q1, q2, q3, q4, c, q5, q6⟩ := hq
  exact ⟨q1, ab_Bd_call hc hB q2 q3 q4, c, q5, q6.1⟩
theorem ab_intC_ok {s : ab_Sm} (hi : ab_intC s = true) {r : Option Value} (hr : ∃ c ∈ s.2.2.2.2, ab_gR c.1 r) : ∃ x : Int32, r = some (.int x) := by
  obtain ⟨c, hc, hg⟩ := hr
  have h1 := List.all_eq_true.mp hi c hc
  unfold ab_gR at hg
  split at hg
  · rename_i e
    rw [e] at h1
    cases h1
  · rename_i V v e
    rw [e] at h1
    obtain ⟨x, rfl, -⟩ := ab_gI h1 hg
    exact ⟨x, rfl⟩
  · exact hg.elim
theorem ab_voidC_ok {s : ab_Sm} (hi : ab_voidC s = true) {r : Option Value} (hr : ∃ c ∈ s.2.2.2.2, ab_gR c.1 r) : r = none := by
  obtain ⟨c, hc, hg⟩ := hr
  have h1 := List.all_eq_true.mp hi c hc
  unfold ab_gR at hg
  split at hg
  · rfl
  · rename_i V v e
    rw [e] at h1
    cases h1
  · exact hg.elim
/-- more, and how much is gone -/
def ab_mo (m : Int32) (D : Int) : Prop := (m = 1 ∧ D < 3600) ∨ (m = 0 ∧ D = 3600)
abbrev ab_brQ (J : am_H → Prop) (md : List (Nat × Nat)) (h0 : am_H) (b : Int32) (D0 : Int) : Option Value → List am_k → am_H → Prop := fun r ks h' => ks = am_ks0 ∧ ∃ (D' : Int) (m : Int32), ab_Bd J md h0 b D' h' ∧ D0 < D' ∧ r = some (.int m) ∧ ab_mo m D'
theorem ab_mo_fit {m : Int32} {D : Int} (h : ab_mo m D) : am_fit .boolean (.int m) = true := by
  rcases h with ⟨rfl, -⟩ | ⟨rfl, -⟩
  · rfl
  · rfl
/-- from the last comparison on -/
theorem ab_br_end (H : ab_BrC J md sfn sho sdz srs sfl) {k w m t : Int32} {D0 D : Int} {h : am_H} (k0 : 0 ≤ k.toInt) (k1 : k.toInt ≤ 3) (hB : ab_Bd J md h0 b D h) (hmo : ab_mo m D) (hD : D0 < D) : am_Ek false am_G0 am_m215 65 (ab_brL k w m t) [] am_ks0 h 0 0 (ab_brQ J md h0 b D0) := by
  obtain ⟨-, -, -, -, -, -, ⟨c1, c2, c3, c4, c5⟩⟩ := H
  have q1 : am_ks0[164]? = some (.inl 12) := by decide +kernel
  have k7 : am_ks0[170]? = some (.inr (.int, 56)) := by decide +kernel
  have z : ab_sz (.inl 12) = 81 := rfl
  have f25 : h 164 25 = .ref 170 := ab_ref1 hB.1 q1 (by rw [z]; decide) (by decide +kernel)
  have e3 := ab_m7 (c := 3) k0 k1 (by decide) (by decide)
  have e3' : (3 : Int32).toInt = 3 := by decide
  have hix := ab_ix (x := (7 : Int32) * k + 3) (n := 56) (by omega) (by omega)
  obtain ⟨v, ev, v0, v1⟩ := ab_has hB.1 (q := ((7 : Int32) * k + 3).toNatClampNeg) (Nat.lt_of_not_le (fun q => hix (Or.inr q)))
  have hend : ∀ h', ab_Bd J md h0 b D h' → am_Ek false am_G0 am_m215 79 (ab_brL k w m t) [] am_ks0 h' 0 0 (ab_brQ J md h0 b D0) := by
    intro h' hB'
    refine am_e_iload_n (am_nxt_of (i := (135, 1, .iload_n 3, (0, 0, 0), 0)) (by decide +kernel)) (v := m) rfl ?_
    exact am_e_iret (ty := .boolean) (am_cur_of (i := (136, 1, .ireturn, (0, 0, 0), 0)) (by decide +kernel)) rfl (ab_mo_fit hmo) rfl ⟨rfl, D, m, hB', hD, rfl, hmo⟩
  refine am_e_iload (am_nxt_of (i := (113, 2, .iload 4, (0, 0, 0), 0)) (by decide +kernel)) (v := t) rfl ?_
  refine am_e_aload_n (am_nxt_of (i := (115, 1, .aload_n 0, (0, 0, 0), 0)) (by decide +kernel)) (v := 164) rfl ?_
  refine am_e_getf (am_nxt_of (i := (116, 3, .getfield 30, (12, 25, 1409), 0)) (by decide +kernel)) q1 f25 ?_
  refine am_e_bipush (w := 7) (am_nxt_of (i := (119, 2, .bipush 7, (0, 0, 0), 0)) (by decide +kernel)) (by decide) ?_
  refine am_e_iload_n (am_nxt_of (i := (121, 1, .iload_n 1, (0, 0, 0), 0)) (by decide +kernel)) (v := k) rfl ?_
  refine am_e_imul (am_nxt_of (i := (122, 1, .imul, (0, 0, 0), 0)) (by decide +kernel)) rfl ?_
  refine am_e_iconst (w := 3) (am_nxt_of (i := (123, 1, .iconst 3, (0, 0, 0), 0)) (by decide +kernel)) rfl ?_
  refine am_e_iadd (am_nxt_of (i := (124, 1, .iadd, (0, 0, 0), 0)) (by decide +kernel)) rfl ?_
  refine am_e_iaload (am_nxt_of (i := (125, 1, .iaload, (0, 0, 0), 0)) (by decide +kernel)) k7 hix rfl ev ?_
  by_cases he : t = v
  · refine am_e_cmpF (am_nxt_of (i := (126, 3, .if_icmp .ne 9, (79, 0, 0), 0)) (by decide +kernel)) (am_c_neF he) ?_
    refine am_e_aload_n (am_nxt_of (i := (129, 1, .aload_n 0, (0, 0, 0), 0)) (by decide +kernel)) (v := 164) rfl ?_
    refine am_e_iconst (w := 1) (am_nxt_of (i := (130, 1, .iconst 1, (0, 0, 0), 0)) (by decide +kernel)) rfl ?_
    refine am_e_iload_n (am_nxt_of (i := (131, 1, .iload_n 1, (0, 0, 0), 0)) (by decide +kernel)) (v := k) rfl ?_
    refine am_e_callV (M' := am_m205) (o := 164) (ar := [.int k, .int 1]) (rest := []) (L := lv_args 0 [.ref 164, .int 1, .int k]) (am_nxt_of (i := (132, 3, .invokevirtual 441, (205, 1851, 3), 0)) (by decide +kernel)) rfl rfl rfl rfl q1 rfl rfl rfl ?_
    refine am_Ev_mono (ab_Bd_con c1 (by rw [c2]; rfl) c5 (ab_as3 c3 k0 k1) hB) (fun r ks h' hq => ?_)
    obtain ⟨rfl, hB', hr⟩ := hq
    have e := ab_voidC_ok c4 hr
    subst e
    exact hend h' hB'
  · refine am_e_cmpT (am_nxt_of (i := (126, 3, .if_icmp .ne 9, (79, 0, 0), 0)) (by decide +kernel)) (am_c_neT he) (am_tgt_of (by decide +kernel)) ?_
    exact hend h hB
theorem ab_inc1 {x : Int32} (h0 : 0 ≤ x.toInt) (h1 : x.toInt ≤ 1000000) : (x + Int32.ofInt 1).toInt = x.toInt + 1 := by
  rw [ab_iadd (by rw [show (Int32.ofInt 1).toInt = 1 by decide]; omega) (by rw [show (Int32.ofInt 1).toInt = 1 by decide]; omega), show (Int32.ofInt 1).toInt = 1 by decide]
/-- the breath's own seconds -/
theorem ab_br_l3 (H : ab_BrC J md sfn sho sdz srs sfl) (h170 : ab_no 170 md = true) {k w : Int32} {D0 : Int} (k0 : 0 ≤ k.toInt) (k1 : k.toInt ≤ 3) (d00 : 0 ≤ D0) (hk3 : ∃ v : Int32, h0 170 (7 * k.toInt.toNat + 3) = .int v ∧ 1 ≤ v.toInt) :
    ∀ (d : Nat) (m t : Int32) (D : Int) (h : am_H), t.toInt + d = 100 → 0 ≤ t.toInt → ab_Bd J md h0 b D h → ab_mo m D → D0 ≤ D → (D0 < D ∨ t.toInt = 0 ∧ m = 1) → am_Ek false am_G0 am_m215 47 (ab_brL k w m t) [] am_ks0 h 0 0 (ab_brQ J md h0 b D0) := by
  have H0 := H
  obtain ⟨⟨f1, f2, f3, f4, f5⟩, f6, f7, -⟩ := H0
  have q1 : am_ks0[164]? = some (.inl 12) := by decide +kernel
  have k7 : am_ks0[170]? = some (.inr (.int, 56)) := by decide +kernel
  have z : ab_sz (.inl 12) = 81 := rfl
  have e3 := ab_m7 (c := 3) k0 k1 (by decide) (by decide)
  have e3' : (3 : Int32).toInt = 3 := by decide
  have hix := ab_ix (x := (7 : Int32) * k + 3) (n := 56) (by omega) (by omega)
  have hq : ((7 : Int32) * k + 3).toNatClampNeg = 7 * k.toInt.toNat + 3 := ab_clamp (by omega)
  obtain ⟨v, ev0, v1⟩ := hk3
  intro d
  induction d with
  | zero =>
    intro m t D h ht t0 hB hmo hD hP
    have f25 : h 164 25 = .ref 170 := ab_ref1 hB.1 q1 (by rw [z]; decide) (by decide +kernel)
    have ev : h 170 (7 * k.toInt.toNat + 3) = .int v := (ab_no_ok h170 hB.2.2.1 _).trans ev0
    obtain ⟨v', ev', -, v99⟩ := ab_has hB.1 (q := 7 * k.toInt.toNat + 3) (by omega)
    rw [ev] at ev'
    cases ev'
    refine am_e_iload (am_nxt_of (i := (81, 2, .iload 4, (0, 0, 0), 0)) (by decide +kernel)) (v := t) rfl ?_
    refine am_e_aload_n (am_nxt_of (i := (83, 1, .aload_n 0, (0, 0, 0), 0)) (by decide +kernel)) (v := 164) rfl ?_
    refine am_e_getf (am_nxt_of (i := (84, 3, .getfield 30, (12, 25, 1409), 0)) (by decide +kernel)) q1 f25 ?_
    refine am_e_bipush (w := 7) (am_nxt_of (i := (87, 2, .bipush 7, (0, 0, 0), 0)) (by decide +kernel)) (by decide) ?_
    refine am_e_iload_n (am_nxt_of (i := (89, 1, .iload_n 1, (0, 0, 0), 0)) (by decide +kernel)) (v := k) rfl ?_
    refine am_e_imul (am_nxt_of (i := (90, 1, .imul, (0, 0, 0), 0)) (by decide +kernel)) rfl ?_
    refine am_e_iconst (w := 3) (am_nxt_of (i := (91, 1, .iconst 3, (0, 0, 0), 0)) (by decide +kernel)) rfl ?_
    refine am_e_iadd (am_nxt_of (i := (92, 1, .iadd, (0, 0, 0), 0)) (by decide +kernel)) rfl ?_
    refine am_e_iaload (am_nxt_of (i := (93, 1, .iaload, (0, 0, 0), 0)) (by decide +kernel)) k7 hix hq ev ?_
    refine am_e_cmpT (am_nxt_of (i := (94, 3, .if_icmp .ge 19, (65, 0, 0), 0)) (by decide +kernel)) (am_c_geT (by rw [Int32.lt_iff_toInt_lt]; omega)) (am_tgt_of (by decide +kernel)) ?_
    exact ab_br_end H k0 k1 hB hmo (by omega)
  | succ d ih =>
    intro m t D h ht t0 hB hmo hD hP
    have f25 : h 164 25 = .ref 170 := ab_ref1 hB.1 q1 (by rw [z]; decide) (by decide +kernel)
    have ev : h 170 (7 * k.toInt.toNat + 3) = .int v := (ab_no_ok h170 hB.2.2.1 _).trans ev0
    refine am_e_iload (am_nxt_of (i := (81, 2, .iload 4, (0, 0, 0), 0)) (by decide +kernel)) (v := t) rfl ?_
    refine am_e_aload_n (am_nxt_of (i := (83, 1, .aload_n 0, (0, 0, 0), 0)) (by decide +kernel)) (v := 164) rfl ?_
    refine am_e_getf (am_nxt_of (i := (84, 3, .getfield 30, (12, 25, 1409), 0)) (by decide +kernel)) q1 f25 ?_
    refine am_e_bipush (w := 7) (am_nxt_of (i := (87, 2, .bipush 7, (0, 0, 0), 0)) (by decide +kernel)) (by decide) ?_
    refine am_e_iload_n (am_nxt_of (i := (89, 1, .iload_n 1, (0, 0, 0), 0)) (by decide +kernel)) (v := k) rfl ?_
    refine am_e_imul (am_nxt_of (i := (90, 1, .imul, (0, 0, 0), 0)) (by decide +kernel)) rfl ?_
    refine am_e_iconst (w := 3) (am_nxt_of (i := (91, 1, .iconst 3, (0, 0, 0), 0)) (by decide +kernel)) rfl ?_
    refine am_e_iadd (am_nxt_of (i := (92, 1, .iadd, (0, 0, 0), 0)) (by decide +kernel)) rfl ?_
    refine am_e_iaload (am_nxt_of (i := (93, 1, .iaload, (0, 0, 0), 0)) (by decide +kernel)) k7 hix hq ev ?_
    by_cases hlt : t < v
    · refine am_e_cmpF (am_nxt_of (i := (94, 3, .if_icmp .ge 19, (65, 0, 0), 0)) (by decide +kernel)) (am_c_geF hlt) ?_
      refine am_e_iload_n (am_nxt_of (i := (97, 1, .iload_n 3, (0, 0, 0), 0)) (by decide +kernel)) (v := m) rfl ?_
      by_cases hm0 : m = 0
      · refine am_e_ifT (am_nxt_of (i := (98, 3, .ifCond .eq 15, (65, 0, 0), 0)) (by decide +kernel)) (am_c_eqT hm0) (am_tgt_of (by decide +kernel)) ?_
        refine ab_br_end H k0 k1 hB hmo ?_
        rcases hP with hP | ⟨-, hP⟩
        · exact hP
        · rw [hm0] at hP
          exact absurd hP (by decide)
      · refine am_e_ifF (am_nxt_of (i := (98, 3, .ifCond .eq 15, (65, 0, 0), 0)) (by decide +kernel)) (am_c_eqF hm0) ?_
        have hD1 : D < 3600 := by
          rcases hmo with ⟨-, q⟩ | ⟨q, -⟩
          · exact q
          · exact absurd q hm0
        refine am_e_aload_n (am_nxt_of (i := (101, 1, .aload_n 0, (0, 0, 0), 0)) (by decide +kernel)) (v := 164) rfl ?_
        refine am_e_iconst (w := 0) (am_nxt_of (i := (102, 1, .iconst 0, (0, 0, 0), 0)) (by decide +kernel)) rfl ?_
        refine am_e_callV (M' := am_m216) (o := 164) (ar := [.int 0]) (rest := []) (L := lv_args 0 [.ref 164, .int 0]) (am_nxt_of (i := (103, 3, .invokevirtual 450, (216, 1895, 3), 0)) (by decide +kernel)) rfl rfl rfl rfl q1 rfl rfl rfl ?_
        refine am_Ev_mono (ab_Bd_tick f1 f2 f3 f4 f5 f6 f7 hB (by decide) (by decide) (by omega) hD1) (fun r ks h' hq2 => ?_)
        obtain ⟨rfl, hB', hr⟩ := hq2
        have hgo : ∀ m' : Int32, ab_mo m' (D + 1) → am_Ek false am_G0 am_m215 62 (ab_brL k w m t) [.int m'] am_ks0 h' 0 0 (ab_brQ J md h0 b D0) := by
          intro m' hmo'
          refine am_e_istore_n (am_nxt_of (i := (106, 1, .istore_n 3, (0, 0, 0), 0)) (by decide +kernel)) (by decide +kernel) rfl ?_
          refine am_e_iinc (am_nxt_of (i := (107, 3, .iinc 4 1, (0, 0, 0), 0)) (by decide +kernel)) (v := t) rfl (by decide +kernel) rfl rfl ?_
          refine am_e_goto (am_cur_of (i := (110, 3, .goto (-29), (47, 0, 0), 0)) (by decide +kernel)) (am_tgt_of (by decide +kernel)) ?_
          refine am_Ek_ls (ls' := ab_brL k w m' (t + Int32.ofInt 1)) ⟨rfl, rfl, rfl, rfl, rfl, trivial⟩ ?_
          have e1 := ab_inc1 t0 (by omega)
          exact ih m' _ (D + 1) h' (by omega) (by omega) hB' hmo' (by omega) (Or.inl (by omega))
        rcases hr with ⟨rfl, q⟩ | ⟨rfl, q⟩
        · exact hgo 1 (Or.inl ⟨rfl, q⟩)
        · exact hgo 0 (Or.inr ⟨rfl, q⟩)
    · refine am_e_cmpT (am_nxt_of (i := (94, 3, .if_icmp .ge 19, (65, 0, 0), 0)) (by decide +kernel)) (am_c_geT hlt) (am_tgt_of (by decide +kernel)) ?_
      rw [Int32.lt_iff_toInt_lt] at hlt
      exact ab_br_end H k0 k1 hB hmo (by omega)
end ABB2
