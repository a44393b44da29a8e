/-! ===== THE MODEL'S bind (wip/s/tpl/89.tpl) ===== -/
abbrev ab_bdM : List (Nat × Nat) := [(164, 22), (164, 42), (164, 43), (181, 0), (182, 0), (183, 0), (185, 0)]
/-- J stands what bind writes -/
def ab_Jgr (J : am_H → Prop) : Prop := (∀ (h : am_H) (q : Nat) (k a b : Int32), J h → (k = 1 → 0 ≤ a.toInt ∧ a.toInt ≤ 5) → (2 ≤ k.toInt → 0 ≤ a.toInt ∧ a.toInt ≤ 63) → (3 ≤ k.toInt → 0 ≤ b.toInt ∧ b.toInt ≤ 63) → J (am_up (am_up (am_up h 181 q (.int k)) 182 q (.int a)) 183 q (.int b))) ∧ (∀ h h', ab_Fr [(164, 22), (164, 42), (164, 43), (185, 0)] h h' → J h → J h')
theorem ab_grown_Inv {h : am_H} {q p : Nat} {k a b n m n' : Int32} (hI : ab_Inv (ab_hi ab_tab) h) (hk : 0 ≤ k.toInt ∧ k.toInt ≤ 14) (ha : 0 ≤ a.toInt ∧ a.toInt ≤ 9999) (hb : -1 ≤ b.toInt ∧ b.toInt ≤ 63) (hn : 0 ≤ n.toInt ∧ n.toInt ≤ 63) (hm : 0 ≤ m.toInt ∧ m.toInt ≤ 64) (hn' : 0 ≤ n'.toInt ∧ n'.toInt ≤ 64) : ab_Inv (ab_hi ab_tab) (am_up (am_up (am_up (am_up (am_up (am_up h 181 q (.int k)) 182 q (.int a)) 183 q (.int b)) 185 p (.int n)) 164 42 (.int m)) 164 21 (.int n')) := by
  refine ab_Inv_up (ab_Inv_up (ab_Inv_up (ab_Inv_up (ab_Inv_up (ab_Inv_up hI ?_) ?_) ?_) ?_) ?_) ?_
  · rw [ab_hi_arr (show ab_isA ab_tab 181 = true by decide +kernel), show ab_hi ab_tab 181 0 = ab_i 0 14 by decide +kernel]
    exact ab_i_ok hk.1 hk.2
  · rw [ab_hi_arr (show ab_isA ab_tab 182 = true by decide +kernel), show ab_hi ab_tab 182 0 = ab_i 0 9999 by decide +kernel]
    exact ab_i_ok ha.1 ha.2
  · rw [ab_hi_arr (show ab_isA ab_tab 183 = true by decide +kernel), show ab_hi ab_tab 183 0 = ab_i (-1) 63 by decide +kernel]
    exact ab_i_ok hb.1 hb.2
  · rw [ab_hi_arr (show ab_isA ab_tab 185 = true by decide +kernel), show ab_hi ab_tab 185 0 = ab_i 0 63 by decide +kernel]
    exact ab_i_ok hn.1 hn.2
  · rw [show ab_hi ab_tab 164 42 = ab_i 0 64 by decide +kernel]
    exact ab_i_ok hm.1 hm.2
  · rw [show ab_hi ab_tab 164 21 = ab_i 0 64 by decide +kernel]
    exact ab_i_ok hn'.1 hn'.2
theorem ab_grown_J {J : am_H → Prop} (hJ : ab_Jgr J) {h : am_H} {q p : Nat} {k a b n m n' : Int32} (hj : J h) (h1 : k = 1 → 0 ≤ a.toInt ∧ a.toInt ≤ 5) (h2 : 2 ≤ k.toInt → 0 ≤ a.toInt ∧ a.toInt ≤ 63) (h3 : 3 ≤ k.toInt → 0 ≤ b.toInt ∧ b.toInt ≤ 63) : J (am_up (am_up (am_up (am_up (am_up (am_up h 181 q (.int k)) 182 q (.int a)) 183 q (.int b)) 185 p (.int n)) 164 42 (.int m)) 164 21 (.int n')) :=
  hJ.2 _ _ (ab_Fr_up rfl (ab_Fr_up rfl (ab_Fr_up rfl ab_Fr_refl))) (hJ.1 h q k a b hj h1 h2 h3)
/-- a bracket stands at the end of what waits, or nothing -/
def ab_top0 (h : am_H) : Prop := ∀ w : Int32, h 164 41 = .int w → 1 ≤ w.toInt → ab_wv h (w.toInt.toNat - 1) = 0
theorem ab_bind {J : am_H → Prop} (hJ : ab_Jgr J) {l : Int32} (l1 : 1 ≤ l.toInt) : ∀ (n : Nat) (h : am_H), (∀ w : Int32, h 164 41 = .int w → w.toInt = n) → ab_Inv (ab_hi ab_tab) h → J h → ab_Sk 1 h → am_Ek false am_G0 am_m179 0 [(0, .ref 164), (1, .int l)] [] am_ks0 h 0 0 (fun r ks h' => ks = am_ks0 ∧ r = none ∧ ab_Inv (ab_hi ab_tab) h' ∧ J h' ∧ ab_Sk 1 h' ∧ ab_Fr ab_bdM h h' ∧ (l = 1 → ab_top0 h')) := by
  have q1 : am_ks0[164]? = some (.inl 12) := by decide +kernel
  have k4 : am_ks0[184]? = some (.inr (.int, 96)) := by decide +kernel
  have z : ab_sz (.inl 12) = 81 := rfl
  have e1 : (1 : Int32).toInt = 1 := by decide
  intro n
  induction n with
  | zero =>
    intro h hw hI hj hS
    obtain ⟨R, C, W, H, B, r1, r2, r3, r4, r5, r6⟩ := id hS
    have hW := hw W r3
    refine am_e_aload_n (am_nxt_of (i := (0, 1, .aload_n 0, (0, 0, 0), 0)) (by decide +kernel)) (v := 164) rfl ?_
    refine am_e_getf (am_nxt_of (i := (1, 3, .getfield 280, (12, 41, 1425), 0)) (by decide +kernel)) q1 r3 ?_
    refine am_e_ifT (am_nxt_of (i := (4, 3, .ifCond .le 72, (42, 0, 0), 0)) (by decide +kernel)) (am_c_leT (by rw [Int32.lt_iff_toInt_lt, show (0 : Int32).toInt = 0 by decide]; omega)) (am_tgt_of (by decide +kernel)) ?_
    exact am_e_vret (am_cur_of (i := (76, 1, .return_, (0, 0, 0), 0)) (by decide +kernel)) rfl rfl ⟨rfl, rfl, hI, hj, hS, ab_Fr_refl, fun _ w e1 e2 => by have := hw w e1; omega⟩
  | succ n ih =>
    intro h hw hI hj hS
    obtain ⟨R, C, W, H, B, r1, r2, r3, r4, r5, s1, s2, s3, s4, s5, s6, s7, s8, s9⟩ := id hS
    have hW := hw W r3
    have hWn : W.toInt.toNat = n + 1 := by omega
    rw [hWn] at s3 s5 s7 s9
    obtain ⟨c1, c2, c3, c4, c5⟩ := ab_cnt_nn (h := h) (n := n + 1)
    obtain ⟨d1, d2, d3, d4, d5⟩ := ab_cnt_nn (h := h) (n := n)
    have f39 : h 164 39 = .ref 184 := ab_ref1 hI q1 (by rw [z]; decide) (by decide +kernel)
    have em : (W - 1).toInt = n := by rw [ab_isub (by omega) (by omega), e1]; omega
    have hix := ab_ix (x := W - 1) (n := 96) (by omega) (by omega)
    have g := hI 184 n _ k4 (by show n < 96; omega)
    rw [ab_hi_arr (show ab_isA ab_tab 184 = true by decide +kernel), show ab_hi ab_tab 184 0 = ab_i 0 14 by decide +kernel] at g
    obtain ⟨k, ek, kk0, kk1⟩ := g
    have kk0 : 0 ≤ k.toInt := kk0
    have kk1 : k.toInt ≤ 14 := kk1
    have ewv : ab_wv h n = k := by
      unfold ab_wv
      rw [ek]
    refine am_e_aload_n (am_nxt_of (i := (0, 1, .aload_n 0, (0, 0, 0), 0)) (by decide +kernel)) (v := 164) rfl ?_
    refine am_e_getf (am_nxt_of (i := (1, 3, .getfield 280, (12, 41, 1425), 0)) (by decide +kernel)) q1 r3 ?_
    refine am_e_ifF (am_nxt_of (i := (4, 3, .ifCond .le 72, (42, 0, 0), 0)) (by decide +kernel)) (am_c_leF (by rw [Int32.lt_iff_toInt_lt, show (0 : Int32).toInt = 0 by decide]; omega)) ?_
    refine am_e_aload_n (am_nxt_of (i := (7, 1, .aload_n 0, (0, 0, 0), 0)) (by decide +kernel)) (v := 164) rfl ?_
    refine am_e_getf (am_nxt_of (i := (8, 3, .getfield 72, (12, 39, 1423), 0)) (by decide +kernel)) q1 f39 ?_
    refine am_e_aload_n (am_nxt_of (i := (11, 1, .aload_n 0, (0, 0, 0), 0)) (by decide +kernel)) (v := 164) rfl ?_
    refine am_e_getf (am_nxt_of (i := (12, 3, .getfield 280, (12, 41, 1425), 0)) (by decide +kernel)) q1 r3 ?_
    refine am_e_iconst (w := 1) (am_nxt_of (i := (15, 1, .iconst 1, (0, 0, 0), 0)) (by decide +kernel)) rfl ?_
    refine am_e_isub (am_nxt_of (i := (16, 1, .isub, (0, 0, 0), 0)) (by decide +kernel)) rfl ?_
    refine am_e_iaload (am_nxt_of (i := (17, 1, .iaload, (0, 0, 0), 0)) (by decide +kernel)) k4 hix (ab_clamp em) ek ?_
    refine am_e_callS (M' := am_m180) (ar := [.int k]) (rest := []) (L := lv_args 0 [.int k]) (am_nxt_of (i := (18, 3, .invokestatic 283, (180, 1751, 3), 0)) (by decide +kernel)) rfl rfl rfl rfl rfl rfl rfl ?_
    refine am_Ev_mono ab_rank (fun r ks h' hq => ?_)
    obtain ⟨rfl, rfl, x, rfl, hx⟩ := hq
    show am_Ek false am_G0 am_m179 11 [(0, .ref 164), (1, .int l)] [.int x] am_ks0 h' 0 0 _
    refine am_e_iload_n (am_nxt_of (i := (21, 1, .iload_n 1, (0, 0, 0), 0)) (by decide +kernel)) (v := l) rfl ?_
    by_cases hlt : x < l
    · refine am_e_cmpT (am_nxt_of (i := (22, 3, .if_icmp .lt 54, (42, 0, 0), 0)) (by decide +kernel)) (am_c_ltT hlt) (am_tgt_of (by decide +kernel)) ?_
      refine am_e_vret (am_cur_of (i := (76, 1, .return_, (0, 0, 0), 0)) (by decide +kernel)) rfl rfl ⟨rfl, rfl, hI, hj, hS, ab_Fr_refl, fun el w e2 e3 => ?_⟩
      have hwn := hw w e2
      rw [show w.toInt.toNat - 1 = n by omega, ewv]
      subst el
      rw [Int32.lt_iff_toInt_lt] at hlt
      have hk1 : k.toInt < 2 := by
        by_cases hq : 2 ≤ k.toInt
        · have := hx.2 hq
          omega
        · omega
      have h9 := s9 n (by omega)
      rw [ewv] at h9
      have h9' := ac_ne9 h9
      exact Int32.toInt_inj.mp (by rw [show (0 : Int32).toInt = 0 by decide]; rw [e1] at h9'; omega)
    · refine am_e_cmpF (am_nxt_of (i := (22, 3, .if_icmp .lt 54, (42, 0, 0), 0)) (by decide +kernel)) (am_c_ltF hlt) ?_
      rw [Int32.lt_iff_toInt_lt] at hlt
      have hk : ¬ k = 0 := fun e => by
        have := hx.1 e
        rw [this, show (0 : Int32).toInt = 0 by decide] at hlt
        omega
      have t1 : ab_nz h' (n + 1) = ab_nz h' n + 1 := by
        show ab_nz h' n + (if ab_wv h' n = 0 then 0 else 1) = _
        rw [ewv, if_neg hk]
      have t2 : ab_zr h' (n + 1) = ab_zr h' n := by
        show ab_zr h' n + (if ab_wv h' n = 0 then 1 else 0) = _
        rw [ewv, if_neg hk]
        omega
      have t3 : ab_bj h' (n + 1) = ab_bj h' n + (if k = 2 then 0 else 1) := by
        show ab_bj h' n + (if ab_wv h' n = 0 then 0 else if ab_wv h' n = 2 then 0 else 1) = _
        rw [ewv, if_neg hk]
      refine am_e_aload_n (am_nxt_of (i := (25, 1, .aload_n 0, (0, 0, 0), 0)) (by decide +kernel)) (v := 164) rfl ?_
      refine am_e_dup (am_nxt_of (i := (26, 1, .dup, (0, 0, 0), 0)) (by decide +kernel)) rfl ?_
      refine am_e_getf (am_nxt_of (i := (27, 3, .getfield 280, (12, 41, 1425), 0)) (by decide +kernel)) q1 r3 ?_
      refine am_e_iconst (w := 1) (am_nxt_of (i := (30, 1, .iconst 1, (0, 0, 0), 0)) (by decide +kernel)) rfl ?_
      refine am_e_isub (am_nxt_of (i := (31, 1, .isub, (0, 0, 0), 0)) (by decide +kernel)) rfl ?_
      refine am_e_putf (am_nxt_of (i := (32, 3, .putfield 280, (12, 41, 1425), 0)) (by decide +kernel)) q1 rfl ?_
      have hI1 : ab_Inv (ab_hi ab_tab) (am_up h' 164 41 (.int (W - 1))) := ab_Inv_up hI (by rw [show ab_hi ab_tab 164 41 = ab_i 0 72 by decide +kernel]; exact ab_i_ok (by omega) (by omega))
      refine am_e_aload_n (am_nxt_of (i := (35, 1, .aload_n 0, (0, 0, 0), 0)) (by decide +kernel)) (v := 164) rfl ?_
      refine am_e_getf (am_nxt_of (i := (36, 3, .getfield 72, (12, 39, 1423), 0)) (by decide +kernel)) q1 (v := .ref 184) f39 ?_
      refine am_e_aload_n (am_nxt_of (i := (39, 1, .aload_n 0, (0, 0, 0), 0)) (by decide +kernel)) (v := 164) rfl ?_
      refine am_e_getf (am_nxt_of (i := (40, 3, .getfield 280, (12, 41, 1425), 0)) (by decide +kernel)) q1 (am_up_self _ _ _ _) ?_
      refine am_e_iaload (am_nxt_of (i := (43, 1, .iaload, (0, 0, 0), 0)) (by decide +kernel)) k4 hix (ab_clamp em) (v := k) ek ?_
      refine am_e_istore_n (am_nxt_of (i := (44, 1, .istore_n 2, (0, 0, 0), 0)) (by decide +kernel)) (by decide +kernel) rfl ?_
      refine am_e_iload_n (am_nxt_of (i := (45, 1, .iload_n 2, (0, 0, 0), 0)) (by decide +kernel)) (v := k) rfl ?_
      refine am_e_iconst (w := 2) (am_nxt_of (i := (46, 1, .iconst 2, (0, 0, 0), 0)) (by decide +kernel)) rfl ?_
      have hR63 : R.toInt ≤ 63 := by omega
      have eR : (R + 1).toInt = R.toInt + 1 := by rw [ab_iadd (by omega) (by omega), e1]
      -- behind the values: the last one is dropped, the knot grows
      have hlast : ∀ (h2 : am_H) (H2 b2 : Int32), h2 = am_up (am_up h' 164 41 (.int (W - 1))) 164 42 (.int H2) ∨ (h2 = am_up h' 164 41 (.int (W - 1)) ∧ H2 = H) → ab_Inv (ab_hi ab_tab) h2 → H2.toInt = ab_bj h' n + 1 → H2.toInt ≤ R.toInt → -1 ≤ b2.toInt → b2.toInt ≤ 63 → (3 ≤ k.toInt → 0 ≤ b2.toInt) →
          am_Ek false am_G0 am_m179 32 [(0, .ref 164), (1, .int l), (2, .int k)] [.int b2] am_ks0 h2 0 0 (fun r ks h'' => ks = am_ks0 ∧ r = none ∧ ab_Inv (ab_hi ab_tab) h'' ∧ J h'' ∧ ab_Sk 1 h'' ∧ ab_Fr ab_bdM h' h'' ∧ (l = 1 → ab_top0 h'')) := by
        intro h2 H2 b2 hh hI2 hH2 hH3 b0 b1 b3
        have g42 : h2 164 42 = .int H2 := by
          rcases hh with rfl | ⟨rfl, rfl⟩
          · exact am_up_self _ _ _ _
          · exact r4
        have g21 : h2 164 21 = .int R := by
          rcases hh with rfl | ⟨rfl, rfl⟩ <;> exact r1
        have g44 : h2 164 44 = .int C := by
          rcases hh with rfl | ⟨rfl, rfl⟩ <;> exact r2
        have g43 : h2 164 43 = .int B := by
          rcases hh with rfl | ⟨rfl, rfl⟩ <;> exact r5
        have g41 : h2 164 41 = .int (W - 1) := by
          rcases hh with rfl | ⟨rfl, rfl⟩ <;> rfl
        have gF : ab_Fr [(164, 22), (164, 42), (164, 43), (185, 0)] h' h2 := by
          rcases hh with rfl | ⟨rfl, rfl⟩
          · exact ab_Fr_up rfl (ab_Fr_up rfl ab_Fr_refl)
          · exact ab_Fr_up rfl ab_Fr_refl
        have gW : ∀ i, h2 184 i = h' 184 i := fun i => by
          rcases hh with rfl | ⟨rfl, rfl⟩ <;> rfl
        refine am_e_istore_n (am_nxt_of (i := (58, 1, .istore_n 3, (0, 0, 0), 0)) (by decide +kernel)) (by decide +kernel) rfl ?_
        refine am_e_aload_n (am_nxt_of (i := (59, 1, .aload_n 0, (0, 0, 0), 0)) (by decide +kernel)) (v := 164) rfl ?_
        refine am_e_callV (M' := am_m181) (o := 164) (ar := []) (rest := []) (L := lv_args 0 [.ref 164]) (am_nxt_of (i := (60, 3, .invokevirtual 287, (181, 1754, 3), 0)) (by decide +kernel)) rfl rfl rfl rfl q1 rfl rfl rfl ?_
        refine am_Ev_mono (ab_dropHeld hI2 g42 (by omega) (by omega)) (fun r ks h3 hq => ?_)
        obtain ⟨rfl, rfl, a2, rfl, a0, a1⟩ := hq
        show am_Ek false am_G0 am_m179 35 [(3, .int b2), (0, .ref 164), (1, .int l), (2, .int k)] [.int a2] am_ks0 _ 0 0 _
        have eH : (H2 - 1).toInt = H2.toInt - 1 := by rw [ab_isub (by omega) (by omega), e1]
        have eH1 : (H2 - 1 + 1).toInt = H2.toInt := by rw [ab_iadd (by omega) (by omega), eH, e1]; omega
        have hI3 : ab_Inv (ab_hi ab_tab) (am_up h2 164 42 (.int (H2 - 1))) := ab_Inv_up hI2 (by rw [show ab_hi ab_tab 164 42 = ab_i 0 64 by decide +kernel]; exact ab_i_ok (by omega) (by omega))
        have hJ3 : J (am_up h2 164 42 (.int (H2 - 1))) := hJ.2 h' _ (ab_Fr_up rfl gF) hj
        refine am_e_istore (am_nxt_of (i := (63, 2, .istore 4, (0, 0, 0), 0)) (by decide +kernel)) (by decide +kernel) rfl ?_
        refine am_e_aload_n (am_nxt_of (i := (65, 1, .aload_n 0, (0, 0, 0), 0)) (by decide +kernel)) (v := 164) rfl ?_
        refine am_e_iload_n (am_nxt_of (i := (66, 1, .iload_n 2, (0, 0, 0), 0)) (by decide +kernel)) (v := k) rfl ?_
        refine am_e_iload (am_nxt_of (i := (67, 2, .iload 4, (0, 0, 0), 0)) (by decide +kernel)) (v := a2) rfl ?_
        refine am_e_iload_n (am_nxt_of (i := (69, 1, .iload_n 3, (0, 0, 0), 0)) (by decide +kernel)) (v := b2) rfl ?_
        refine am_e_callV (M' := am_m177) (o := 164) (ar := [.int b2, .int a2, .int k]) (rest := []) (L := lv_args 0 [.ref 164, .int k, .int a2, .int b2]) (am_nxt_of (i := (70, 3, .invokevirtual 291, (177, 1739, 3), 0)) (by decide +kernel)) rfl rfl rfl rfl q1 rfl rfl rfl ?_
        refine am_Ev_mono (ab_grown (n := R) (m := H2 - 1) hI3 (show am_up h2 164 42 (.int (H2 - 1)) 164 21 = .int R from g21) s1 hR63 (am_up_self _ _ _ _) (by omega) (by omega)) (fun r ks h4 hq => ?_)
        obtain ⟨rfl, rfl, e4⟩ := hq
        have hI4 : ab_Inv (ab_hi ab_tab) h4 := by
          rw [e4]
          exact ab_grown_Inv hI3 ⟨kk0, kk1⟩ ⟨a0, by omega⟩ ⟨b0, b1⟩ ⟨s1, hR63⟩ ⟨by omega, by omega⟩ ⟨by omega, by omega⟩
        have hJ4 : J h4 := by
          rw [e4]
          refine ab_grown_J hJ hJ3 (fun e => ?_) (fun _ => ⟨a0, a1⟩) (fun e => ⟨b3 e, b1⟩)
          have h9 := s9 n (by omega)
          rw [ewv] at h9
          exact absurd e h9
        have hF4 : ab_Fr ab_bdM h' h4 := by
          rw [e4]
          refine ab_Fr_up rfl (ab_Fr_up rfl (ab_Fr_up rfl (ab_Fr_up rfl (ab_Fr_up rfl (ab_Fr_up rfl (ab_Fr_up rfl ?_))))))
          exact ab_mdle_Fr (by decide) gF
        have w41 : h4 164 41 = .int (W - 1) := by rw [e4]; exact g41
        have hcnt := ab_cnt_same (h := h') (h' := h4) (n := n) (fun i _ => by rw [e4]; exact gW i)
        have hS4 : ab_Sk 1 h4 := by
          refine ⟨R + 1, C, W - 1, H2 - 1 + 1, B, by rw [e4]; rfl, by rw [e4]; exact g44, w41, by rw [e4]; rfl, by rw [e4]; exact g43, by omega, by omega, ?_, s4, ?_, s6, ?_, by omega, fun i hi => ?_⟩
          · rw [em, show ((n : Int)).toNat = n by omega, hcnt.1]
            omega
          · rw [em, show ((n : Int)).toNat = n by omega, hcnt.2.1]
            omega
          · rw [em, show ((n : Int)).toNat = n by omega, hcnt.2.2]
            omega
          · rw [em, show ((n : Int)).toNat = n by omega] at hi
            rw [ab_wv_same (h := h') (h' := h4) (by rw [e4]; exact gW i)]
            exact s9 i (by omega)
        show am_Ek false am_G0 am_m179 41 _ [] am_ks0 h4 0 0 _
        refine am_e_goto (am_cur_of (i := (73, 3, .goto (-73), (0, 0, 0), 0)) (by decide +kernel)) (am_tgt_of (by decide +kernel)) ?_
        refine am_Ek_ls (ls' := [(0, .ref 164), (1, .int l)]) ⟨rfl, rfl, trivial⟩ ?_
        refine am_Ev_mono (ih h4 (fun w hw4 => by rw [w41] at hw4; cases hw4; exact em) hI4 hJ4 hS4) (fun r ks h5 hq => ?_)
        obtain ⟨p1, p2, p3, p4, p5, p6, p7⟩ := hq
        exact ⟨p1, p2, p3, p4, p5, ab_Fr_trans hF4 p6, p7⟩
      by_cases h2 : k = 2
      · rw [if_pos h2] at t3
        refine am_e_cmpF (am_nxt_of (i := (47, 3, .if_icmp .ne 7, (30, 0, 0), 0)) (by decide +kernel)) (am_c_neF h2) ?_
        refine am_e_iconst (w := -1) (am_nxt_of (i := (50, 1, .iconst (-1), (0, 0, 0), 0)) (by decide +kernel)) rfl ?_
        refine am_e_goto (am_cur_of (i := (51, 3, .goto 7, (32, 0, 0), 0)) (by decide +kernel)) (am_tgt_of (by decide +kernel)) ?_
        refine am_Ek_ls (ls' := [(0, .ref 164), (1, .int l), (2, .int k)]) ⟨rfl, rfl, rfl, trivial⟩ ?_
        refine hlast _ H (-1) (Or.inr ⟨rfl, rfl⟩) hI1 (by omega) s8 (by decide) (by decide) (fun e => ?_)
        rw [h2, show (2 : Int32).toInt = 2 by decide] at e
        omega
      · rw [if_neg h2] at t3
        refine am_e_cmpT (am_nxt_of (i := (47, 3, .if_icmp .ne 7, (30, 0, 0), 0)) (by decide +kernel)) (am_c_neT h2) (am_tgt_of (by decide +kernel)) ?_
        refine am_e_aload_n (am_nxt_of (i := (54, 1, .aload_n 0, (0, 0, 0), 0)) (by decide +kernel)) (v := 164) rfl ?_
        refine am_e_callV (M' := am_m181) (o := 164) (ar := []) (rest := []) (L := lv_args 0 [.ref 164]) (am_nxt_of (i := (55, 3, .invokevirtual 287, (181, 1754, 3), 0)) (by decide +kernel)) rfl rfl rfl rfl q1 rfl rfl rfl ?_
        refine am_Ev_mono (ab_dropHeld (n := H) hI1 r4 (by omega) (by omega)) (fun r ks h3 hq => ?_)
        obtain ⟨rfl, rfl, b2, rfl, b0, b1⟩ := hq
        have eH : (H - 1).toInt = H.toInt - 1 := by rw [ab_isub (by omega) (by omega), e1]
        show am_Ek false am_G0 am_m179 32 [(2, .int k), (0, .ref 164), (1, .int l)] [.int b2] am_ks0 _ 0 0 _
        refine am_Ek_ls (ls' := [(0, .ref 164), (1, .int l), (2, .int k)]) ⟨rfl, rfl, rfl, trivial⟩ ?_
        refine hlast _ (H - 1) b2 (Or.inl rfl) (ab_Inv_up hI1 (by rw [show ab_hi ab_tab 164 42 = ab_i 0 64 by decide +kernel]; exact ab_i_ok (by omega) (by omega))) (by omega) (by omega) (by omega) b1 (fun _ => b0)
