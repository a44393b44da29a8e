/-! ===== THE MODEL'S leafRead, signs, sumRead (wip/s/gen99.py) ===== -/
abbrev ac_sM : List (Nat × Nat) := [(164, 5), (164, 6), (164, 22), (164, 42), (164, 43), (164, 44), (164, 45), (164, 46), (164, 47), (184, 0), (185, 0)]
abbrev ac_suM : List (Nat × Nat) := [(164, 5), (164, 6), (164, 8), (164, 9), (164, 10), (164, 11), (164, 22), (164, 42), (164, 43), (164, 44), (164, 45), (164, 46), (164, 47), (181, 0), (182, 0), (183, 0), (184, 0), (185, 0)]
/-- what is asked of J where a law is read -/
def ac_JP (J : am_H → Prop) : Prop := (∀ h, J h → ab_M1 h ∧ ac_Np h ∧ ac_KW h) ∧ (∀ h h', ac_tk h h' → J h → J h') ∧ (∀ h h', ab_Fr ac_sM h h' → J h → J h') ∧ ab_Jgr J
/-- at most so many tokens are left -/
def ac_Mu (m : Int) (h : am_H) : Prop := ∃ n s k : Int32, h 164 7 = .int n ∧ h 164 6 = .int s ∧ h 164 8 = .int k ∧ s.toInt - n.toInt + (if k.toInt = 0 then 0 else 1) ≤ m
def ac_SS (J : am_H → Prop) (h0 : am_H) (x m : Int) (h : am_H) : Prop := ab_Inv (ab_hi ab_tab) h ∧ J h ∧ ab_Fr ac_suM h0 h ∧ ab_Sk x h ∧ ac_Mu m h
theorem ac_Mu_tk {m : Int} {h h' : am_H} {k : Int32} (hm : ac_Mu m h) (ht : ac_tk h h') (ek : h 164 8 = .int k) (hk : ¬ k.toInt = 0) : ac_Mu (m - 1) h' := by
  obtain ⟨n, s, k1, e1, e2, e3, h1⟩ := hm
  obtain ⟨hf, n1, n', s1, k', g1, g2, g3, g4, g5, g6, g7, -⟩ := ht
  rw [e1] at g1
  rw [e2] at g3
  rw [e3] at ek
  cases g1
  cases g3
  cases ek
  rw [if_neg hk] at h1
  refine ⟨n', s, k', g2, by rw [hf 164 6 (by decide)]; exact e2, g4, ?_⟩
  rcases g7 with ⟨q1, q2⟩ | q
  · rw [if_pos q1]
    omega
  · split <;> omega
theorem ac_Mu_le {m : Int} {h h' : am_H} (hm : ac_Mu m h) (ht : ac_tk h h') : ac_Mu m h' := by
  obtain ⟨n, s, k1, e1, e2, e3, h1⟩ := hm
  obtain ⟨hf, n1, n', s1, k', g1, g2, g3, g4, g5, g6, g7, -⟩ := ht
  rw [e1] at g1
  rw [e2] at g3
  cases g1
  cases g3
  refine ⟨n', s, k', g2, by rw [hf 164 6 (by decide)]; exact e2, g4, ?_⟩
  have : (0 : Int) ≤ (if k1.toInt = 0 then 0 else 1) := by split <;> decide
  rcases g7 with ⟨q1, q2⟩ | q
  · rw [if_pos q1]
    omega
  · split <;> omega
theorem ac_Mu_fr {m : Int} {h h' : am_H} (hm : ac_Mu m h) (e6 : h' 164 6 = h 164 6) (e7 : h' 164 7 = h 164 7) (e8 : h' 164 8 = h 164 8) : ac_Mu m h' := by
  obtain ⟨n, s, k1, e1, e2, e3, h1⟩ := hm
  exact ⟨n, s, k1, e7.trans e1, e6.trans e2, e8.trans e3, h1⟩
theorem ac_Sk_fr {x : Int} {h h' : am_H} (e21 : h' 164 21 = h 164 21) (e44 : h' 164 44 = h 164 44) (e41 : h' 164 41 = h 164 41) (e42 : h' 164 42 = h 164 42) (e43 : h' 164 43 = h 164 43) (e : ∀ i, h' 184 i = h 184 i) (hs : ab_Sk x h) : ab_Sk x h' := by
  obtain ⟨R, C, W, H, B, r1, r2, r3, r4, r5, s1, s2, s3, s4, s5, s6, s7, s8, s9⟩ := hs
  obtain ⟨c1, c2, c3⟩ := ab_cnt_same (h := h) (h' := h') (n := W.toInt.toNat) (fun i _ => e i)
  exact ⟨R, C, W, H, B, e21.trans r1, e44.trans r2, e41.trans r3, e42.trans r4, e43.trans r5, s1, s2, by rw [c1]; exact s3, s4, by rw [c2]; exact s5, s6, by rw [c3]; exact s7, s8, fun i hi => by rw [ab_wv_same (e i)]; exact s9 i hi⟩
theorem ac_Sk_tk {x : Int} {h h' : am_H} (ht : ac_tk h h') (hs : ab_Sk x h) : ab_Sk x h' :=
  ac_Sk_fr (ht.1 _ _ (by decide)) (ht.1 _ _ (by decide)) (ht.1 _ _ (by decide)) (ht.1 _ _ (by decide)) (ht.1 _ _ (by decide)) (fun i => ht.1 184 i rfl) hs
theorem ac_cnt_push {h h' : am_H} {n : Nat} {k : Int32} (hs : ∀ i, i < n → h' 184 i = h 184 i) (hk : h' 184 n = .int k) : ab_nz h' (n + 1) = ab_nz h n + (if k = 0 then 0 else 1) ∧ ab_zr h' (n + 1) = ab_zr h n + (if k = 0 then 1 else 0) ∧ ab_bj h' (n + 1) = ab_bj h n + (if k = 0 then 0 else if k = 2 then 0 else 1) := by
  obtain ⟨c1, c2, c3⟩ := ab_cnt_same hs
  have e : ab_wv h' n = k := by
    unfold ab_wv
    rw [hk]
  refine ⟨?_, ?_, ?_⟩
  · show ab_nz h' n + _ = _
    rw [c1, e]
  · show ab_zr h' n + _ = _
    rw [c2, e]
  · show ab_bj h' n + _ = _
    rw [c3, e]
/-- one more waits -/
theorem ac_Sk_push {x x' : Int} {h h' : am_H} {R C W H B : Int32} (hs : ab_Sk x h) {k : Int32} (e1 : h' 164 21 = h 164 21) (eC : h 164 44 = .int C) {C' B' : Int32} (e2 : h' 164 44 = .int C') (eW : h 164 41 = .int W) (e3 : h' 164 41 = .int (W + 1)) (e4 : h' 164 42 = h 164 42) (eB : h 164 43 = .int B) (e5 : h' 164 43 = .int B')
    (er : ∀ i, i < W.toInt.toNat → h' 184 i = h 184 i) (ek : h' 184 W.toInt.toNat = .int k) (hC : C'.toInt = C.toInt + (if k = 0 then 0 else 1)) (hC6 : C'.toInt ≤ 64) (hB : B'.toInt = B.toInt + (if k = 0 then 1 else 0)) (hB8 : B'.toInt ≤ 8) (hx : x = x' + (if k = 0 then 0 else if k = 2 then 0 else 1)) (k1 : ¬ k = 1) : ab_Sk x' h' := by
  obtain ⟨R1, C1, W1, H1, B1, r1, r2, r3, r4, r5, s1, s2, s3, s4, s5, s6, s7, s8, s9⟩ := hs
  rw [eC] at r2
  rw [eW] at r3
  rw [eB] at r5
  cases r2
  cases r3
  cases r5
  obtain ⟨c1, c2, c3⟩ := ac_cnt_push er ek
  obtain ⟨d1, d2, d3, d4, d5⟩ := ab_cnt_nn (h := h) (n := W.toInt.toNat)
  have eW1 : (W + 1).toInt = W.toInt + 1 := ac_c1 s2 (by omega)
  have eWn : (W + 1).toInt.toNat = W.toInt.toNat + 1 := by omega
  refine ⟨R1, C', W + 1, H1, B', e1.trans r1, e2, e3, e4.trans r4, e5, s1, by omega, by rw [eWn, c1]; omega, hC6, by rw [eWn, c2]; omega, hB8, by rw [eWn, c3]; omega, s8, fun i hi => ?_⟩
  by_cases h1 : i < W.toInt.toNat
  · rw [ab_wv_same (er i h1)]
    exact s9 i h1
  · rw [show i = W.toInt.toNat by omega]
    unfold ab_wv
    rw [ek]
    exact k1
theorem ac_SS_tk {J : am_H → Prop} (hJ : ac_JP J) {h0 h3 h4 : am_H} {x m : Int} {k : Int32} (hI4 : ab_Inv (ab_hi ab_tab) h4) (ht : ac_tk h3 h4) (hj : J h3) (hF : ab_Fr ac_suM h0 h3) (hs : ab_Sk x h3) (hm : ac_Mu m h3) (ek : h3 164 8 = .int k) (hk : ¬ k.toInt = 0) : ac_SS J h0 x (m - 1) h4 :=
  ⟨hI4, hJ.2.1 _ _ ht hj, ab_Fr_trans hF (ab_mdle_Fr (by decide) ht.1), ac_Sk_tk ht hs, ac_Mu_tk hm ht ek hk⟩
theorem ac_isSign {h : am_H} {k w c : Int32} (ek : h 164 8 = .int k) (ew : h 164 9 = .int w) : am_Ek false am_G0 am_m171 0 (lv_args 0 [.ref 164, .int c]) [] am_ks0 h 0 0 (fun r ks h' => ks = am_ks0 ∧ h' = h ∧ (r = some (.int 1) ∧ k = 4 ∧ w = c ∨ r = some (.int 0))) := by
  refine am_e_aload_n (am_nxt_of (i := (0, 1, .aload_n 0, (0, 0, 0), 0)) (by decide +kernel)) (v := 164) rfl ?_
  refine am_e_getf (v := .int k) (am_nxt_of (i := (1, 3, .getfield 157, (12, 8, 1392), 0)) (by decide +kernel)) ac_o ek ?_
  refine am_e_iconst (w := 4) (am_nxt_of (i := (4, 1, .iconst 4, (0, 0, 0), 0)) (by decide +kernel)) rfl ?_
  by_cases h1 : (k : Int32) = 4
  · refine am_e_cmpF (am_nxt_of (i := (5, 3, .if_icmp .ne 15, (10, 0, 0), 0)) (by decide +kernel)) (am_c_neF h1) ?_
    refine am_e_aload_n (am_nxt_of (i := (8, 1, .aload_n 0, (0, 0, 0), 0)) (by decide +kernel)) (v := 164) rfl ?_
    refine am_e_getf (v := .int w) (am_nxt_of (i := (9, 3, .getfield 168, (12, 9, 1393), 0)) (by decide +kernel)) ac_o ew ?_
    refine am_e_iload_n (am_nxt_of (i := (12, 1, .iload_n 1, (0, 0, 0), 0)) (by decide +kernel)) (v := c) rfl ?_
    by_cases h2 : (w : Int32) = c
    · refine am_e_cmpF (am_nxt_of (i := (13, 3, .if_icmp .ne 7, (10, 0, 0), 0)) (by decide +kernel)) (am_c_neF h2) ?_
      refine am_e_iconst (w := 1) (am_nxt_of (i := (16, 1, .iconst 1, (0, 0, 0), 0)) (by decide +kernel)) rfl ?_
      refine am_e_goto (am_cur_of (i := (17, 3, .goto 4, (11, 0, 0), 0)) (by decide +kernel)) (am_tgt_of (by decide +kernel)) ?_
      exact am_e_iret (ty := .boolean) (am_cur_of (i := (21, 1, .ireturn, (0, 0, 0), 0)) (by decide +kernel)) rfl rfl rfl ⟨rfl, rfl, Or.inl ⟨rfl, h1, h2⟩⟩
    · refine am_e_cmpT (am_nxt_of (i := (13, 3, .if_icmp .ne 7, (10, 0, 0), 0)) (by decide +kernel)) (am_c_neT h2) (am_tgt_of (by decide +kernel)) ?_
      refine am_e_iconst (w := 0) (am_nxt_of (i := (20, 1, .iconst 0, (0, 0, 0), 0)) (by decide +kernel)) rfl ?_
      exact am_e_iret (ty := .boolean) (am_cur_of (i := (21, 1, .ireturn, (0, 0, 0), 0)) (by decide +kernel)) rfl rfl rfl ⟨rfl, rfl, Or.inr rfl⟩
  · refine am_e_cmpT (am_nxt_of (i := (5, 3, .if_icmp .ne 15, (10, 0, 0), 0)) (by decide +kernel)) (am_c_neT h1) (am_tgt_of (by decide +kernel)) ?_
    refine am_e_iconst (w := 0) (am_nxt_of (i := (20, 1, .iconst 0, (0, 0, 0), 0)) (by decide +kernel)) rfl ?_
    exact am_e_iret (ty := .boolean) (am_cur_of (i := (21, 1, .ireturn, (0, 0, 0), 0)) (by decide +kernel)) rfl rfl rfl ⟨rfl, rfl, Or.inr rfl⟩
theorem ac_isKey {h : am_H} {k w c : Int32} (ek : h 164 8 = .int k) (ew : h 164 9 = .int w) : am_Ek false am_G0 am_m174 0 (lv_args 0 [.ref 164, .int c]) [] am_ks0 h 0 0 (fun r ks h' => ks = am_ks0 ∧ h' = h ∧ (r = some (.int 1) ∧ k = 1 ∧ w = c ∨ r = some (.int 0))) := by
  refine am_e_aload_n (am_nxt_of (i := (0, 1, .aload_n 0, (0, 0, 0), 0)) (by decide +kernel)) (v := 164) rfl ?_
  refine am_e_getf (v := .int k) (am_nxt_of (i := (1, 3, .getfield 157, (12, 8, 1392), 0)) (by decide +kernel)) ac_o ek ?_
  refine am_e_iconst (w := 1) (am_nxt_of (i := (4, 1, .iconst 1, (0, 0, 0), 0)) (by decide +kernel)) rfl ?_
  by_cases h1 : (k : Int32) = 1
  · refine am_e_cmpF (am_nxt_of (i := (5, 3, .if_icmp .ne 15, (10, 0, 0), 0)) (by decide +kernel)) (am_c_neF h1) ?_
    refine am_e_aload_n (am_nxt_of (i := (8, 1, .aload_n 0, (0, 0, 0), 0)) (by decide +kernel)) (v := 164) rfl ?_
    refine am_e_getf (v := .int w) (am_nxt_of (i := (9, 3, .getfield 168, (12, 9, 1393), 0)) (by decide +kernel)) ac_o ew ?_
    refine am_e_iload_n (am_nxt_of (i := (12, 1, .iload_n 1, (0, 0, 0), 0)) (by decide +kernel)) (v := c) rfl ?_
    by_cases h2 : (w : Int32) = c
    · refine am_e_cmpF (am_nxt_of (i := (13, 3, .if_icmp .ne 7, (10, 0, 0), 0)) (by decide +kernel)) (am_c_neF h2) ?_
      refine am_e_iconst (w := 1) (am_nxt_of (i := (16, 1, .iconst 1, (0, 0, 0), 0)) (by decide +kernel)) rfl ?_
      refine am_e_goto (am_cur_of (i := (17, 3, .goto 4, (11, 0, 0), 0)) (by decide +kernel)) (am_tgt_of (by decide +kernel)) ?_
      exact am_e_iret (ty := .boolean) (am_cur_of (i := (21, 1, .ireturn, (0, 0, 0), 0)) (by decide +kernel)) rfl rfl rfl ⟨rfl, rfl, Or.inl ⟨rfl, h1, h2⟩⟩
    · refine am_e_cmpT (am_nxt_of (i := (13, 3, .if_icmp .ne 7, (10, 0, 0), 0)) (by decide +kernel)) (am_c_neT h2) (am_tgt_of (by decide +kernel)) ?_
      refine am_e_iconst (w := 0) (am_nxt_of (i := (20, 1, .iconst 0, (0, 0, 0), 0)) (by decide +kernel)) rfl ?_
      exact am_e_iret (ty := .boolean) (am_cur_of (i := (21, 1, .ireturn, (0, 0, 0), 0)) (by decide +kernel)) rfl rfl rfl ⟨rfl, rfl, Or.inr rfl⟩
  · refine am_e_cmpT (am_nxt_of (i := (5, 3, .if_icmp .ne 15, (10, 0, 0), 0)) (by decide +kernel)) (am_c_neT h1) (am_tgt_of (by decide +kernel)) ?_
    refine am_e_iconst (w := 0) (am_nxt_of (i := (20, 1, .iconst 0, (0, 0, 0), 0)) (by decide +kernel)) rfl ?_
    exact am_e_iret (ty := .boolean) (am_cur_of (i := (21, 1, .ireturn, (0, 0, 0), 0)) (by decide +kernel)) rfl rfl rfl ⟨rfl, rfl, Or.inr rfl⟩
theorem ac_wrong {h : am_H} {v : Int32} (hI : ab_Inv (ab_hi ab_tab) h) (v0 : 0 ≤ v.toInt) (v1 : v.toInt ≤ 4) : am_Ek false am_G0 am_m158 0 (lv_args 0 [.ref 164, .int v]) [] am_ks0 h 0 0 (fun r ks h' => ks = am_ks0 ∧ r = some (.int 0) ∧ ab_Inv (ab_hi ab_tab) h' ∧ ab_Fr [(164, 5), (164, 6)] h h') := by
  obtain ⟨a, ea, a0, a1⟩ := ac_g10 hI
  refine am_e_aload_n (am_nxt_of (i := (0, 1, .aload_n 0, (0, 0, 0), 0)) (by decide +kernel)) (v := 164) rfl ?_
  refine am_e_iload_n (am_nxt_of (i := (1, 1, .iload_n 1, (0, 0, 0), 0)) (by decide +kernel)) (v := v) rfl ?_
  have I1 := ac_p4 (v := v) hI v0 v1
  refine am_e_putf (am_nxt_of (i := (2, 3, .putfield 145, (12, 4, 1388), 0)) (by decide +kernel)) ac_o rfl ?_
  refine am_e_aload_n (am_nxt_of (i := (5, 1, .aload_n 0, (0, 0, 0), 0)) (by decide +kernel)) (v := 164) rfl ?_
  refine am_e_aload_n (am_nxt_of (i := (6, 1, .aload_n 0, (0, 0, 0), 0)) (by decide +kernel)) (v := 164) rfl ?_
  refine am_e_getf (v := .int a) (am_nxt_of (i := (7, 3, .getfield 148, (12, 10, 1394), 0)) (by decide +kernel)) ac_o ea ?_
  have I2 := ac_p5 (v := a) I1 (by omega) (by omega)
  refine am_e_putf (am_nxt_of (i := (10, 3, .putfield 16, (12, 5, 1389), 0)) (by decide +kernel)) ac_o rfl ?_
  refine am_e_iconst (w := 0) (am_nxt_of (i := (13, 1, .iconst 0, (0, 0, 0), 0)) (by decide +kernel)) rfl ?_
  exact am_e_iret (ty := .boolean) (am_cur_of (i := (14, 1, .ireturn, (0, 0, 0), 0)) (by decide +kernel)) rfl rfl rfl ⟨rfl, rfl, I2, ab_Fr_up rfl (ab_Fr_up rfl ab_Fr_refl)⟩
theorem ac_isCounted {h : am_H} {c : Int32} (hI : ab_Inv (ab_hi ab_tab) h) (ec : h 164 44 = .int c) : am_Ek false am_G0 am_m175 0 (lv_args 0 [.ref 164]) [] am_ks0 h 0 0 (fun r ks h' => ks = am_ks0 ∧ (r = some (.int 0) ∧ ab_Inv (ab_hi ab_tab) h' ∧ ab_Fr [(164, 5), (164, 6)] h h' ∨ r = some (.int 1) ∧ ¬ c.toInt = 64 ∧ h' = am_up h 164 44 (.int (c + 1)))) := by
  refine am_e_aload_n (am_nxt_of (i := (0, 1, .aload_n 0, (0, 0, 0), 0)) (by decide +kernel)) (v := 164) rfl ?_
  refine am_e_getf (v := .int c) (am_nxt_of (i := (1, 3, .getfield 216, (12, 44, 1428), 0)) (by decide +kernel)) ac_o ec ?_
  refine am_e_bipush (w := 64) (am_nxt_of (i := (4, 2, .bipush 64, (0, 0, 0), 0)) (by decide +kernel)) (by decide) ?_
  by_cases h1 : (c : Int32) = 64
  · refine am_e_cmpF (am_nxt_of (i := (6, 3, .if_icmp .ne 9, (8, 0, 0), 0)) (by decide +kernel)) (am_c_neF h1) ?_
    refine am_e_aload_n (am_nxt_of (i := (9, 1, .aload_n 0, (0, 0, 0), 0)) (by decide +kernel)) (v := 164) rfl ?_
    refine am_e_iconst (w := 2) (am_nxt_of (i := (10, 1, .iconst 2, (0, 0, 0), 0)) (by decide +kernel)) rfl ?_
    refine am_e_callV (M' := am_m158) (o := 164) (ar := [.int 2]) (rest := []) (L := lv_args 0 [.ref 164, .int 2]) (am_nxt_of (i := (11, 3, .invokevirtual 181, (158, 1665, 3), 0)) (by decide +kernel)) rfl rfl rfl rfl ac_o rfl rfl rfl ?_
    refine am_Ev_mono (ac_wrong hI (by decide) (by decide)) (fun r ks h' hq => ?_)
    obtain ⟨rfl, rfl, q1, q2⟩ := hq
    show am_Ek false am_G0 am_m175 7 _ [.int 0] _ _ _ _ _
    exact am_e_iret (ty := .boolean) (am_cur_of (i := (14, 1, .ireturn, (0, 0, 0), 0)) (by decide +kernel)) rfl rfl rfl ⟨rfl, Or.inl ⟨rfl, q1, q2⟩⟩
  · refine am_e_cmpT (am_nxt_of (i := (6, 3, .if_icmp .ne 9, (8, 0, 0), 0)) (by decide +kernel)) (am_c_neT h1) (am_tgt_of (by decide +kernel)) ?_
    refine am_e_aload_n (am_nxt_of (i := (15, 1, .aload_n 0, (0, 0, 0), 0)) (by decide +kernel)) (v := 164) rfl ?_
    refine am_e_dup (am_nxt_of (i := (16, 1, .dup, (0, 0, 0), 0)) (by decide +kernel)) rfl ?_
    refine am_e_getf (v := .int c) (am_nxt_of (i := (17, 3, .getfield 216, (12, 44, 1428), 0)) (by decide +kernel)) ac_o ec ?_
    refine am_e_iconst (w := 1) (am_nxt_of (i := (20, 1, .iconst 1, (0, 0, 0), 0)) (by decide +kernel)) rfl ?_
    refine am_e_iadd (w := c + 1) (am_nxt_of (i := (21, 1, .iadd, (0, 0, 0), 0)) (by decide +kernel)) rfl ?_
    refine am_e_putf (am_nxt_of (i := (22, 3, .putfield 216, (12, 44, 1428), 0)) (by decide +kernel)) ac_o rfl ?_
    refine am_e_iconst (w := 1) (am_nxt_of (i := (25, 1, .iconst 1, (0, 0, 0), 0)) (by decide +kernel)) rfl ?_
    exact am_e_iret (ty := .boolean) (am_cur_of (i := (26, 1, .ireturn, (0, 0, 0), 0)) (by decide +kernel)) rfl rfl rfl ⟨rfl, Or.inr ⟨rfl, ac_ne' h1, rfl⟩⟩
theorem ac_nameMet {h : am_H} {k w : Int32} (ek : h 164 8 = .int k) (ew : h 164 9 = .int w) (kw : k.toInt = 1 → 0 ≤ w.toInt ∧ w.toInt ≤ 19) : am_Ek false am_G0 am_m176 0 (lv_args 0 [.ref 164]) [] am_ks0 h 0 0 (fun r ks h' => ks = am_ks0 ∧ h' = h ∧ ∃ x : Int32, r = some (.int x) ∧ (x = -1 ∨ 0 ≤ x.toInt ∧ x.toInt ≤ 5 ∧ k = 1)) := by
  have z1 : (1 : Int32).toInt = 1 := by decide
  have z15 : (15 : Int32).toInt = 15 := by decide
  have z18 : (18 : Int32).toInt = 18 := by decide
  have z4 : (4 : Int32).toInt = 4 := by decide
  refine am_e_aload_n (am_nxt_of (i := (0, 1, .aload_n 0, (0, 0, 0), 0)) (by decide +kernel)) (v := 164) rfl ?_
  refine am_e_getf (v := .int k) (am_nxt_of (i := (1, 3, .getfield 157, (12, 8, 1392), 0)) (by decide +kernel)) ac_o ek ?_
  refine am_e_iconst (w := 1) (am_nxt_of (i := (4, 1, .iconst 1, (0, 0, 0), 0)) (by decide +kernel)) rfl ?_
  by_cases h1 : (k : Int32) = 1
  · refine am_e_cmpT (am_nxt_of (i := (5, 3, .if_icmp .eq 7, (6, 0, 0), 0)) (by decide +kernel)) (am_c_eqT h1) (am_tgt_of (by decide +kernel)) ?_
    obtain ⟨w0, w1⟩ := kw (by rw [h1, z1])
    refine am_e_aload_n (am_nxt_of (i := (12, 1, .aload_n 0, (0, 0, 0), 0)) (by decide +kernel)) (v := 164) rfl ?_
    refine am_e_getf (v := .int w) (am_nxt_of (i := (13, 3, .getfield 168, (12, 9, 1393), 0)) (by decide +kernel)) ac_o ew ?_
    refine am_e_bipush (w := 11) (am_nxt_of (i := (16, 2, .bipush 11, (0, 0, 0), 0)) (by decide +kernel)) (by decide) ?_
    by_cases h11 : (w : Int32) = 11
    · refine am_e_cmpF (am_nxt_of (i := (18, 3, .if_icmp .ne 7, (12, 0, 0), 0)) (by decide +kernel)) (am_c_neF h11) ?_
      refine am_e_iconst (w := 3) (am_nxt_of (i := (21, 1, .iconst 3, (0, 0, 0), 0)) (by decide +kernel)) rfl ?_
      refine am_e_goto (am_cur_of (i := (22, 3, .goto 44, (33, 0, 0), 0)) (by decide +kernel)) (am_tgt_of (by decide +kernel)) ?_
      exact am_e_iret (ty := .int) (am_cur_of (i := (66, 1, .ireturn, (0, 0, 0), 0)) (by decide +kernel)) rfl rfl rfl ⟨rfl, rfl, _, rfl, Or.inr ⟨by decide, by decide, h1⟩⟩
    · refine am_e_cmpT (am_nxt_of (i := (18, 3, .if_icmp .ne 7, (12, 0, 0), 0)) (by decide +kernel)) (am_c_neT h11) (am_tgt_of (by decide +kernel)) ?_
      refine am_e_aload_n (am_nxt_of (i := (25, 1, .aload_n 0, (0, 0, 0), 0)) (by decide +kernel)) (v := 164) rfl ?_
      refine am_e_getf (v := .int w) (am_nxt_of (i := (26, 3, .getfield 168, (12, 9, 1393), 0)) (by decide +kernel)) ac_o ew ?_
      refine am_e_bipush (w := 18) (am_nxt_of (i := (29, 2, .bipush 18, (0, 0, 0), 0)) (by decide +kernel)) (by decide) ?_
      by_cases h18 : (w : Int32) < 18
      · refine am_e_cmpT (am_nxt_of (i := (31, 3, .if_icmp .lt 15, (23, 0, 0), 0)) (by decide +kernel)) (am_c_ltT h18) (am_tgt_of (by decide +kernel)) ?_
        refine am_e_aload_n (am_nxt_of (i := (46, 1, .aload_n 0, (0, 0, 0), 0)) (by decide +kernel)) (v := 164) rfl ?_
        refine am_e_getf (v := .int w) (am_nxt_of (i := (47, 3, .getfield 168, (12, 9, 1393), 0)) (by decide +kernel)) ac_o ew ?_
        refine am_e_bipush (w := 15) (am_nxt_of (i := (50, 2, .bipush 15, (0, 0, 0), 0)) (by decide +kernel)) (by decide) ?_
        by_cases h15 : (w : Int32) < 15
        · refine am_e_cmpT (am_nxt_of (i := (52, 3, .if_icmp .lt 13, (32, 0, 0), 0)) (by decide +kernel)) (am_c_ltT h15) (am_tgt_of (by decide +kernel)) ?_
          refine am_e_iconst (w := (-1)) (am_nxt_of (i := (65, 1, .iconst (-1), (0, 0, 0), 0)) (by decide +kernel)) rfl ?_
          exact am_e_iret (ty := .int) (am_cur_of (i := (66, 1, .ireturn, (0, 0, 0), 0)) (by decide +kernel)) rfl rfl rfl ⟨rfl, rfl, _, rfl, Or.inl rfl⟩
        · refine am_e_cmpF (am_nxt_of (i := (52, 3, .if_icmp .lt 13, (32, 0, 0), 0)) (by decide +kernel)) (am_c_ltF h15) ?_
          have h15' := ac_nlt' h15
          have h18' := ac_lt' h18
          have e := ab_isub (x := w) (y := 15) (by omega) (by omega)
          refine am_e_aload_n (am_nxt_of (i := (55, 1, .aload_n 0, (0, 0, 0), 0)) (by decide +kernel)) (v := 164) rfl ?_
          refine am_e_getf (v := .int w) (am_nxt_of (i := (56, 3, .getfield 168, (12, 9, 1393), 0)) (by decide +kernel)) ac_o ew ?_
          refine am_e_bipush (w := 15) (am_nxt_of (i := (59, 2, .bipush 15, (0, 0, 0), 0)) (by decide +kernel)) (by decide) ?_
          refine am_e_isub (w := w - 15) (am_nxt_of (i := (61, 1, .isub, (0, 0, 0), 0)) (by decide +kernel)) rfl ?_
          refine am_e_goto (am_cur_of (i := (62, 3, .goto 4, (33, 0, 0), 0)) (by decide +kernel)) (am_tgt_of (by decide +kernel)) ?_
          exact am_e_iret (ty := .int) (am_cur_of (i := (66, 1, .ireturn, (0, 0, 0), 0)) (by decide +kernel)) rfl rfl rfl ⟨rfl, rfl, _, rfl, Or.inr ⟨by omega, by omega, h1⟩⟩
      · refine am_e_cmpF (am_nxt_of (i := (31, 3, .if_icmp .lt 15, (23, 0, 0), 0)) (by decide +kernel)) (am_c_ltF h18) ?_
        have h18' := ac_nlt' h18
        have e0 := ab_iadd (x := 4) (y := w) (by omega) (by omega)
        have e := ab_isub (x := 4 + w) (y := 18) (by omega) (by omega)
        refine am_e_iconst (w := 4) (am_nxt_of (i := (34, 1, .iconst 4, (0, 0, 0), 0)) (by decide +kernel)) rfl ?_
        refine am_e_aload_n (am_nxt_of (i := (35, 1, .aload_n 0, (0, 0, 0), 0)) (by decide +kernel)) (v := 164) rfl ?_
        refine am_e_getf (v := .int w) (am_nxt_of (i := (36, 3, .getfield 168, (12, 9, 1393), 0)) (by decide +kernel)) ac_o ew ?_
        refine am_e_iadd (w := 4 + w) (am_nxt_of (i := (39, 1, .iadd, (0, 0, 0), 0)) (by decide +kernel)) rfl ?_
        refine am_e_bipush (w := 18) (am_nxt_of (i := (40, 2, .bipush 18, (0, 0, 0), 0)) (by decide +kernel)) (by decide) ?_
        refine am_e_isub (w := (4 + w) - 18) (am_nxt_of (i := (42, 1, .isub, (0, 0, 0), 0)) (by decide +kernel)) rfl ?_
        refine am_e_goto (am_cur_of (i := (43, 3, .goto 23, (33, 0, 0), 0)) (by decide +kernel)) (am_tgt_of (by decide +kernel)) ?_
        exact am_e_iret (ty := .int) (am_cur_of (i := (66, 1, .ireturn, (0, 0, 0), 0)) (by decide +kernel)) rfl rfl rfl ⟨rfl, rfl, _, rfl, Or.inr ⟨by omega, by omega, h1⟩⟩
  · refine am_e_cmpF (am_nxt_of (i := (5, 3, .if_icmp .eq 7, (6, 0, 0), 0)) (by decide +kernel)) (am_c_eqF h1) ?_
    refine am_e_iconst (w := (-1)) (am_nxt_of (i := (8, 1, .iconst (-1), (0, 0, 0), 0)) (by decide +kernel)) rfl ?_
    refine am_e_goto (am_cur_of (i := (9, 3, .goto 57, (33, 0, 0), 0)) (by decide +kernel)) (am_tgt_of (by decide +kernel)) ?_
    exact am_e_iret (ty := .int) (am_cur_of (i := (66, 1, .ireturn, (0, 0, 0), 0)) (by decide +kernel)) rfl rfl rfl ⟨rfl, rfl, _, rfl, Or.inl rfl⟩
section ACL
variable {J : am_H → Prop} {h0 : am_H}
abbrev ac_lfQ (J : am_H → Prop) (h0 : am_H) (m : Int) : Option Value → List am_k → am_H → Prop := fun r ks h' => ks = am_ks0 ∧ (r = some (.int 0) ∧ ab_Inv (ab_hi ab_tab) h' ∧ J h' ∧ ab_Fr ac_suM h0 h' ∨ r = some (.int 1) ∧ (ac_SS J h0 0 (m - 1) h' ∧ h' 164 45 = .int 1 ∨ ac_SS J h0 1 (m - 1) h' ∧ h' 164 45 = .int 0))
theorem ac_leafRead (hJ : ac_JP J) (hpk : ab_Con ab_tab (fun _ => True) ab_S_packed_x_x) {m : Int} {h : am_H} (hS : ac_SS J h0 0 m h) (ewa : h 164 45 = .int 1) : am_Ek false am_G0 am_m172 0 (lv_args 0 [.ref 164]) [] am_ks0 h 0 0 (ac_lfQ J h0 m) := by
  obtain ⟨hI, hj, hF, hSk, hMu⟩ := hS
  obtain ⟨hM1, hNp, k, w, ek, ew, kw1, kw3, kw5⟩ := hJ.1 h hj
  obtain ⟨R, C, W, H, B, r1, r2, r3, r4, r5, s1, s2, s3, s4, s5, s6, s7, s8, s9⟩ := id hSk
  obtain ⟨d1, d2, d3, d4, d5⟩ := ab_cnt_nn (h := h) (n := W.toInt.toNat)
  have z1 : (1 : Int32).toInt = 1 := by decide
  have z8 : (8 : Int32).toInt = 8 := by decide
  have eWc : W.toNatClampNeg = W.toInt.toNat := ab_clamp (by omega)
  refine am_e_aload_n (am_nxt_of (i := (0, 1, .aload_n 0, (0, 0, 0), 0)) (by decide +kernel)) (v := 164) rfl ?_
  refine am_e_bipush (w := 40) (am_nxt_of (i := (1, 2, .bipush 40, (0, 0, 0), 0)) (by decide +kernel)) (by decide) ?_
  refine am_e_callV (M' := am_m171) (o := 164) (ar := [.int 40]) (rest := []) (L := lv_args 0 [.ref 164, .int 40]) (am_nxt_of (i := (3, 3, .invokevirtual 194, (171, 1715, 3), 0)) (by decide +kernel)) rfl rfl rfl rfl ac_o rfl rfl rfl ?_
  refine am_Ev_mono (ac_isSign ek ew) (fun r ks h' hq => ?_)
  obtain ⟨rfl, rfl, ⟨rfl, hk4, -⟩ | rfl⟩ := hq
  · show am_Ek false am_G0 am_m172 3 _ [.int 1] _ _ _ _ _
    refine am_e_ifF (am_nxt_of (i := (6, 3, .ifCond .eq 44, (28, 0, 0), 0)) (by decide +kernel)) (am_c_eqF (by decide)) ?_
    refine am_e_aload_n (am_nxt_of (i := (9, 1, .aload_n 0, (0, 0, 0), 0)) (by decide +kernel)) (v := 164) rfl ?_
    refine am_e_getf (v := .int B) (am_nxt_of (i := (10, 3, .getfield 295, (12, 43, 1427), 0)) (by decide +kernel)) ac_o r5 ?_
    refine am_e_bipush (w := 8) (am_nxt_of (i := (13, 2, .bipush 8, (0, 0, 0), 0)) (by decide +kernel)) (by decide) ?_
    by_cases h8 : (B : Int32) = 8
    · refine am_e_cmpF (am_nxt_of (i := (15, 3, .if_icmp .ne 9, (12, 0, 0), 0)) (by decide +kernel)) (am_c_neF h8) ?_
      refine am_e_aload_n (am_nxt_of (i := (18, 1, .aload_n 0, (0, 0, 0), 0)) (by decide +kernel)) (v := 164) rfl ?_
      refine am_e_iconst (w := 2) (am_nxt_of (i := (19, 1, .iconst 2, (0, 0, 0), 0)) (by decide +kernel)) rfl ?_
      refine am_e_callV (M' := am_m158) (o := 164) (ar := [.int 2]) (rest := []) (L := lv_args 0 [.ref 164, .int 2]) (am_nxt_of (i := (20, 3, .invokevirtual 181, (158, 1665, 3), 0)) (by decide +kernel)) rfl rfl rfl rfl ac_o rfl rfl rfl ?_
      refine am_Ev_mono (ac_wrong hI (by decide) (by decide)) (fun r ks h' hq => ?_)
      obtain ⟨rfl, rfl, q1, q2⟩ := hq
      show am_Ek false am_G0 am_m172 11 _ [.int 0] _ _ _ _ _
      exact am_e_iret (ty := .boolean) (am_cur_of (i := (23, 1, .ireturn, (0, 0, 0), 0)) (by decide +kernel)) rfl rfl rfl ⟨rfl, Or.inl ⟨rfl, q1, hJ.2.2.1 _ _ (ab_mdle_Fr (by decide) q2) hj, ab_Fr_trans hF (ab_mdle_Fr (by decide) q2)⟩⟩
    · refine am_e_cmpT (am_nxt_of (i := (15, 3, .if_icmp .ne 9, (12, 0, 0), 0)) (by decide +kernel)) (am_c_neT h8) (am_tgt_of (by decide +kernel)) ?_
      have h8' := ac_ne' h8
      have eB1 := ac_c1 (x := B) (by omega) (by omega)
      refine am_e_aload_n (am_nxt_of (i := (24, 1, .aload_n 0, (0, 0, 0), 0)) (by decide +kernel)) (v := 164) rfl ?_
      refine am_e_dup (am_nxt_of (i := (25, 1, .dup, (0, 0, 0), 0)) (by decide +kernel)) rfl ?_
      refine am_e_getf (v := .int B) (am_nxt_of (i := (26, 3, .getfield 295, (12, 43, 1427), 0)) (by decide +kernel)) ac_o r5 ?_
      refine am_e_iconst (w := 1) (am_nxt_of (i := (29, 1, .iconst 1, (0, 0, 0), 0)) (by decide +kernel)) rfl ?_
      refine am_e_iadd (w := B + 1) (am_nxt_of (i := (30, 1, .iadd, (0, 0, 0), 0)) (by decide +kernel)) rfl ?_
      have I1 := ac_p43 (v := B + 1) hI (by omega) (by omega)
      refine am_e_putf (am_nxt_of (i := (31, 3, .putfield 295, (12, 43, 1427), 0)) (by decide +kernel)) ac_o rfl ?_
      refine am_e_aload_n (am_nxt_of (i := (34, 1, .aload_n 0, (0, 0, 0), 0)) (by decide +kernel)) (v := 164) rfl ?_
      refine am_e_iconst (w := 0) (am_nxt_of (i := (35, 1, .iconst 0, (0, 0, 0), 0)) (by decide +kernel)) rfl ?_
      refine am_e_callV (M' := am_m173) (o := 164) (ar := [.int 0]) (rest := []) (L := lv_args 0 [.ref 164, .int 0]) (am_nxt_of (i := (36, 3, .invokevirtual 298, (173, 1723, 3), 0)) (by decide +kernel)) rfl rfl rfl rfl ac_o rfl rfl rfl ?_
      refine am_Ev_mono (ab_waitsFor (w := W) (k := 0) I1 r3 s2 (by omega)) (fun r ks h2 hq => ?_)
      obtain ⟨rfl, rfl, e2⟩ := hq
      show am_Ek false am_G0 am_m172 21 _ [] _ _ _ _ _
      have eW1 := ac_c1 (x := W) (by omega) (by omega)
      have I2 : ab_Inv (ab_hi ab_tab) h2 := by
        rw [e2]
        exact ac_p41 (ac_w184 I1 (by decide) (by decide)) (by omega) (by omega)
      refine am_e_aload_n (am_nxt_of (i := (39, 1, .aload_n 0, (0, 0, 0), 0)) (by decide +kernel)) (v := 164) rfl ?_
      refine am_e_iconst (w := 1) (am_nxt_of (i := (40, 1, .iconst 1, (0, 0, 0), 0)) (by decide +kernel)) rfl ?_
      have I3 := ac_p46 (v := 1) I2 (by decide) (by decide)
      refine am_e_putf (am_nxt_of (i := (41, 3, .putfield 302, (12, 46, 1430), 0)) (by decide +kernel)) ac_o rfl ?_
      have F3 : ab_Fr ac_sM h' (am_up h2 164 46 (.int 1)) := by
        rw [e2]
        exact ab_Fr_up rfl (ab_Fr_up rfl (ab_Fr_up rfl (ab_Fr_up rfl ab_Fr_refl)))
      have J3 := hJ.2.2.1 _ _ F3 hj
      have S3 : ab_Sk 0 (am_up h2 164 46 (.int 1)) := by
        rw [e2]
        exact ac_Sk_push (R := R) (H := H) (k := 0) (C' := C) (B' := B + 1) hSk rfl r2 r2 r3 rfl rfl r5 rfl (fun i hi => by
          show am_up _ 184 W.toNatClampNeg _ 184 i = _
          rw [am_up_same _ _ _ _ _ (by omega)]
          rfl) (by
          show am_up _ 184 W.toNatClampNeg _ 184 W.toInt.toNat = _
          rw [eWc]
          exact am_up_self _ _ _ _) (by rw [if_pos rfl]; omega) (by omega) (by rw [if_pos rfl]; omega) (by omega) (by rw [if_pos rfl]; omega) (by decide)
      have M3 : ac_Mu m (am_up h2 164 46 (.int 1)) := ac_Mu_fr hMu (by rw [e2]; rfl) (by rw [e2]; rfl) (by rw [e2]; rfl)
      refine am_e_aload_n (am_nxt_of (i := (44, 1, .aload_n 0, (0, 0, 0), 0)) (by decide +kernel)) (v := 164) rfl ?_
      refine am_e_callV (M' := am_m151) (o := 164) (ar := []) (rest := []) (L := lv_args 0 [.ref 164]) (am_nxt_of (i := (45, 3, .invokevirtual 191, (151, 1636, 3), 0)) (by decide +kernel)) rfl rfl rfl rfl ac_o rfl rfl rfl ?_
      refine am_Ev_mono (ac_token hpk I3 (hJ.1 _ J3).1 (hJ.1 _ J3).2.1) (fun r ks h4 hq => ?_)
      obtain ⟨rfl, rfl, q3, q4⟩ := hq
      show am_Ek false am_G0 am_m172 26 _ [] _ _ _ _ _
      refine am_e_iconst (w := 1) (am_nxt_of (i := (48, 1, .iconst 1, (0, 0, 0), 0)) (by decide +kernel)) rfl ?_
      exact am_e_iret (ty := .boolean) (am_cur_of (i := (49, 1, .ireturn, (0, 0, 0), 0)) (by decide +kernel)) rfl rfl rfl ⟨rfl, Or.inr ⟨rfl, Or.inl ⟨ac_SS_tk hJ q3 q4 J3 (ab_Fr_trans hF (ab_mdle_Fr (by decide) F3)) S3 M3 (k := k) (by rw [e2]; exact ek) (by rw [hk4]; decide), by rw [q4.1 164 45 (by decide), e2]; exact ewa⟩⟩⟩
  · show am_Ek false am_G0 am_m172 3 _ [.int 0] _ _ _ _ _
    refine am_e_ifT (am_nxt_of (i := (6, 3, .ifCond .eq 44, (28, 0, 0), 0)) (by decide +kernel)) (am_c_eqT rfl) (am_tgt_of (by decide +kernel)) ?_
    have hleaf : am_Ek false am_G0 am_m172 47 [(0, .ref 164)] [] am_ks0 h' 0 0 (ac_lfQ J h0 m) := by
      refine am_e_aload_n (am_nxt_of (i := (86, 1, .aload_n 0, (0, 0, 0), 0)) (by decide +kernel)) (v := 164) rfl ?_
      refine am_e_callV (M' := am_m176) (o := 164) (ar := []) (rest := []) (L := lv_args 0 [.ref 164]) (am_nxt_of (i := (87, 3, .invokevirtual 312, (176, 1735, 3), 0)) (by decide +kernel)) rfl rfl rfl rfl ac_o rfl rfl rfl ?_
      refine am_Ev_mono (ac_nameMet ek ew kw1) (fun r ks h2 hq => ?_)
      obtain ⟨rfl, rfl, x, rfl, hx⟩ := hq
      show am_Ek false am_G0 am_m172 49 _ [.int x] _ _ _ _ _
      refine am_e_istore_n (ls' := [(1, .int x), (0, .ref 164)]) (am_nxt_of (i := (90, 1, .istore_n 1, (0, 0, 0), 0)) (by decide +kernel)) (by decide +kernel) rfl ?_
      refine am_e_iload_n (am_nxt_of (i := (91, 1, .iload_n 1, (0, 0, 0), 0)) (by decide +kernel)) (v := x) rfl ?_
      have hgrow : ∀ g a : Int32, (g = 0 ∨ g = 1) → (g = 1 → 0 ≤ a.toInt ∧ a.toInt ≤ 5) → 0 ≤ a.toInt → a.toInt ≤ 9999 → ¬ k.toInt = 0 → ¬ C.toInt = 64 → am_Ek false am_G0 am_m172 88 [(1, .int x), (0, .ref 164)] [.int 0, .int a, .int g, .ref 164] am_ks0 (am_up h2 164 44 (.int (C + 1))) 0 0 (ac_lfQ J h0 m) := by
        intro g a g01 ga a0 a9 hk0 hC6
        have eC := ac_c1 (x := C) (by omega) (by omega)
        have I1 := ac_p44 (v := C + 1) hI (by omega) (by omega)
        refine am_e_callV (M' := am_m177) (o := 164) (ar := [.int 0, .int a, .int g]) (rest := []) (L := lv_args 0 [.ref 164, .int g, .int a, .int 0]) (am_nxt_of (i := (161, 3, .invokevirtual 291, (177, 1739, 3), 0)) (by decide +kernel)) rfl rfl rfl rfl ac_o rfl rfl rfl ?_
        refine am_Ev_mono (ab_grown (n := R) (m := H) I1 r1 s1 (by omega) r4 (by omega) (by omega)) (fun r ks h3 hq => ?_)
        obtain ⟨rfl, rfl, e3⟩ := hq
        show am_Ek false am_G0 am_m172 89 _ [] _ _ _ _ _
        have eR := ac_c1 (x := R) (by omega) (by omega)
        have eH := ac_c1 (x := H) (by omega) (by omega)
        have g14 : 0 ≤ g.toInt ∧ g.toInt ≤ 14 := by rcases g01 with rfl | rfl <;> decide
        have g2 : g.toInt ≤ 1 := by rcases g01 with rfl | rfl <;> decide
        have I3 : ab_Inv (ab_hi ab_tab) h3 := by
          rw [e3]
          exact ab_grown_Inv I1 g14 ⟨a0, a9⟩ ⟨by decide, by decide⟩ ⟨s1, by omega⟩ ⟨by omega, by omega⟩ ⟨by omega, by omega⟩
        have J3 : J h3 := by
          rw [e3]
          exact ab_grown_J hJ.2.2.2 (hJ.2.2.1 _ _ (ab_Fr_up rfl ab_Fr_refl) hj) ga (fun e => by omega) (fun e => by omega)
        refine am_e_aload_n (am_nxt_of (i := (164, 1, .aload_n 0, (0, 0, 0), 0)) (by decide +kernel)) (v := 164) rfl ?_
        refine am_e_iconst (w := 0) (am_nxt_of (i := (165, 1, .iconst 0, (0, 0, 0), 0)) (by decide +kernel)) rfl ?_
        have I4 := ac_p45 (v := 0) I3 (by decide) (by decide)
        refine am_e_putf (am_nxt_of (i := (166, 3, .putfield 315, (12, 45, 1429), 0)) (by decide +kernel)) ac_o rfl ?_
        have J4 := hJ.2.2.1 h3 (am_up h3 164 45 (.int 0)) (ab_Fr_up rfl ab_Fr_refl) J3
        have F4 : ab_Fr ac_suM h0 (am_up h3 164 45 (.int 0)) := by
          rw [e3]
          exact ab_Fr_up rfl (ab_Fr_up rfl (ab_Fr_up rfl (ab_Fr_up rfl (ab_Fr_up rfl (ab_Fr_up rfl (ab_Fr_up rfl (ab_Fr_up rfl hF)))))))
        have S4 : ab_Sk 1 (am_up h3 164 45 (.int 0)) := by
          rw [e3]
          have hc := ab_cnt_same (h := h2) (h' := am_up (am_up (am_up (am_up (am_up (am_up (am_up (am_up h2 164 44 (.int (C + 1))) 181 (64 + R.toInt.toNat) (.int g)) 182 (64 + R.toInt.toNat) (.int a)) 183 (64 + R.toInt.toNat) (.int 0)) 185 H.toNatClampNeg (.int R)) 164 42 (.int (H + 1))) 164 21 (.int (R + 1))) 164 45 (.int 0)) (n := W.toInt.toNat) (fun i _ => rfl)
          exact ⟨R + 1, C + 1, W, H + 1, B, rfl, rfl, r3, rfl, r5, by omega, s2, by rw [hc.1]; omega, by omega, by rw [hc.2.1]; exact s5, s6, by rw [hc.2.2]; omega, by omega, fun i hi => s9 i hi⟩
        have M4 : ac_Mu m (am_up h3 164 45 (.int 0)) := ac_Mu_fr hMu (by rw [e3]; rfl) (by rw [e3]; rfl) (by rw [e3]; rfl)
        refine am_e_aload_n (am_nxt_of (i := (169, 1, .aload_n 0, (0, 0, 0), 0)) (by decide +kernel)) (v := 164) rfl ?_
        refine am_e_callV (M' := am_m151) (o := 164) (ar := []) (rest := []) (L := lv_args 0 [.ref 164]) (am_nxt_of (i := (170, 3, .invokevirtual 191, (151, 1636, 3), 0)) (by decide +kernel)) rfl rfl rfl rfl ac_o rfl rfl rfl ?_
        refine am_Ev_mono (ac_token hpk I4 (hJ.1 _ J4).1 (hJ.1 _ J4).2.1) (fun r ks h4 hq => ?_)
        obtain ⟨rfl, rfl, q3, q4⟩ := hq
        show am_Ek false am_G0 am_m172 94 _ [] _ _ _ _ _
        refine am_e_iconst (w := 1) (am_nxt_of (i := (173, 1, .iconst 1, (0, 0, 0), 0)) (by decide +kernel)) rfl ?_
        exact am_e_iret (ty := .boolean) (am_cur_of (i := (174, 1, .ireturn, (0, 0, 0), 0)) (by decide +kernel)) rfl rfl rfl ⟨rfl, Or.inr ⟨rfl, Or.inr ⟨ac_SS_tk hJ q3 q4 J4 F4 S4 M4 (k := k) (by rw [e3]; exact ek) hk0, by rw [q4.1 164 45 (by decide)]; exact am_up_self _ _ _ _⟩⟩⟩
      have hcount : (x = -1 ∧ k = 3 ∧ w.toInt ≤ 9999 ∨ 0 ≤ x.toInt ∧ x.toInt ≤ 5 ∧ k = 1) → am_Ek false am_G0 am_m172 70 [(1, .int x), (0, .ref 164)] [] am_ks0 h2 0 0 (ac_lfQ J h0 m) := by
        intro hx2
        refine am_e_aload_n (am_nxt_of (i := (129, 1, .aload_n 0, (0, 0, 0), 0)) (by decide +kernel)) (v := 164) rfl ?_
        refine am_e_callV (M' := am_m175) (o := 164) (ar := []) (rest := []) (L := lv_args 0 [.ref 164]) (am_nxt_of (i := (130, 3, .invokevirtual 309, (175, 1731, 3), 0)) (by decide +kernel)) rfl rfl rfl rfl ac_o rfl rfl rfl ?_
        refine am_Ev_mono (ac_isCounted hI r2) (fun r ks h3 hq => ?_)
        obtain ⟨rfl, ⟨rfl, q1, q2⟩ | ⟨rfl, hC6, rfl⟩⟩ := hq
        · show am_Ek false am_G0 am_m172 72 _ [.int 0] _ _ _ _ _
          refine am_e_ifF (am_nxt_of (i := (133, 3, .ifCond .ne 5, (75, 0, 0), 0)) (by decide +kernel)) (am_c_neF rfl) ?_
          refine am_e_iconst (w := 0) (am_nxt_of (i := (136, 1, .iconst 0, (0, 0, 0), 0)) (by decide +kernel)) rfl ?_
          exact am_e_iret (ty := .boolean) (am_cur_of (i := (137, 1, .ireturn, (0, 0, 0), 0)) (by decide +kernel)) rfl rfl rfl ⟨rfl, Or.inl ⟨rfl, q1, hJ.2.2.1 _ _ (ab_mdle_Fr (by decide) q2) hj, ab_Fr_trans hF (ab_mdle_Fr (by decide) q2)⟩⟩
        · show am_Ek false am_G0 am_m172 72 _ [.int 1] _ _ _ _ _
          refine am_e_ifT (am_nxt_of (i := (133, 3, .ifCond .ne 5, (75, 0, 0), 0)) (by decide +kernel)) (am_c_neT (by decide)) (am_tgt_of (by decide +kernel)) ?_
          refine am_e_aload_n (am_nxt_of (i := (138, 1, .aload_n 0, (0, 0, 0), 0)) (by decide +kernel)) (v := 164) rfl ?_
          refine am_e_iload_n (am_nxt_of (i := (139, 1, .iload_n 1, (0, 0, 0), 0)) (by decide +kernel)) (v := x) rfl ?_
          rcases hx2 with ⟨rfl, rfl, hw9⟩ | ⟨x0, x5, rfl⟩
          · refine am_e_ifT (am_nxt_of (i := (140, 3, .ifCond .lt 7, (80, 0, 0), 0)) (by decide +kernel)) (am_c_ltT (by decide)) (am_tgt_of (by decide +kernel)) ?_
            refine am_e_iconst (w := 0) (am_nxt_of (i := (147, 1, .iconst 0, (0, 0, 0), 0)) (by decide +kernel)) rfl ?_
            refine am_e_iload_n (am_nxt_of (i := (148, 1, .iload_n 1, (0, 0, 0), 0)) (by decide +kernel)) (v := (-1)) rfl ?_
            refine am_e_ifT (am_nxt_of (i := (149, 3, .ifCond .lt 7, (85, 0, 0), 0)) (by decide +kernel)) (am_c_ltT (by decide)) (am_tgt_of (by decide +kernel)) ?_
            refine am_e_aload_n (am_nxt_of (i := (156, 1, .aload_n 0, (0, 0, 0), 0)) (by decide +kernel)) (v := 164) rfl ?_
            refine am_e_getf (v := .int w) (am_nxt_of (i := (157, 3, .getfield 168, (12, 9, 1393), 0)) (by decide +kernel)) ac_o ew ?_
            refine am_e_iconst (w := 0) (am_nxt_of (i := (160, 1, .iconst 0, (0, 0, 0), 0)) (by decide +kernel)) rfl ?_
            exact hgrow _ _ (Or.inl rfl) (fun e => absurd e (by decide)) (kw3 (by decide)) hw9 (by decide) hC6
          · refine am_e_ifF (am_nxt_of (i := (140, 3, .ifCond .lt 7, (80, 0, 0), 0)) (by decide +kernel)) (am_c_ltF (ac_nlt x0)) ?_
            refine am_e_iconst (w := 1) (am_nxt_of (i := (143, 1, .iconst 1, (0, 0, 0), 0)) (by decide +kernel)) rfl ?_
            refine am_e_goto (am_cur_of (i := (144, 3, .goto 4, (81, 0, 0), 0)) (by decide +kernel)) (am_tgt_of (by decide +kernel)) ?_
            refine am_e_iload_n (am_nxt_of (i := (148, 1, .iload_n 1, (0, 0, 0), 0)) (by decide +kernel)) (v := x) rfl ?_
            refine am_e_ifF (am_nxt_of (i := (149, 3, .ifCond .lt 7, (85, 0, 0), 0)) (by decide +kernel)) (am_c_ltF (ac_nlt x0)) ?_
            refine am_e_iload_n (am_nxt_of (i := (152, 1, .iload_n 1, (0, 0, 0), 0)) (by decide +kernel)) (v := x) rfl ?_
            refine am_e_goto (am_cur_of (i := (153, 3, .goto 7, (87, 0, 0), 0)) (by decide +kernel)) (am_tgt_of (by decide +kernel)) ?_
            refine am_e_iconst (w := 0) (am_nxt_of (i := (160, 1, .iconst 0, (0, 0, 0), 0)) (by decide +kernel)) rfl ?_
            exact hgrow _ _ (Or.inr rfl) (fun _ => ⟨x0, x5⟩) x0 (by omega) (by decide) hC6
      rcases hx with rfl | hx
      · refine am_e_ifF (am_nxt_of (i := (92, 3, .ifCond .ge 17, (60, 0, 0), 0)) (by decide +kernel)) (am_c_geF (by decide)) ?_
        refine am_e_aload_n (am_nxt_of (i := (95, 1, .aload_n 0, (0, 0, 0), 0)) (by decide +kernel)) (v := 164) rfl ?_
        refine am_e_getf (v := .int k) (am_nxt_of (i := (96, 3, .getfield 157, (12, 8, 1392), 0)) (by decide +kernel)) ac_o ek ?_
        refine am_e_iconst (w := 3) (am_nxt_of (i := (99, 1, .iconst 3, (0, 0, 0), 0)) (by decide +kernel)) rfl ?_
        by_cases hk3 : (k : Int32) = 3
        · refine am_e_cmpT (am_nxt_of (i := (100, 3, .if_icmp .eq 9, (60, 0, 0), 0)) (by decide +kernel)) (am_c_eqT hk3) (am_tgt_of (by decide +kernel)) ?_
          refine am_e_iload_n (am_nxt_of (i := (109, 1, .iload_n 1, (0, 0, 0), 0)) (by decide +kernel)) (v := (-1)) rfl ?_
          refine am_e_ifF (am_nxt_of (i := (110, 3, .ifCond .ge 19, (70, 0, 0), 0)) (by decide +kernel)) (am_c_geF (by decide)) ?_
          refine am_e_aload_n (am_nxt_of (i := (113, 1, .aload_n 0, (0, 0, 0), 0)) (by decide +kernel)) (v := 164) rfl ?_
          refine am_e_getf (v := .int w) (am_nxt_of (i := (114, 3, .getfield 168, (12, 9, 1393), 0)) (by decide +kernel)) ac_o ew ?_
          refine am_e_sipush (w := 9999) (am_nxt_of (i := (117, 3, .sipush 9999, (0, 0, 0), 0)) (by decide +kernel)) (by decide) ?_
          by_cases h99 : (9999 : Int32) < w
          · refine am_e_cmpF (am_nxt_of (i := (120, 3, .if_icmp .le 9, (70, 0, 0), 0)) (by decide +kernel)) (am_c_leF h99) ?_
            refine am_e_aload_n (am_nxt_of (i := (123, 1, .aload_n 0, (0, 0, 0), 0)) (by decide +kernel)) (v := 164) rfl ?_
            refine am_e_iconst (w := 2) (am_nxt_of (i := (124, 1, .iconst 2, (0, 0, 0), 0)) (by decide +kernel)) rfl ?_
            refine am_e_callV (M' := am_m158) (o := 164) (ar := [.int 2]) (rest := []) (L := lv_args 0 [.ref 164, .int 2]) (am_nxt_of (i := (125, 3, .invokevirtual 181, (158, 1665, 3), 0)) (by decide +kernel)) rfl rfl rfl rfl ac_o rfl rfl rfl ?_
            refine am_Ev_mono (ac_wrong hI (by decide) (by decide)) (fun r ks h' hq => ?_)
            obtain ⟨rfl, rfl, q1, q2⟩ := hq
            show am_Ek false am_G0 am_m172 69 _ [.int 0] _ _ _ _ _
            exact am_e_iret (ty := .boolean) (am_cur_of (i := (128, 1, .ireturn, (0, 0, 0), 0)) (by decide +kernel)) rfl rfl rfl ⟨rfl, Or.inl ⟨rfl, q1, hJ.2.2.1 _ _ (ab_mdle_Fr (by decide) q2) hj, ab_Fr_trans hF (ab_mdle_Fr (by decide) q2)⟩⟩
          · refine am_e_cmpT (am_nxt_of (i := (120, 3, .if_icmp .le 9, (70, 0, 0), 0)) (by decide +kernel)) (am_c_leT h99) (am_tgt_of (by decide +kernel)) ?_
            exact hcount (Or.inl ⟨rfl, hk3, ac_nlt' h99⟩)
        · refine am_e_cmpF (am_nxt_of (i := (100, 3, .if_icmp .eq 9, (60, 0, 0), 0)) (by decide +kernel)) (am_c_eqF hk3) ?_
          refine am_e_aload_n (am_nxt_of (i := (103, 1, .aload_n 0, (0, 0, 0), 0)) (by decide +kernel)) (v := 164) rfl ?_
          refine am_e_iconst (w := 1) (am_nxt_of (i := (104, 1, .iconst 1, (0, 0, 0), 0)) (by decide +kernel)) rfl ?_
          refine am_e_callV (M' := am_m158) (o := 164) (ar := [.int 1]) (rest := []) (L := lv_args 0 [.ref 164, .int 1]) (am_nxt_of (i := (105, 3, .invokevirtual 181, (158, 1665, 3), 0)) (by decide +kernel)) rfl rfl rfl rfl ac_o rfl rfl rfl ?_
          refine am_Ev_mono (ac_wrong hI (by decide) (by decide)) (fun r ks h' hq => ?_)
          obtain ⟨rfl, rfl, q1, q2⟩ := hq
          show am_Ek false am_G0 am_m172 59 _ [.int 0] _ _ _ _ _
          exact am_e_iret (ty := .boolean) (am_cur_of (i := (108, 1, .ireturn, (0, 0, 0), 0)) (by decide +kernel)) rfl rfl rfl ⟨rfl, Or.inl ⟨rfl, q1, hJ.2.2.1 _ _ (ab_mdle_Fr (by decide) q2) hj, ab_Fr_trans hF (ab_mdle_Fr (by decide) q2)⟩⟩
      · refine am_e_ifT (am_nxt_of (i := (92, 3, .ifCond .ge 17, (60, 0, 0), 0)) (by decide +kernel)) (am_c_geT (ac_nlt hx.1)) (am_tgt_of (by decide +kernel)) ?_
        refine am_e_iload_n (am_nxt_of (i := (109, 1, .iload_n 1, (0, 0, 0), 0)) (by decide +kernel)) (v := x) rfl ?_
        refine am_e_ifT (am_nxt_of (i := (110, 3, .ifCond .ge 19, (70, 0, 0), 0)) (by decide +kernel)) (am_c_geT (ac_nlt hx.1)) (am_tgt_of (by decide +kernel)) ?_
        exact hcount (Or.inr hx)
    refine am_e_aload_n (am_nxt_of (i := (50, 1, .aload_n 0, (0, 0, 0), 0)) (by decide +kernel)) (v := 164) rfl ?_
    refine am_e_bipush (w := 14) (am_nxt_of (i := (51, 2, .bipush 14, (0, 0, 0), 0)) (by decide +kernel)) (by decide) ?_
    refine am_e_callV (M' := am_m174) (o := 164) (ar := [.int 14]) (rest := []) (L := lv_args 0 [.ref 164, .int 14]) (am_nxt_of (i := (53, 3, .invokevirtual 306, (174, 1727, 3), 0)) (by decide +kernel)) rfl rfl rfl rfl ac_o rfl rfl rfl ?_
    refine am_Ev_mono (ac_isKey ek ew) (fun r ks h2 hq => ?_)
    obtain ⟨rfl, rfl, ⟨rfl, hk1, -⟩ | rfl⟩ := hq
    · show am_Ek false am_G0 am_m172 31 _ [.int 1] _ _ _ _ _
      refine am_e_ifF (am_nxt_of (i := (56, 3, .ifCond .eq 30, (47, 0, 0), 0)) (by decide +kernel)) (am_c_eqF (by decide)) ?_
      obtain ⟨mn, emn, -⟩ := ac_g46 hI
      refine am_e_aload_n (am_nxt_of (i := (59, 1, .aload_n 0, (0, 0, 0), 0)) (by decide +kernel)) (v := 164) rfl ?_
      refine am_e_getf (v := .int mn) (am_nxt_of (i := (60, 3, .getfield 302, (12, 46, 1430), 0)) (by decide +kernel)) ac_o emn ?_
      by_cases hmn : (mn : Int32) = 0
      · refine am_e_ifT (am_nxt_of (i := (63, 3, .ifCond .eq 23, (47, 0, 0), 0)) (by decide +kernel)) (am_c_eqT hmn) (am_tgt_of (by decide +kernel)) ?_
        exact hleaf
      · refine am_e_ifF (am_nxt_of (i := (63, 3, .ifCond .eq 23, (47, 0, 0), 0)) (by decide +kernel)) (am_c_eqF hmn) ?_
        refine am_e_aload_n (am_nxt_of (i := (66, 1, .aload_n 0, (0, 0, 0), 0)) (by decide +kernel)) (v := 164) rfl ?_
        refine am_e_callV (M' := am_m175) (o := 164) (ar := []) (rest := []) (L := lv_args 0 [.ref 164]) (am_nxt_of (i := (67, 3, .invokevirtual 309, (175, 1731, 3), 0)) (by decide +kernel)) rfl rfl rfl rfl ac_o rfl rfl rfl ?_
        refine am_Ev_mono (ac_isCounted hI r2) (fun r ks h3 hq => ?_)
        obtain ⟨rfl, ⟨rfl, q1, q2⟩ | ⟨rfl, hC6, rfl⟩⟩ := hq
        · show am_Ek false am_G0 am_m172 37 _ [.int 0] _ _ _ _ _
          refine am_e_ifF (am_nxt_of (i := (70, 3, .ifCond .ne 5, (40, 0, 0), 0)) (by decide +kernel)) (am_c_neF rfl) ?_
          refine am_e_iconst (w := 0) (am_nxt_of (i := (73, 1, .iconst 0, (0, 0, 0), 0)) (by decide +kernel)) rfl ?_
          exact am_e_iret (ty := .boolean) (am_cur_of (i := (74, 1, .ireturn, (0, 0, 0), 0)) (by decide +kernel)) rfl rfl rfl ⟨rfl, Or.inl ⟨rfl, q1, hJ.2.2.1 _ _ (ab_mdle_Fr (by decide) q2) hj, ab_Fr_trans hF (ab_mdle_Fr (by decide) q2)⟩⟩
        · show am_Ek false am_G0 am_m172 37 _ [.int 1] _ _ _ _ _
          refine am_e_ifT (am_nxt_of (i := (70, 3, .ifCond .ne 5, (40, 0, 0), 0)) (by decide +kernel)) (am_c_neT (by decide)) (am_tgt_of (by decide +kernel)) ?_
          refine am_e_aload_n (am_nxt_of (i := (75, 1, .aload_n 0, (0, 0, 0), 0)) (by decide +kernel)) (v := 164) rfl ?_
          refine am_e_iconst (w := 2) (am_nxt_of (i := (76, 1, .iconst 2, (0, 0, 0), 0)) (by decide +kernel)) rfl ?_
          have eC := ac_c1 (x := C) (by omega) (by omega)
          have I1 := ac_p44 (v := C + 1) hI (by omega) (by omega)
          have eW1 := ac_c1 (x := W) (by omega) (by omega)
          refine am_e_callV (M' := am_m173) (o := 164) (ar := [.int 2]) (rest := []) (L := lv_args 0 [.ref 164, .int 2]) (am_nxt_of (i := (77, 3, .invokevirtual 298, (173, 1723, 3), 0)) (by decide +kernel)) rfl rfl rfl rfl ac_o rfl rfl rfl ?_
          refine am_Ev_mono (ab_waitsFor (w := W) (k := 2) I1 r3 s2 (by omega)) (fun r ks h3 hq => ?_)
          obtain ⟨rfl, rfl, e2⟩ := hq
          show am_Ek false am_G0 am_m172 43 _ [] _ _ _ _ _
          have I2 : ab_Inv (ab_hi ab_tab) h3 := by
            rw [e2]
            exact ac_p41 (ac_w184 I1 (by decide) (by decide)) (by omega) (by omega)
          have F3 : ab_Fr ac_sM h2 h3 := by
            rw [e2]
            exact ab_Fr_up rfl (ab_Fr_up rfl (ab_Fr_up rfl ab_Fr_refl))
          have J3 := hJ.2.2.1 _ _ F3 hj
          have S3 : ab_Sk 0 h3 := by
            rw [e2]
            exact ac_Sk_push (R := R) (H := H) (k := 2) (C' := C + 1) (B' := B) hSk rfl r2 rfl r3 rfl rfl r5 r5 (fun i hi => by
              show am_up _ 184 W.toNatClampNeg _ 184 i = _
              rw [am_up_same _ _ _ _ _ (by omega)]
              rfl) (by
              show am_up _ 184 W.toNatClampNeg _ 184 W.toInt.toNat = _
              rw [eWc]
              exact am_up_self _ _ _ _) (by rw [if_neg (by decide)]; omega) (by omega) (by rw [if_neg (by decide)]; omega) (by omega) (by rw [if_neg (by decide), if_pos rfl]; omega) (by decide)
          have M3 : ac_Mu m h3 := ac_Mu_fr hMu (by rw [e2]; rfl) (by rw [e2]; rfl) (by rw [e2]; rfl)
          refine am_e_aload_n (am_nxt_of (i := (80, 1, .aload_n 0, (0, 0, 0), 0)) (by decide +kernel)) (v := 164) rfl ?_
          refine am_e_callV (M' := am_m151) (o := 164) (ar := []) (rest := []) (L := lv_args 0 [.ref 164]) (am_nxt_of (i := (81, 3, .invokevirtual 191, (151, 1636, 3), 0)) (by decide +kernel)) rfl rfl rfl rfl ac_o rfl rfl rfl ?_
          refine am_Ev_mono (ac_token hpk I2 (hJ.1 _ J3).1 (hJ.1 _ J3).2.1) (fun r ks h4 hq => ?_)
          obtain ⟨rfl, rfl, q3, q4⟩ := hq
          show am_Ek false am_G0 am_m172 45 _ [] _ _ _ _ _
          refine am_e_iconst (w := 1) (am_nxt_of (i := (84, 1, .iconst 1, (0, 0, 0), 0)) (by decide +kernel)) rfl ?_
          exact am_e_iret (ty := .boolean) (am_cur_of (i := (85, 1, .ireturn, (0, 0, 0), 0)) (by decide +kernel)) rfl rfl rfl ⟨rfl, Or.inr ⟨rfl, Or.inl ⟨ac_SS_tk hJ q3 q4 J3 (ab_Fr_trans hF (ab_mdle_Fr (by decide) F3)) S3 M3 (k := k) (by rw [e2]; exact ek) (by rw [hk1]; decide), by rw [q4.1 164 45 (by decide), e2]; exact ewa⟩⟩⟩
    · show am_Ek false am_G0 am_m172 31 _ [.int 0] _ _ _ _ _
      refine am_e_ifT (am_nxt_of (i := (56, 3, .ifCond .eq 30, (47, 0, 0), 0)) (by decide +kernel)) (am_c_eqT rfl) (am_tgt_of (by decide +kernel)) ?_
      exact hleaf
end ACL
