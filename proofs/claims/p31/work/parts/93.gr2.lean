/-! ===== THE MODEL'S goRounds, all of it (wip/s/tpl/93.tpl) ===== -/
theorem ab_goRounds {J : am_H → Prop} {md : List (Nat × Nat)} {sfn sho sdz srs sfl : ab_Sm} (H : ab_BrC J md sfn sho sdz srs sfl) (h170 : ab_no 170 md = true) (h171 : ab_no 171 md = true) (h13 : ab_in md 164 13 = false) (hm1 : ab_in md 164 64 = true) (hm2 : ab_in md 164 65 = true) (hJr : ∀ h h', ab_Fr [(164, 65), (164, 66)] h h' → J h → J h') (hJb : ∀ h h', ab_Fr [(164, 64), (164, 65), (164, 66)] h h' → J h → J h') (hJc : ∀ h h', ab_Fr ab_cbM h h' → J h → J h') (hM5 : ∀ h, J h → ab_M5 h)
    {h : am_H} (hI : ab_Inv (ab_hi ab_tab) h) (hJ : J h) (ht : h 164 2 = .int 0) {n : Int32} (en : h 164 13 = .int n) (n1 : 1 ≤ n.toInt) (n8 : n.toInt ≤ 8) :
    am_Ek false am_G0 am_m214 0 (lv_args 0 [.ref 164]) [] am_ks0 h 0 0 (fun r ks h' => ks = am_ks0 ∧ (r = some (.int 0) ∨ r = some (.int 1)) ∧ ab_Inv (ab_hi ab_tab) h' ∧ J h' ∧ ab_Fr (md ++ (ab_cbM ++ [(164, 64)])) h h') := by
  have q1 : am_ks0[164]? = some (.inl 12) := by decide +kernel
  have k8 : am_ks0[188]? = some (.inr (.int, 4)) := by decide +kernel
  have k9 : am_ks0[189]? = some (.inr (.int, 4)) := by decide +kernel
  have k6 : am_ks0[168]? = some (.inr (.int, 12)) := by decide +kernel
  have z : ab_sz (.inl 12) = 81 := rfl
  obtain ⟨s, es, -, -⟩ := ab_arrI hI (q := 0) k9 (l := -2147483648) (u := 2147483647) (by decide +kernel) (by decide +kernel) (by decide)
  refine am_e_aload_n (am_nxt_of (i := (0, 1, .aload_n 0, (0, 0, 0), 0)) (by decide +kernel)) (v := 164) rfl ?_
  refine am_e_iconst (w := 1) (am_nxt_of (i := (1, 1, .iconst 1, (0, 0, 0), 0)) (by decide +kernel)) rfl ?_
  refine am_e_iconst (w := 0) (am_nxt_of (i := (2, 1, .iconst 0, (0, 0, 0), 0)) (by decide +kernel)) rfl ?_
  refine am_e_callV (M' := am_m197) (o := 164) (ar := [.int 0, .int 1]) (rest := []) (L := lv_args 0 [.ref 164, .int 1, .int 0]) (am_nxt_of (i := (3, 3, .invokevirtual 428, (197, 1820, 3), 0)) (by decide +kernel)) rfl rfl rfl rfl q1 rfl rfl rfl ?_
  refine am_Ev_mono (ab_copy10 (s := s) hJc hI hJ es) (fun r ks h1 hq => ?_)
  obtain ⟨rfl, rfl, hI1, hJ1, hF1, es1⟩ := hq
  show am_Ek false am_G0 am_m214 4 (lv_args 0 [.ref 164]) [] am_ks0 h1 0 0 _
  have es0 : h1 189 0 = .int s := (hF1 189 0 rfl).trans es
  have f51 : h1 164 51 = .ref 189 := ab_ref1 hI1 q1 (by rw [z]; decide) (by decide +kernel)
  have f50 : h1 164 50 = .ref 188 := ab_ref1 hI1 q1 (by rw [z]; decide) (by decide +kernel)
  have f23 : h1 164 23 = .ref 168 := ab_ref1 hI1 q1 (by rw [z]; decide) (by decide +kernel)
  obtain ⟨x, ex, -, -⟩ := ab_arrI hI1 (q := 1) k8 (l := -2147483648) (u := 2147483647) (by decide +kernel) (by decide +kernel) (by decide)
  obtain ⟨y, ey, -, -⟩ := ab_arrI hI1 (q := 0) k6 (l := 0) (u := 99999) (by decide +kernel) (by decide +kernel) (by decide)
  refine am_e_aload_n (am_nxt_of (i := (6, 1, .aload_n 0, (0, 0, 0), 0)) (by decide +kernel)) (v := 164) rfl ?_
  refine am_e_aload_n (am_nxt_of (i := (7, 1, .aload_n 0, (0, 0, 0), 0)) (by decide +kernel)) (v := 164) rfl ?_
  refine am_e_getf (am_nxt_of (i := (8, 3, .getfield 88, (12, 51, 1435), 0)) (by decide +kernel)) q1 f51 ?_
  refine am_e_iconst (w := 0) (am_nxt_of (i := (11, 1, .iconst 0, (0, 0, 0), 0)) (by decide +kernel)) rfl ?_
  refine am_e_iaload (q := 0) (am_nxt_of (i := (12, 1, .iaload, (0, 0, 0), 0)) (by decide +kernel)) k9 (by decide) rfl es0 ?_
  refine am_e_putf (am_nxt_of (i := (13, 3, .putfield 447, (12, 63, 1447), 0)) (by decide +kernel)) q1 rfl ?_
  refine am_e_aload_n (am_nxt_of (i := (16, 1, .aload_n 0, (0, 0, 0), 0)) (by decide +kernel)) (v := 164) rfl ?_
  refine am_e_aload_n (am_nxt_of (i := (17, 1, .aload_n 0, (0, 0, 0), 0)) (by decide +kernel)) (v := 164) rfl ?_
  refine am_e_getf (am_nxt_of (i := (18, 3, .getfield 85, (12, 50, 1434), 0)) (by decide +kernel)) q1 (v := .ref 188) f50 ?_
  refine am_e_iconst (w := 1) (am_nxt_of (i := (21, 1, .iconst 1, (0, 0, 0), 0)) (by decide +kernel)) rfl ?_
  refine am_e_iaload (q := 1) (am_nxt_of (i := (22, 1, .iaload, (0, 0, 0), 0)) (by decide +kernel)) k8 (by decide) rfl (v := x) ex ?_
  refine am_e_putf (am_nxt_of (i := (23, 3, .putfield 454, (12, 64, 1448), 0)) (by decide +kernel)) q1 rfl ?_
  refine am_e_aload_n (am_nxt_of (i := (26, 1, .aload_n 0, (0, 0, 0), 0)) (by decide +kernel)) (v := 164) rfl ?_
  refine am_e_iconst (w := 0) (am_nxt_of (i := (27, 1, .iconst 0, (0, 0, 0), 0)) (by decide +kernel)) rfl ?_
  refine am_e_putf (am_nxt_of (i := (28, 3, .putfield 457, (12, 65, 1449), 0)) (by decide +kernel)) q1 rfl ?_
  have hI4 : ab_Inv (ab_hi ab_tab) (am_up (am_up (am_up h1 164 63 (.int s)) 164 64 (.int x)) 164 65 (.int 0)) := ab_Inv_up (ab_Inv_up (ab_Inv_up hI1 (by rw [show ab_hi ab_tab 164 63 = ab_top by decide +kernel]; exact ab_top_ok _)) (by rw [show ab_hi ab_tab 164 64 = ab_top by decide +kernel]; exact ab_top_ok _)) (by rw [show ab_hi ab_tab 164 65 = ab_top by decide +kernel]; exact ab_top_ok _)
  have hFb : ab_Fr [(164, 64), (164, 65), (164, 66)] h1 (am_up (am_up (am_up h1 164 63 (.int s)) 164 64 (.int x)) 164 65 (.int 0)) := ab_Fr_up rfl (ab_Fr_up rfl (ab_Fr_up rfl ab_Fr_refl))
  have hJ4 := hJb h1 _ hFb hJ1
  have t4 : am_up (am_up (am_up h1 164 63 (.int s)) 164 64 (.int x)) 164 65 (.int 0) 164 2 = .int 0 := (hF1 164 2 rfl).trans ht
  have n4 : am_up (am_up (am_up h1 164 63 (.int s)) 164 64 (.int x)) 164 65 (.int 0) 164 13 = .int n := (hF1 164 13 rfl).trans en
  have b4 : am_up (am_up (am_up h1 164 63 (.int s)) 164 64 (.int x)) 164 65 (.int 0) 164 63 = .int s := rfl
  have s4 : am_up (am_up (am_up h1 164 63 (.int s)) 164 64 (.int x)) 164 65 (.int 0) 189 1 = .int s := es1
  have x4 : am_up (am_up (am_up h1 164 63 (.int s)) 164 64 (.int x)) 164 65 (.int 0) 188 1 = .int x := ex
  have y4 : am_up (am_up (am_up h1 164 63 (.int s)) 164 64 (.int x)) 164 65 (.int 0) 168 0 = .int y := ey
  have g50 : am_up (am_up (am_up h1 164 63 (.int s)) 164 64 (.int x)) 164 65 (.int 0) 164 50 = .ref 188 := f50
  have g23 : am_up (am_up (am_up h1 164 63 (.int s)) 164 64 (.int x)) 164 65 (.int 0) 164 23 = .ref 168 := f23
  generalize am_up (am_up (am_up h1 164 63 (.int s)) 164 64 (.int x)) 164 65 (.int 0) = h4 at hI4 hFb hJ4 t4 n4 b4 s4 x4 y4 g50 g23
  have hB4 : ab_Bd J md h4 s 0 h4 := ⟨hI4, hJ4, ab_Fr_refl, t4, b4, s, s4, by rw [Int32.sub_self]; decide⟩
  refine am_e_aload_n (am_nxt_of (i := (31, 1, .aload_n 0, (0, 0, 0), 0)) (by decide +kernel)) (v := 164) rfl ?_
  refine am_e_getf (am_nxt_of (i := (32, 3, .getfield 85, (12, 50, 1434), 0)) (by decide +kernel)) q1 g50 ?_
  refine am_e_iconst (w := 1) (am_nxt_of (i := (35, 1, .iconst 1, (0, 0, 0), 0)) (by decide +kernel)) rfl ?_
  refine am_e_iaload (q := 1) (am_nxt_of (i := (36, 1, .iaload, (0, 0, 0), 0)) (by decide +kernel)) k8 (by decide) rfl x4 ?_
  refine am_e_aload_n (am_nxt_of (i := (37, 1, .aload_n 0, (0, 0, 0), 0)) (by decide +kernel)) (v := 164) rfl ?_
  refine am_e_getf (am_nxt_of (i := (38, 3, .getfield 24, (12, 23, 1407), 0)) (by decide +kernel)) q1 g23 ?_
  refine am_e_iconst (w := 0) (am_nxt_of (i := (41, 1, .iconst 0, (0, 0, 0), 0)) (by decide +kernel)) rfl ?_
  refine am_e_iaload (q := 0) (am_nxt_of (i := (42, 1, .iaload, (0, 0, 0), 0)) (by decide +kernel)) k6 (by decide) rfl y4 ?_
  have hgo : ∀ m : Int32, am_Ek false am_G0 am_m214 31 (lv_args 0 [.ref 164]) [.int m] am_ks0 h4 0 0 (fun r ks h' => ks = am_ks0 ∧ (r = some (.int 0) ∨ r = some (.int 1)) ∧ ab_Inv (ab_hi ab_tab) h' ∧ J h' ∧ ab_Fr (md ++ (ab_cbM ++ [(164, 64)])) h h') := by
    intro m
    refine am_e_istore_n (am_nxt_of (i := (51, 1, .istore_n 1, (0, 0, 0), 0)) (by decide +kernel)) (by decide +kernel) rfl ?_
    refine am_e_iconst (w := 0) (am_nxt_of (i := (52, 1, .iconst 0, (0, 0, 0), 0)) (by decide +kernel)) rfl ?_
    refine am_e_istore_n (am_nxt_of (i := (53, 1, .istore_n 2, (0, 0, 0), 0)) (by decide +kernel)) (by decide +kernel) rfl ?_
    refine am_e_iconst (w := 0) (am_nxt_of (i := (54, 1, .iconst 0, (0, 0, 0), 0)) (by decide +kernel)) rfl ?_
    refine am_e_istore_n (am_nxt_of (i := (55, 1, .istore_n 3, (0, 0, 0), 0)) (by decide +kernel)) (by decide +kernel) rfl ?_
    refine am_Ek_ls (ls' := ab_grL m 0 0) ⟨rfl, rfl, rfl, rfl, trivial⟩ ?_
    refine am_Ev_mono (ab_gr_loop H h170 h171 h13 hm1 hm2 hJr (hM5 h4 hJ4) n4 n1 n8 3600 0 m 0 0 h4 (by decide) (by decide) hB4 (fun _ => by decide) (by decide) (by rw [show (0 : Int32).toInt = 0 by decide]; omega)) (fun r ks h5 hq => ?_)
    obtain ⟨p1, p2, D', p3⟩ := hq
    refine ⟨p1, p2, p3.1, p3.2.1, fun o k hok => ?_⟩
    unfold ab_in at hok
    rw [List.any_append, Bool.or_eq_false_iff, List.any_append, Bool.or_eq_false_iff] at hok
    obtain ⟨u1, u2, u3⟩ := hok
    have hb : ab_in [(164, 64), (164, 65), (164, 66)] o k = false := by
      cases hi : ab_in [(164, 64), (164, 65), (164, 66)] o k with
      | false => rfl
      | true =>
        exfalso
        have hmm : ∀ q : Nat × Nat, q ∈ [(164, 64), (164, 65), (164, 66)] → (Nat.beq q.1 o && (Nat.beq q.2 0 || Nat.beq q.2 (k + 1))) = true → False := by
          intro q hq hb
          simp only [List.mem_cons, List.not_mem_nil, or_false] at hq
          rw [Bool.and_eq_true] at hb
          have eo := Nat.eq_of_beq_eq_true hb.1
          have ek : Nat.beq q.2 (k + 1) = true := by
            rcases hq with rfl | rfl | rfl <;> simpa using hb.2
          have ek := Nat.eq_of_beq_eq_true ek
          rcases hq with rfl | rfl | rfl
          · have : (([(164, 64)] : List (Nat × Nat)).any fun q => Nat.beq q.1 o && (Nat.beq q.2 0 || Nat.beq q.2 (k + 1))) = true := by
              rw [← eo, ← ek]; decide
            rw [this] at u3
            cases u3
          · have e2 : k = 64 := by omega
            subst e2
            rw [← eo] at u1
            unfold ab_in at hm1
            rw [hm1] at u1
            cases u1
          · have e2 : k = 65 := by omega
            subst e2
            rw [← eo] at u1
            unfold ab_in at hm2
            rw [hm2] at u1
            cases u1
        obtain ⟨q, hq, hb⟩ := List.any_eq_true.mp hi
        exact hmm q hq hb
    exact ((p3.2.2.1 o k u1).trans (hFb o k hb)).trans (hF1 o k u2)
  by_cases hlt : x < y
  · refine am_e_cmpF (am_nxt_of (i := (43, 3, .if_icmp .ge 7, (30, 0, 0), 0)) (by decide +kernel)) (am_c_geF hlt) ?_
    refine am_e_iconst (w := 1) (am_nxt_of (i := (46, 1, .iconst 1, (0, 0, 0), 0)) (by decide +kernel)) rfl ?_
    refine am_e_goto (am_cur_of (i := (47, 3, .goto 4, (31, 0, 0), 0)) (by decide +kernel)) (am_tgt_of (by decide +kernel)) ?_
    exact hgo 1
  · refine am_e_cmpT (am_nxt_of (i := (43, 3, .if_icmp .ge 7, (30, 0, 0), 0)) (by decide +kernel)) (am_c_geT hlt) (am_tgt_of (by decide +kernel)) ?_
    refine am_e_iconst (w := 0) (am_nxt_of (i := (50, 1, .iconst 0, (0, 0, 0), 0)) (by decide +kernel)) rfl ?_
    exact hgo 0
