/-! ===== THE MODEL'S token (wip/s/gen97.py) ===== -/
abbrev ac_tkM : List (Nat × Nat) := [(164, 8), (164, 9), (164, 10), (164, 11)]
/-- what stands beside a kind: a key's number, a number, a comparison's -/
def ac_KW (h : am_H) : Prop := ∃ k w : Int32, h 164 8 = .int k ∧ h 164 9 = .int w ∧ (k.toInt = 1 → 0 ≤ w.toInt ∧ w.toInt ≤ 19) ∧ (k.toInt = 3 → 0 ≤ w.toInt) ∧ (k.toInt = 5 → 0 ≤ w.toInt ∧ w.toInt ≤ 5)
/-- a token was read: the place goes on, or it ends at the end -/
def ac_tk (h h' : am_H) : Prop := ab_Fr ac_tkM h h' ∧ ∃ n n' s k' : Int32, h 164 7 = .int n ∧ h' 164 7 = .int n' ∧ h 164 6 = .int s ∧ h' 164 8 = .int k' ∧ n.toInt ≤ n'.toInt ∧ n'.toInt ≤ s.toInt ∧ (k'.toInt = 0 ∧ n'.toInt = s.toInt ∨ n.toInt < n'.toInt) ∧ ac_KW h'
/-- the place isn't behind the end -/
def ac_Np (h : am_H) : Prop := ∃ n s : Int32, h 164 7 = .int n ∧ h 164 6 = .int s ∧ n.toInt ≤ s.toInt
def ac_Tk (h0 : am_H) (n0 s n : Int32) (h : am_H) : Prop := ab_Inv (ab_hi ab_tab) h ∧ ab_Fr ac_tkM h0 h ∧ h 164 6 = .int s ∧ h 164 7 = .int n ∧ n0.toInt ≤ n.toInt ∧ n.toInt ≤ s.toInt ∧ 0 ≤ n0.toInt ∧ s.toInt ≤ 700
/-- a sign between two at this place -/
def ac_P (lo hi : Int32) (s k : Int32) (h : am_H) : Prop := k.toInt < s.toInt ∧ ∃ v : Int32, h 165 k.toNatClampNeg = .int v ∧ ¬ v < lo ∧ ¬ hi < v
theorem ac_lt {x y : Int32} (h : x.toInt < y.toInt) : x < y := Int32.lt_iff_toInt_lt.mpr h
theorem ac_nlt {x y : Int32} (h : y.toInt ≤ x.toInt) : ¬ x < y := fun q => by rw [Int32.lt_iff_toInt_lt] at q; omega
theorem ac_nlt' {x y : Int32} (h : ¬ x < y) : y.toInt ≤ x.toInt := by rw [Int32.lt_iff_toInt_lt] at h; omega
theorem ac_lt' {x y : Int32} (h : x < y) : x.toInt < y.toInt := Int32.lt_iff_toInt_lt.mp h
theorem ac_c1 {x : Int32} (h0 : 0 ≤ x.toInt) (h1 : x.toInt ≤ 1000000) : (x + 1).toInt = x.toInt + 1 := by
  rw [ab_iadd (by rw [show (1 : Int32).toInt = 1 by decide]; omega) (by rw [show (1 : Int32).toInt = 1 by decide]; omega), show (1 : Int32).toInt = 1 by decide]
theorem ac_ne {x y : Int32} (h : ¬ x.toInt = y.toInt) : ¬ x = y := fun e => h (by rw [e])
theorem ac_ne' {x y : Int32} (h : ¬ x = y) : ¬ x.toInt = y.toInt := fun e => h (Int32.toInt_inj.mp e)
theorem ac_Tk_up {h0 h : am_H} {n0 s n v : Int32} {f : Nat} (hf : f = 8 ∨ f = 9 ∨ f = 10) (hI : ab_Inv (ab_hi ab_tab) (am_up h 164 f (.int v))) (hT : ac_Tk h0 n0 s n h) : ac_Tk h0 n0 s n (am_up h 164 f (.int v)) := by
  obtain ⟨-, t2, t3, t4, t5⟩ := hT
  refine ⟨hI, ab_Fr_up (by rcases hf with rfl | rfl | rfl <;> decide) t2, ?_, ?_, t5⟩
  · rw [am_up_same _ _ _ _ _ (by omega)]; exact t3
  · rw [am_up_same _ _ _ _ _ (by omega)]; exact t4
theorem ac_Tk_nx {h0 h : am_H} {n0 s n : Int32} (hT : ac_Tk h0 n0 s n h) (hn : n.toInt < s.toInt) : ac_Tk h0 n0 s (n + 1) (am_up h 164 7 (.int (n + 1))) := by
  obtain ⟨t1, t2, t3, t4, t5, t6, t7, t8⟩ := hT
  have e := ac_c1 (x := n) (by omega) (by omega)
  exact ⟨ac_p7 t1 (by omega) (by omega), ab_Fr_up (by decide) t2, by rw [am_up_same _ _ _ _ _ (by decide)]; exact t3, am_up_self _ _ _ _, by omega, by omega, t7, t8⟩
theorem ac_tk_of {h0 h : am_H} {n0 s n k : Int32} (e0 : h0 164 7 = .int n0) (hT : ac_Tk h0 n0 s n h) (ek : h 164 8 = .int k) (hk : k.toInt = 0 ∧ n.toInt = s.toInt ∨ n0.toInt < n.toInt) {w : Int32} (ew : h 164 9 = .int w) (hw : (k.toInt = 1 → 0 ≤ w.toInt ∧ w.toInt ≤ 19) ∧ (k.toInt = 3 → 0 ≤ w.toInt) ∧ (k.toInt = 5 → 0 ≤ w.toInt ∧ w.toInt ≤ 5)) : ac_tk h0 h := by
  obtain ⟨t1, t2, t3, t4, t5, t6, t7, t8⟩ := hT
  exact ⟨t2, n0, n, s, k, e0, t4, by rw [← t2 164 6 (by decide)]; exact t3, ek, t5, t6, hk, k, w, ek, ew, hw⟩
abbrev ac_tkQ (h0 : am_H) : Option Value → List am_k → am_H → Prop := fun r ks h' => ks = am_ks0 ∧ r = none ∧ ab_Inv (ab_hi ab_tab) h' ∧ ac_tk h0 h'
theorem ac_isSmall {h : am_H} {k s : Int32} (hI : ab_Inv (ab_hi ab_tab) h) (es : h 164 6 = .int s) (s7 : s.toInt ≤ 700) (k0 : 0 ≤ k.toInt) : am_Ek false am_G0 am_m152 0 (lv_args 0 [.ref 164, .int k]) [] am_ks0 h 0 0 (fun r ks h' => ks = am_ks0 ∧ h' = h ∧ (r = some (.int 1) ∧ ac_P 97 122 s k h ∨ r = some (.int 0) ∧ ¬ ac_P 97 122 s k h)) := by
  refine am_e_iload_n (am_nxt_of (i := (0, 1, .iload_n 1, (0, 0, 0), 0)) (by decide +kernel)) (v := k) rfl ?_
  refine am_e_aload_n (am_nxt_of (i := (1, 1, .aload_n 0, (0, 0, 0), 0)) (by decide +kernel)) (v := 164) rfl ?_
  refine am_e_getf (v := .int s) (am_nxt_of (i := (2, 3, .getfield 151, (12, 6, 1390), 0)) (by decide +kernel)) ac_o es ?_
  by_cases hk : (k : Int32) < s
  · refine am_e_cmpF (am_nxt_of (i := (5, 3, .if_icmp .ge 29, (18, 0, 0), 0)) (by decide +kernel)) (am_c_geF hk) ?_
    have hlt := ac_lt' hk
    have hix := ab_ix (x := k) (n := 700) k0 (by omega)
    obtain ⟨v, ev, -⟩ := ac_r165 hI (q := k.toNatClampNeg) (Nat.lt_of_not_le (fun q => hix (Or.inr q)))
    refine am_e_aload_n (am_nxt_of (i := (8, 1, .aload_n 0, (0, 0, 0), 0)) (by decide +kernel)) (v := 164) rfl ?_
    refine am_e_getf (am_nxt_of (i := (9, 3, .getfield 7, (12, 0, 1384), 0)) (by decide +kernel)) ac_o (ac_f0 hI) ?_
    refine am_e_iload_n (am_nxt_of (i := (12, 1, .iload_n 1, (0, 0, 0), 0)) (by decide +kernel)) (v := k) rfl ?_
    refine am_e_iaload (v := v) (am_nxt_of (i := (13, 1, .iaload, (0, 0, 0), 0)) (by decide +kernel)) ac_k165 hix rfl ev ?_
    refine am_e_bipush (w := 97) (am_nxt_of (i := (14, 2, .bipush 97, (0, 0, 0), 0)) (by decide +kernel)) (by decide) ?_
    by_cases hl : (v : Int32) < 97
    · refine am_e_cmpT (am_nxt_of (i := (16, 3, .if_icmp .lt 18, (18, 0, 0), 0)) (by decide +kernel)) (am_c_ltT hl) (am_tgt_of (by decide +kernel)) ?_
      refine am_e_iconst (w := 0) (am_nxt_of (i := (34, 1, .iconst 0, (0, 0, 0), 0)) (by decide +kernel)) rfl ?_
      exact am_e_iret (ty := .boolean) (am_cur_of (i := (35, 1, .ireturn, (0, 0, 0), 0)) (by decide +kernel)) rfl rfl rfl ⟨rfl, rfl, Or.inr ⟨rfl, fun q => by obtain ⟨-, v', e, q1, -⟩ := q; rw [ev] at e; cases e; exact q1 hl⟩⟩
    · refine am_e_cmpF (am_nxt_of (i := (16, 3, .if_icmp .lt 18, (18, 0, 0), 0)) (by decide +kernel)) (am_c_ltF hl) ?_
      refine am_e_aload_n (am_nxt_of (i := (19, 1, .aload_n 0, (0, 0, 0), 0)) (by decide +kernel)) (v := 164) rfl ?_
      refine am_e_getf (am_nxt_of (i := (20, 3, .getfield 7, (12, 0, 1384), 0)) (by decide +kernel)) ac_o (ac_f0 hI) ?_
      refine am_e_iload_n (am_nxt_of (i := (23, 1, .iload_n 1, (0, 0, 0), 0)) (by decide +kernel)) (v := k) rfl ?_
      refine am_e_iaload (v := v) (am_nxt_of (i := (24, 1, .iaload, (0, 0, 0), 0)) (by decide +kernel)) ac_k165 hix rfl ev ?_
      refine am_e_bipush (w := 122) (am_nxt_of (i := (25, 2, .bipush 122, (0, 0, 0), 0)) (by decide +kernel)) (by decide) ?_
      by_cases hh : (122 : Int32) < v
      · refine am_e_cmpT (am_nxt_of (i := (27, 3, .if_icmp .gt 7, (18, 0, 0), 0)) (by decide +kernel)) (am_c_gtT hh) (am_tgt_of (by decide +kernel)) ?_
        refine am_e_iconst (w := 0) (am_nxt_of (i := (34, 1, .iconst 0, (0, 0, 0), 0)) (by decide +kernel)) rfl ?_
        exact am_e_iret (ty := .boolean) (am_cur_of (i := (35, 1, .ireturn, (0, 0, 0), 0)) (by decide +kernel)) rfl rfl rfl ⟨rfl, rfl, Or.inr ⟨rfl, fun q => by obtain ⟨-, v', e, -, q2⟩ := q; rw [ev] at e; cases e; exact q2 hh⟩⟩
      · refine am_e_cmpF (am_nxt_of (i := (27, 3, .if_icmp .gt 7, (18, 0, 0), 0)) (by decide +kernel)) (am_c_gtF hh) ?_
        refine am_e_iconst (w := 1) (am_nxt_of (i := (30, 1, .iconst 1, (0, 0, 0), 0)) (by decide +kernel)) rfl ?_
        refine am_e_goto (am_cur_of (i := (31, 3, .goto 4, (19, 0, 0), 0)) (by decide +kernel)) (am_tgt_of (by decide +kernel)) ?_
        exact am_e_iret (ty := .boolean) (am_cur_of (i := (35, 1, .ireturn, (0, 0, 0), 0)) (by decide +kernel)) rfl rfl rfl ⟨rfl, rfl, Or.inl ⟨rfl, hlt, v, ev, hl, hh⟩⟩
  · refine am_e_cmpT (am_nxt_of (i := (5, 3, .if_icmp .ge 29, (18, 0, 0), 0)) (by decide +kernel)) (am_c_geT hk) (am_tgt_of (by decide +kernel)) ?_
    refine am_e_iconst (w := 0) (am_nxt_of (i := (34, 1, .iconst 0, (0, 0, 0), 0)) (by decide +kernel)) rfl ?_
    exact am_e_iret (ty := .boolean) (am_cur_of (i := (35, 1, .ireturn, (0, 0, 0), 0)) (by decide +kernel)) rfl rfl rfl ⟨rfl, rfl, Or.inr ⟨rfl, fun q => hk (ac_lt q.1)⟩⟩
theorem ac_isDigit {h : am_H} {k s : Int32} (hI : ab_Inv (ab_hi ab_tab) h) (es : h 164 6 = .int s) (s7 : s.toInt ≤ 700) (k0 : 0 ≤ k.toInt) : am_Ek false am_G0 am_m155 0 (lv_args 0 [.ref 164, .int k]) [] am_ks0 h 0 0 (fun r ks h' => ks = am_ks0 ∧ h' = h ∧ (r = some (.int 1) ∧ ac_P 48 57 s k h ∨ r = some (.int 0) ∧ ¬ ac_P 48 57 s k h)) := by
  refine am_e_iload_n (am_nxt_of (i := (0, 1, .iload_n 1, (0, 0, 0), 0)) (by decide +kernel)) (v := k) rfl ?_
  refine am_e_aload_n (am_nxt_of (i := (1, 1, .aload_n 0, (0, 0, 0), 0)) (by decide +kernel)) (v := 164) rfl ?_
  refine am_e_getf (v := .int s) (am_nxt_of (i := (2, 3, .getfield 151, (12, 6, 1390), 0)) (by decide +kernel)) ac_o es ?_
  by_cases hk : (k : Int32) < s
  · refine am_e_cmpF (am_nxt_of (i := (5, 3, .if_icmp .ge 29, (18, 0, 0), 0)) (by decide +kernel)) (am_c_geF hk) ?_
    have hlt := ac_lt' hk
    have hix := ab_ix (x := k) (n := 700) k0 (by omega)
    obtain ⟨v, ev, -⟩ := ac_r165 hI (q := k.toNatClampNeg) (Nat.lt_of_not_le (fun q => hix (Or.inr q)))
    refine am_e_aload_n (am_nxt_of (i := (8, 1, .aload_n 0, (0, 0, 0), 0)) (by decide +kernel)) (v := 164) rfl ?_
    refine am_e_getf (am_nxt_of (i := (9, 3, .getfield 7, (12, 0, 1384), 0)) (by decide +kernel)) ac_o (ac_f0 hI) ?_
    refine am_e_iload_n (am_nxt_of (i := (12, 1, .iload_n 1, (0, 0, 0), 0)) (by decide +kernel)) (v := k) rfl ?_
    refine am_e_iaload (v := v) (am_nxt_of (i := (13, 1, .iaload, (0, 0, 0), 0)) (by decide +kernel)) ac_k165 hix rfl ev ?_
    refine am_e_bipush (w := 48) (am_nxt_of (i := (14, 2, .bipush 48, (0, 0, 0), 0)) (by decide +kernel)) (by decide) ?_
    by_cases hl : (v : Int32) < 48
    · refine am_e_cmpT (am_nxt_of (i := (16, 3, .if_icmp .lt 18, (18, 0, 0), 0)) (by decide +kernel)) (am_c_ltT hl) (am_tgt_of (by decide +kernel)) ?_
      refine am_e_iconst (w := 0) (am_nxt_of (i := (34, 1, .iconst 0, (0, 0, 0), 0)) (by decide +kernel)) rfl ?_
      exact am_e_iret (ty := .boolean) (am_cur_of (i := (35, 1, .ireturn, (0, 0, 0), 0)) (by decide +kernel)) rfl rfl rfl ⟨rfl, rfl, Or.inr ⟨rfl, fun q => by obtain ⟨-, v', e, q1, -⟩ := q; rw [ev] at e; cases e; exact q1 hl⟩⟩
    · refine am_e_cmpF (am_nxt_of (i := (16, 3, .if_icmp .lt 18, (18, 0, 0), 0)) (by decide +kernel)) (am_c_ltF hl) ?_
      refine am_e_aload_n (am_nxt_of (i := (19, 1, .aload_n 0, (0, 0, 0), 0)) (by decide +kernel)) (v := 164) rfl ?_
      refine am_e_getf (am_nxt_of (i := (20, 3, .getfield 7, (12, 0, 1384), 0)) (by decide +kernel)) ac_o (ac_f0 hI) ?_
      refine am_e_iload_n (am_nxt_of (i := (23, 1, .iload_n 1, (0, 0, 0), 0)) (by decide +kernel)) (v := k) rfl ?_
      refine am_e_iaload (v := v) (am_nxt_of (i := (24, 1, .iaload, (0, 0, 0), 0)) (by decide +kernel)) ac_k165 hix rfl ev ?_
      refine am_e_bipush (w := 57) (am_nxt_of (i := (25, 2, .bipush 57, (0, 0, 0), 0)) (by decide +kernel)) (by decide) ?_
      by_cases hh : (57 : Int32) < v
      · refine am_e_cmpT (am_nxt_of (i := (27, 3, .if_icmp .gt 7, (18, 0, 0), 0)) (by decide +kernel)) (am_c_gtT hh) (am_tgt_of (by decide +kernel)) ?_
        refine am_e_iconst (w := 0) (am_nxt_of (i := (34, 1, .iconst 0, (0, 0, 0), 0)) (by decide +kernel)) rfl ?_
        exact am_e_iret (ty := .boolean) (am_cur_of (i := (35, 1, .ireturn, (0, 0, 0), 0)) (by decide +kernel)) rfl rfl rfl ⟨rfl, rfl, Or.inr ⟨rfl, fun q => by obtain ⟨-, v', e, -, q2⟩ := q; rw [ev] at e; cases e; exact q2 hh⟩⟩
      · refine am_e_cmpF (am_nxt_of (i := (27, 3, .if_icmp .gt 7, (18, 0, 0), 0)) (by decide +kernel)) (am_c_gtF hh) ?_
        refine am_e_iconst (w := 1) (am_nxt_of (i := (30, 1, .iconst 1, (0, 0, 0), 0)) (by decide +kernel)) rfl ?_
        refine am_e_goto (am_cur_of (i := (31, 3, .goto 4, (19, 0, 0), 0)) (by decide +kernel)) (am_tgt_of (by decide +kernel)) ?_
        exact am_e_iret (ty := .boolean) (am_cur_of (i := (35, 1, .ireturn, (0, 0, 0), 0)) (by decide +kernel)) rfl rfl rfl ⟨rfl, rfl, Or.inl ⟨rfl, hlt, v, ev, hl, hh⟩⟩
  · refine am_e_cmpT (am_nxt_of (i := (5, 3, .if_icmp .ge 29, (18, 0, 0), 0)) (by decide +kernel)) (am_c_geT hk) (am_tgt_of (by decide +kernel)) ?_
    refine am_e_iconst (w := 0) (am_nxt_of (i := (34, 1, .iconst 0, (0, 0, 0), 0)) (by decide +kernel)) rfl ?_
    exact am_e_iret (ty := .boolean) (am_cur_of (i := (35, 1, .ireturn, (0, 0, 0), 0)) (by decide +kernel)) rfl rfl rfl ⟨rfl, rfl, Or.inr ⟨rfl, fun q => hk (ac_lt q.1)⟩⟩
section ACT
variable {h0 : am_H} {n0 s : Int32}
/-- the kind is laid: the end -/
theorem ac_st_c {h : am_H} {n t e u w : Int32} (e0 : h0 164 7 = .int n0) (hT : ac_Tk h0 n0 s n h) (hn : n0.toInt < n.toInt) (ew : h 164 9 = .int w) : am_Ek false am_G0 am_m156 70 [(0, .ref 164), (1, .int t), (2, .int e), (3, .int u)] [] am_ks0 h 0 0 (ac_tkQ h0) := by
  refine am_e_aload_n (am_nxt_of (i := (135, 1, .aload_n 0, (0, 0, 0), 0)) (by decide +kernel)) (v := 164) rfl ?_
  refine am_e_iconst (w := 5) (am_nxt_of (i := (136, 1, .iconst 5, (0, 0, 0), 0)) (by decide +kernel)) rfl ?_
  have I1 := ac_p8 (v := 5) hT.1 (by decide) (by decide)
  refine am_e_putf (am_nxt_of (i := (137, 3, .putfield 157, (12, 8, 1392), 0)) (by decide +kernel)) ac_o rfl ?_
  have T1 := ac_Tk_up (Or.inl rfl) I1 hT
  have hend : ∀ x : Int32, 0 ≤ x.toInt → x.toInt ≤ 5 → am_Ek false am_G0 am_m156 99 [(0, .ref 164), (1, .int t), (2, .int e), (3, .int u)] [.int x, .ref 164] am_ks0 (am_up h 164 8 (.int 5)) 0 0 (ac_tkQ h0) := by
    intro x x0 x5
    have I2 := ac_p9 (v := x) I1 (ab_32 x).1 (ab_32 x).2
    refine am_e_putf (am_nxt_of (i := (192, 3, .putfield 168, (12, 9, 1393), 0)) (by decide +kernel)) ac_o rfl ?_
    refine am_e_goto (am_cur_of (i := (195, 3, .goto 95, (144, 0, 0), 0)) (by decide +kernel)) (am_tgt_of (by decide +kernel)) ?_
    exact am_e_vret (am_cur_of (i := (290, 1, .return_, (0, 0, 0), 0)) (by decide +kernel)) rfl rfl ⟨rfl, rfl, I2, ac_tk_of e0 (ac_Tk_up (Or.inr (Or.inl rfl)) I2 T1) (k := 5) rfl (Or.inr hn) (w := x) rfl ⟨fun q => absurd q (by decide), fun q => absurd q (by decide), fun _ => ⟨x0, x5⟩⟩⟩
  refine am_e_aload_n (am_nxt_of (i := (140, 1, .aload_n 0, (0, 0, 0), 0)) (by decide +kernel)) (v := 164) rfl ?_
  refine am_e_aload_n (am_nxt_of (i := (141, 1, .aload_n 0, (0, 0, 0), 0)) (by decide +kernel)) (v := 164) rfl ?_
  refine am_e_getf (v := .int w) (am_nxt_of (i := (142, 3, .getfield 168, (12, 9, 1393), 0)) (by decide +kernel)) ac_o ew ?_
  refine am_e_bipush (w := 61) (am_nxt_of (i := (145, 2, .bipush 61, (0, 0, 0), 0)) (by decide +kernel)) (by decide) ?_
  by_cases h61 : (w : Int32) = 61
  · refine am_e_cmpF (am_nxt_of (i := (147, 3, .if_icmp .ne 7, (80, 0, 0), 0)) (by decide +kernel)) (am_c_neF h61) ?_
    refine am_e_iconst (w := 2) (am_nxt_of (i := (150, 1, .iconst 2, (0, 0, 0), 0)) (by decide +kernel)) rfl ?_
    refine am_e_goto (am_cur_of (i := (151, 3, .goto 41, (99, 0, 0), 0)) (by decide +kernel)) (am_tgt_of (by decide +kernel)) ?_
    exact hend _ (by decide) (by decide)
  · refine am_e_cmpT (am_nxt_of (i := (147, 3, .if_icmp .ne 7, (80, 0, 0), 0)) (by decide +kernel)) (am_c_neT h61) (am_tgt_of (by decide +kernel)) ?_
    refine am_e_aload_n (am_nxt_of (i := (154, 1, .aload_n 0, (0, 0, 0), 0)) (by decide +kernel)) (v := 164) rfl ?_
    refine am_e_getf (v := .int w) (am_nxt_of (i := (155, 3, .getfield 168, (12, 9, 1393), 0)) (by decide +kernel)) ac_o ew ?_
    refine am_e_bipush (w := 60) (am_nxt_of (i := (158, 2, .bipush 60, (0, 0, 0), 0)) (by decide +kernel)) (by decide) ?_
    by_cases h60 : (w : Int32) = 60
    · refine am_e_cmpF (am_nxt_of (i := (160, 3, .if_icmp .ne 23, (94, 0, 0), 0)) (by decide +kernel)) (am_c_neF h60) ?_
      refine am_e_iload_n (am_nxt_of (i := (163, 1, .iload_n 2, (0, 0, 0), 0)) (by decide +kernel)) (v := e) rfl ?_
      by_cases he : (e : Int32) = 0
      · refine am_e_ifT (am_nxt_of (i := (164, 3, .ifCond .eq 7, (88, 0, 0), 0)) (by decide +kernel)) (am_c_eqT he) (am_tgt_of (by decide +kernel)) ?_
        refine am_e_iload_n (am_nxt_of (i := (171, 1, .iload_n 3, (0, 0, 0), 0)) (by decide +kernel)) (v := u) rfl ?_
        by_cases hu : (u : Int32) = 0
        · refine am_e_ifT (am_nxt_of (i := (172, 3, .ifCond .eq 7, (92, 0, 0), 0)) (by decide +kernel)) (am_c_eqT hu) (am_tgt_of (by decide +kernel)) ?_
          refine am_e_iconst (w := 0) (am_nxt_of (i := (179, 1, .iconst 0, (0, 0, 0), 0)) (by decide +kernel)) rfl ?_
          refine am_e_goto (am_cur_of (i := (180, 3, .goto 12, (99, 0, 0), 0)) (by decide +kernel)) (am_tgt_of (by decide +kernel)) ?_
          exact hend _ (by decide) (by decide)
        · refine am_e_ifF (am_nxt_of (i := (172, 3, .ifCond .eq 7, (92, 0, 0), 0)) (by decide +kernel)) (am_c_eqF hu) ?_
          refine am_e_iconst (w := 3) (am_nxt_of (i := (175, 1, .iconst 3, (0, 0, 0), 0)) (by decide +kernel)) rfl ?_
          refine am_e_goto (am_cur_of (i := (176, 3, .goto 16, (99, 0, 0), 0)) (by decide +kernel)) (am_tgt_of (by decide +kernel)) ?_
          exact hend _ (by decide) (by decide)
      · refine am_e_ifF (am_nxt_of (i := (164, 3, .ifCond .eq 7, (88, 0, 0), 0)) (by decide +kernel)) (am_c_eqF he) ?_
        refine am_e_iconst (w := 1) (am_nxt_of (i := (167, 1, .iconst 1, (0, 0, 0), 0)) (by decide +kernel)) rfl ?_
        refine am_e_goto (am_cur_of (i := (168, 3, .goto 24, (99, 0, 0), 0)) (by decide +kernel)) (am_tgt_of (by decide +kernel)) ?_
        exact hend _ (by decide) (by decide)
    · refine am_e_cmpT (am_nxt_of (i := (160, 3, .if_icmp .ne 23, (94, 0, 0), 0)) (by decide +kernel)) (am_c_neT h60) (am_tgt_of (by decide +kernel)) ?_
      refine am_e_iload_n (am_nxt_of (i := (183, 1, .iload_n 2, (0, 0, 0), 0)) (by decide +kernel)) (v := e) rfl ?_
      by_cases he : (e : Int32) = 0
      · refine am_e_ifT (am_nxt_of (i := (184, 3, .ifCond .eq 7, (98, 0, 0), 0)) (by decide +kernel)) (am_c_eqT he) (am_tgt_of (by decide +kernel)) ?_
        refine am_e_iconst (w := 5) (am_nxt_of (i := (191, 1, .iconst 5, (0, 0, 0), 0)) (by decide +kernel)) rfl ?_
        exact hend _ (by decide) (by decide)
      · refine am_e_ifF (am_nxt_of (i := (184, 3, .ifCond .eq 7, (98, 0, 0), 0)) (by decide +kernel)) (am_c_eqF he) ?_
        refine am_e_iconst (w := 4) (am_nxt_of (i := (187, 1, .iconst 4, (0, 0, 0), 0)) (by decide +kernel)) rfl ?_
        refine am_e_goto (am_cur_of (i := (188, 3, .goto 4, (99, 0, 0), 0)) (by decide +kernel)) (am_tgt_of (by decide +kernel)) ?_
        exact hend _ (by decide) (by decide)
theorem ac_st_o {h : am_H} {n w : Int32} (e0 : h0 164 7 = .int n0) (hT : ac_Tk h0 n0 s n h) (hn : n0.toInt < n.toInt) (ew : h 164 9 = .int w) : am_Ek false am_G0 am_m156 101 [(0, .ref 164)] [] am_ks0 h 0 0 (ac_tkQ h0) := by
  have hend : ∀ x : Int32, am_Ek false am_G0 am_m156 136 [(0, .ref 164)] [.int x] am_ks0 h 0 0 (ac_tkQ h0) := by
    intro x
    refine am_e_istore_n (ls' := [(1, .int x), (0, .ref 164)]) (am_nxt_of (i := (275, 1, .istore_n 1, (0, 0, 0), 0)) (by decide +kernel)) (by decide +kernel) rfl ?_
    refine am_e_aload_n (am_nxt_of (i := (276, 1, .aload_n 0, (0, 0, 0), 0)) (by decide +kernel)) (v := 164) rfl ?_
    refine am_e_iload_n (am_nxt_of (i := (277, 1, .iload_n 1, (0, 0, 0), 0)) (by decide +kernel)) (v := x) rfl ?_
    by_cases hx : (x : Int32) = 0
    · refine am_e_ifT (am_nxt_of (i := (278, 3, .ifCond .eq 7, (142, 0, 0), 0)) (by decide +kernel)) (am_c_eqT hx) (am_tgt_of (by decide +kernel)) ?_
      refine am_e_bipush (w := 6) (am_nxt_of (i := (285, 2, .bipush 6, (0, 0, 0), 0)) (by decide +kernel)) (by decide) ?_
      have I1 := ac_p8 (v := 6) hT.1 (by decide) (by decide)
      refine am_e_putf (am_nxt_of (i := (287, 3, .putfield 157, (12, 8, 1392), 0)) (by decide +kernel)) ac_o rfl ?_
      exact am_e_vret (am_cur_of (i := (290, 1, .return_, (0, 0, 0), 0)) (by decide +kernel)) rfl rfl ⟨rfl, rfl, I1, ac_tk_of e0 (ac_Tk_up (Or.inl rfl) I1 hT) (k := 6) rfl (Or.inr hn) (w := w) ew ⟨fun q => absurd q (by decide), fun q => absurd q (by decide), fun q => absurd q (by decide)⟩⟩
    · refine am_e_ifF (am_nxt_of (i := (278, 3, .ifCond .eq 7, (142, 0, 0), 0)) (by decide +kernel)) (am_c_eqF hx) ?_
      refine am_e_iconst (w := 4) (am_nxt_of (i := (281, 1, .iconst 4, (0, 0, 0), 0)) (by decide +kernel)) rfl ?_
      refine am_e_goto (am_cur_of (i := (282, 3, .goto 5, (143, 0, 0), 0)) (by decide +kernel)) (am_tgt_of (by decide +kernel)) ?_
      have I1 := ac_p8 (v := 4) hT.1 (by decide) (by decide)
      refine am_e_putf (am_nxt_of (i := (287, 3, .putfield 157, (12, 8, 1392), 0)) (by decide +kernel)) ac_o rfl ?_
      exact am_e_vret (am_cur_of (i := (290, 1, .return_, (0, 0, 0), 0)) (by decide +kernel)) rfl rfl ⟨rfl, rfl, I1, ac_tk_of e0 (ac_Tk_up (Or.inl rfl) I1 hT) (k := 4) rfl (Or.inr hn) (w := w) ew ⟨fun q => absurd q (by decide), fun q => absurd q (by decide), fun q => absurd q (by decide)⟩⟩
  refine am_e_aload_n (am_nxt_of (i := (198, 1, .aload_n 0, (0, 0, 0), 0)) (by decide +kernel)) (v := 164) rfl ?_
  refine am_e_getf (v := .int w) (am_nxt_of (i := (199, 3, .getfield 168, (12, 9, 1393), 0)) (by decide +kernel)) ac_o ew ?_
  refine am_e_bipush (w := 59) (am_nxt_of (i := (202, 2, .bipush 59, (0, 0, 0), 0)) (by decide +kernel)) (by decide) ?_
  by_cases c0 : (w : Int32) = 59
  · refine am_e_cmpT (am_nxt_of (i := (204, 3, .if_icmp .eq 66, (133, 0, 0), 0)) (by decide +kernel)) (am_c_eqT c0) (am_tgt_of (by decide +kernel)) ?_
    refine am_e_iconst (w := 1) (am_nxt_of (i := (270, 1, .iconst 1, (0, 0, 0), 0)) (by decide +kernel)) rfl ?_
    refine am_e_goto (am_cur_of (i := (271, 3, .goto 4, (136, 0, 0), 0)) (by decide +kernel)) (am_tgt_of (by decide +kernel)) ?_
    exact hend _
  · refine am_e_cmpF (am_nxt_of (i := (204, 3, .if_icmp .eq 66, (133, 0, 0), 0)) (by decide +kernel)) (am_c_eqF c0) ?_
    refine am_e_aload_n (am_nxt_of (i := (207, 1, .aload_n 0, (0, 0, 0), 0)) (by decide +kernel)) (v := 164) rfl ?_
    refine am_e_getf (v := .int w) (am_nxt_of (i := (208, 3, .getfield 168, (12, 9, 1393), 0)) (by decide +kernel)) ac_o ew ?_
    refine am_e_bipush (w := 40) (am_nxt_of (i := (211, 2, .bipush 40, (0, 0, 0), 0)) (by decide +kernel)) (by decide) ?_
    by_cases c1 : (w : Int32) = 40
    · refine am_e_cmpT (am_nxt_of (i := (213, 3, .if_icmp .eq 57, (133, 0, 0), 0)) (by decide +kernel)) (am_c_eqT c1) (am_tgt_of (by decide +kernel)) ?_
      refine am_e_iconst (w := 1) (am_nxt_of (i := (270, 1, .iconst 1, (0, 0, 0), 0)) (by decide +kernel)) rfl ?_
      refine am_e_goto (am_cur_of (i := (271, 3, .goto 4, (136, 0, 0), 0)) (by decide +kernel)) (am_tgt_of (by decide +kernel)) ?_
      exact hend _
    · refine am_e_cmpF (am_nxt_of (i := (213, 3, .if_icmp .eq 57, (133, 0, 0), 0)) (by decide +kernel)) (am_c_eqF c1) ?_
      refine am_e_aload_n (am_nxt_of (i := (216, 1, .aload_n 0, (0, 0, 0), 0)) (by decide +kernel)) (v := 164) rfl ?_
      refine am_e_getf (v := .int w) (am_nxt_of (i := (217, 3, .getfield 168, (12, 9, 1393), 0)) (by decide +kernel)) ac_o ew ?_
      refine am_e_bipush (w := 41) (am_nxt_of (i := (220, 2, .bipush 41, (0, 0, 0), 0)) (by decide +kernel)) (by decide) ?_
      by_cases c2 : (w : Int32) = 41
      · refine am_e_cmpT (am_nxt_of (i := (222, 3, .if_icmp .eq 48, (133, 0, 0), 0)) (by decide +kernel)) (am_c_eqT c2) (am_tgt_of (by decide +kernel)) ?_
        refine am_e_iconst (w := 1) (am_nxt_of (i := (270, 1, .iconst 1, (0, 0, 0), 0)) (by decide +kernel)) rfl ?_
        refine am_e_goto (am_cur_of (i := (271, 3, .goto 4, (136, 0, 0), 0)) (by decide +kernel)) (am_tgt_of (by decide +kernel)) ?_
        exact hend _
      · refine am_e_cmpF (am_nxt_of (i := (222, 3, .if_icmp .eq 48, (133, 0, 0), 0)) (by decide +kernel)) (am_c_eqF c2) ?_
        refine am_e_aload_n (am_nxt_of (i := (225, 1, .aload_n 0, (0, 0, 0), 0)) (by decide +kernel)) (v := 164) rfl ?_
        refine am_e_getf (v := .int w) (am_nxt_of (i := (226, 3, .getfield 168, (12, 9, 1393), 0)) (by decide +kernel)) ac_o ew ?_
        refine am_e_bipush (w := 43) (am_nxt_of (i := (229, 2, .bipush 43, (0, 0, 0), 0)) (by decide +kernel)) (by decide) ?_
        by_cases c3 : (w : Int32) = 43
        · refine am_e_cmpT (am_nxt_of (i := (231, 3, .if_icmp .eq 39, (133, 0, 0), 0)) (by decide +kernel)) (am_c_eqT c3) (am_tgt_of (by decide +kernel)) ?_
          refine am_e_iconst (w := 1) (am_nxt_of (i := (270, 1, .iconst 1, (0, 0, 0), 0)) (by decide +kernel)) rfl ?_
          refine am_e_goto (am_cur_of (i := (271, 3, .goto 4, (136, 0, 0), 0)) (by decide +kernel)) (am_tgt_of (by decide +kernel)) ?_
          exact hend _
        · refine am_e_cmpF (am_nxt_of (i := (231, 3, .if_icmp .eq 39, (133, 0, 0), 0)) (by decide +kernel)) (am_c_eqF c3) ?_
          refine am_e_aload_n (am_nxt_of (i := (234, 1, .aload_n 0, (0, 0, 0), 0)) (by decide +kernel)) (v := 164) rfl ?_
          refine am_e_getf (v := .int w) (am_nxt_of (i := (235, 3, .getfield 168, (12, 9, 1393), 0)) (by decide +kernel)) ac_o ew ?_
          refine am_e_bipush (w := 45) (am_nxt_of (i := (238, 2, .bipush 45, (0, 0, 0), 0)) (by decide +kernel)) (by decide) ?_
          by_cases c4 : (w : Int32) = 45
          · refine am_e_cmpT (am_nxt_of (i := (240, 3, .if_icmp .eq 30, (133, 0, 0), 0)) (by decide +kernel)) (am_c_eqT c4) (am_tgt_of (by decide +kernel)) ?_
            refine am_e_iconst (w := 1) (am_nxt_of (i := (270, 1, .iconst 1, (0, 0, 0), 0)) (by decide +kernel)) rfl ?_
            refine am_e_goto (am_cur_of (i := (271, 3, .goto 4, (136, 0, 0), 0)) (by decide +kernel)) (am_tgt_of (by decide +kernel)) ?_
            exact hend _
          · refine am_e_cmpF (am_nxt_of (i := (240, 3, .if_icmp .eq 30, (133, 0, 0), 0)) (by decide +kernel)) (am_c_eqF c4) ?_
            refine am_e_aload_n (am_nxt_of (i := (243, 1, .aload_n 0, (0, 0, 0), 0)) (by decide +kernel)) (v := 164) rfl ?_
            refine am_e_getf (v := .int w) (am_nxt_of (i := (244, 3, .getfield 168, (12, 9, 1393), 0)) (by decide +kernel)) ac_o ew ?_
            refine am_e_bipush (w := 42) (am_nxt_of (i := (247, 2, .bipush 42, (0, 0, 0), 0)) (by decide +kernel)) (by decide) ?_
            by_cases c5 : (w : Int32) = 42
            · refine am_e_cmpT (am_nxt_of (i := (249, 3, .if_icmp .eq 21, (133, 0, 0), 0)) (by decide +kernel)) (am_c_eqT c5) (am_tgt_of (by decide +kernel)) ?_
              refine am_e_iconst (w := 1) (am_nxt_of (i := (270, 1, .iconst 1, (0, 0, 0), 0)) (by decide +kernel)) rfl ?_
              refine am_e_goto (am_cur_of (i := (271, 3, .goto 4, (136, 0, 0), 0)) (by decide +kernel)) (am_tgt_of (by decide +kernel)) ?_
              exact hend _
            · refine am_e_cmpF (am_nxt_of (i := (249, 3, .if_icmp .eq 21, (133, 0, 0), 0)) (by decide +kernel)) (am_c_eqF c5) ?_
              refine am_e_aload_n (am_nxt_of (i := (252, 1, .aload_n 0, (0, 0, 0), 0)) (by decide +kernel)) (v := 164) rfl ?_
              refine am_e_getf (v := .int w) (am_nxt_of (i := (253, 3, .getfield 168, (12, 9, 1393), 0)) (by decide +kernel)) ac_o ew ?_
              refine am_e_bipush (w := 47) (am_nxt_of (i := (256, 2, .bipush 47, (0, 0, 0), 0)) (by decide +kernel)) (by decide) ?_
              by_cases c6 : (w : Int32) = 47
              · refine am_e_cmpT (am_nxt_of (i := (258, 3, .if_icmp .eq 12, (133, 0, 0), 0)) (by decide +kernel)) (am_c_eqT c6) (am_tgt_of (by decide +kernel)) ?_
                refine am_e_iconst (w := 1) (am_nxt_of (i := (270, 1, .iconst 1, (0, 0, 0), 0)) (by decide +kernel)) rfl ?_
                refine am_e_goto (am_cur_of (i := (271, 3, .goto 4, (136, 0, 0), 0)) (by decide +kernel)) (am_tgt_of (by decide +kernel)) ?_
                exact hend _
              · refine am_e_cmpF (am_nxt_of (i := (258, 3, .if_icmp .eq 12, (133, 0, 0), 0)) (by decide +kernel)) (am_c_eqF c6) ?_
                refine am_e_aload_n (am_nxt_of (i := (261, 1, .aload_n 0, (0, 0, 0), 0)) (by decide +kernel)) (v := 164) rfl ?_
                refine am_e_getf (v := .int w) (am_nxt_of (i := (262, 3, .getfield 168, (12, 9, 1393), 0)) (by decide +kernel)) ac_o ew ?_
                refine am_e_bipush (w := 37) (am_nxt_of (i := (265, 2, .bipush 37, (0, 0, 0), 0)) (by decide +kernel)) (by decide) ?_
                by_cases c7 : (w : Int32) = 37
                · refine am_e_cmpF (am_nxt_of (i := (267, 3, .if_icmp .ne 7, (135, 0, 0), 0)) (by decide +kernel)) (am_c_neF c7) ?_
                  refine am_e_iconst (w := 1) (am_nxt_of (i := (270, 1, .iconst 1, (0, 0, 0), 0)) (by decide +kernel)) rfl ?_
                  refine am_e_goto (am_cur_of (i := (271, 3, .goto 4, (136, 0, 0), 0)) (by decide +kernel)) (am_tgt_of (by decide +kernel)) ?_
                  exact hend _
                · refine am_e_cmpT (am_nxt_of (i := (267, 3, .if_icmp .ne 7, (135, 0, 0), 0)) (by decide +kernel)) (am_c_neT c7) (am_tgt_of (by decide +kernel)) ?_
                  refine am_e_iconst (w := 0) (am_nxt_of (i := (274, 1, .iconst 0, (0, 0, 0), 0)) (by decide +kernel)) rfl ?_
                  exact hend _
theorem ac_signToken {h : am_H} {n : Int32} (e0 : h0 164 7 = .int n0) (hT : ac_Tk h0 n0 s n h) (hn : n.toInt < s.toInt) : am_Ek false am_G0 am_m156 0 (lv_args 0 [.ref 164]) [] am_ks0 h 0 0 (ac_tkQ h0) := by
  obtain ⟨t5, t6, t7, t8⟩ := hT.2.2.2.2
  have hix := ab_ix (x := n) (n := 700) (by omega) (by omega)
  obtain ⟨x, ex, -⟩ := ac_r165 hT.1 (q := n.toNatClampNeg) (Nat.lt_of_not_le (fun q => hix (Or.inr q)))
  refine am_e_aload_n (am_nxt_of (i := (0, 1, .aload_n 0, (0, 0, 0), 0)) (by decide +kernel)) (v := 164) rfl ?_
  refine am_e_aload_n (am_nxt_of (i := (1, 1, .aload_n 0, (0, 0, 0), 0)) (by decide +kernel)) (v := 164) rfl ?_
  refine am_e_getf (am_nxt_of (i := (2, 3, .getfield 7, (12, 0, 1384), 0)) (by decide +kernel)) ac_o (ac_f0 hT.1) ?_
  refine am_e_aload_n (am_nxt_of (i := (5, 1, .aload_n 0, (0, 0, 0), 0)) (by decide +kernel)) (v := 164) rfl ?_
  refine am_e_getf (v := .int n) (am_nxt_of (i := (6, 3, .getfield 154, (12, 7, 1391), 0)) (by decide +kernel)) ac_o hT.2.2.2.1 ?_
  refine am_e_iaload (v := x) (am_nxt_of (i := (9, 1, .iaload, (0, 0, 0), 0)) (by decide +kernel)) ac_k165 hix rfl ex ?_
  have I1 := ac_p9 (v := x) hT.1 (ab_32 x).1 (ab_32 x).2
  refine am_e_putf (am_nxt_of (i := (10, 3, .putfield 168, (12, 9, 1393), 0)) (by decide +kernel)) ac_o rfl ?_
  have T1 := ac_Tk_up (Or.inr (Or.inl rfl)) I1 hT
  refine am_e_aload_n (am_nxt_of (i := (13, 1, .aload_n 0, (0, 0, 0), 0)) (by decide +kernel)) (v := 164) rfl ?_
  refine am_e_dup (am_nxt_of (i := (14, 1, .dup, (0, 0, 0), 0)) (by decide +kernel)) rfl ?_
  refine am_e_getf (v := .int n) (am_nxt_of (i := (15, 3, .getfield 154, (12, 7, 1391), 0)) (by decide +kernel)) ac_o T1.2.2.2.1 ?_
  refine am_e_iconst (w := 1) (am_nxt_of (i := (18, 1, .iconst 1, (0, 0, 0), 0)) (by decide +kernel)) rfl ?_
  refine am_e_iadd (w := n + 1) (am_nxt_of (i := (19, 1, .iadd, (0, 0, 0), 0)) (by decide +kernel)) rfl ?_
  have T2 := ac_Tk_nx T1 hn
  refine am_e_putf (am_nxt_of (i := (20, 3, .putfield 154, (12, 7, 1391), 0)) (by decide +kernel)) ac_o rfl ?_
  have ew : (am_up (am_up h 164 9 (.int x)) 164 7 (.int (n + 1))) 164 9 = .int x := rfl
  have e1 := ac_c1 (x := n) (by omega) (by omega)
  generalize am_up (am_up h 164 9 (.int x)) 164 7 (.int (n + 1)) = g at T2 ew ⊢
  have hn2 : n0.toInt < (n + 1).toInt := by omega
  have hcmp : am_Ek false am_G0 am_m156 25 [(0, .ref 164)] [] am_ks0 g 0 0 (ac_tkQ h0) := by
    have hgo : ∀ t : Int32, ((n + 1).toInt < s.toInt ∨ t = 0) → am_Ek false am_G0 am_m156 37 [(0, .ref 164)] [.int t] am_ks0 g 0 0 (ac_tkQ h0) := by
      intro t ht
      refine am_e_istore_n (ls' := [(1, .int t), (0, .ref 164)]) (am_nxt_of (i := (74, 1, .istore_n 1, (0, 0, 0), 0)) (by decide +kernel)) (by decide +kernel) rfl ?_
      refine am_e_aload_n (am_nxt_of (i := (75, 1, .aload_n 0, (0, 0, 0), 0)) (by decide +kernel)) (v := 164) rfl ?_
      refine am_e_getf (v := .int x) (am_nxt_of (i := (76, 3, .getfield 168, (12, 9, 1393), 0)) (by decide +kernel)) ac_o ew ?_
      refine am_e_bipush (w := 61) (am_nxt_of (i := (79, 2, .bipush 61, (0, 0, 0), 0)) (by decide +kernel)) (by decide) ?_
      have hun : ∀ e : Int32, (e = 1 → t = 61) → (e = 0 ∨ e = 1) → am_Ek false am_G0 am_m156 48 [(1, .int t), (0, .ref 164)] [.int e] am_ks0 g 0 0 (ac_tkQ h0) := by
        intro e he he01
        refine am_e_istore_n (ls' := [(2, .int e), (1, .int t), (0, .ref 164)]) (am_nxt_of (i := (95, 1, .istore_n 2, (0, 0, 0), 0)) (by decide +kernel)) (by decide +kernel) rfl ?_
        refine am_e_aload_n (am_nxt_of (i := (96, 1, .aload_n 0, (0, 0, 0), 0)) (by decide +kernel)) (v := 164) rfl ?_
        refine am_e_getf (v := .int x) (am_nxt_of (i := (97, 3, .getfield 168, (12, 9, 1393), 0)) (by decide +kernel)) ac_o ew ?_
        refine am_e_bipush (w := 60) (am_nxt_of (i := (100, 2, .bipush 60, (0, 0, 0), 0)) (by decide +kernel)) (by decide) ?_
        have hnx : ∀ u : Int32, (u = 1 → t = 62) → (u = 0 ∨ u = 1) → (e = 0 ∨ e = 1) → am_Ek false am_G0 am_m156 59 [(2, .int e), (1, .int t), (0, .ref 164)] [.int u] am_ks0 g 0 0 (ac_tkQ h0) := by
          intro u hu u01 e01
          refine am_e_istore_n (ls' := [(3, .int u), (2, .int e), (1, .int t), (0, .ref 164)]) (am_nxt_of (i := (116, 1, .istore_n 3, (0, 0, 0), 0)) (by decide +kernel)) (by decide +kernel) rfl ?_
          refine am_e_iload_n (am_nxt_of (i := (117, 1, .iload_n 2, (0, 0, 0), 0)) (by decide +kernel)) (v := e) rfl ?_
          by_cases h2 : (e : Int32) = 0
          · refine am_e_ifF (am_nxt_of (i := (118, 3, .ifCond .ne 7, (64, 0, 0), 0)) (by decide +kernel)) (am_c_neF h2) ?_
            refine am_e_iload_n (am_nxt_of (i := (121, 1, .iload_n 3, (0, 0, 0), 0)) (by decide +kernel)) (v := u) rfl ?_
            by_cases h3 : (u : Int32) = 0
            · refine am_e_ifT (am_nxt_of (i := (122, 3, .ifCond .eq 13, (70, 0, 0), 0)) (by decide +kernel)) (am_c_eqT h3) (am_tgt_of (by decide +kernel)) ?_
              refine am_Ek_ls (ls' := [(0, .ref 164), (1, .int t), (2, .int e), (3, .int u)]) ⟨rfl, rfl, rfl, rfl, trivial⟩ ?_
              exact ac_st_c e0 T2 hn2 ew
            · refine am_e_ifF (am_nxt_of (i := (122, 3, .ifCond .eq 13, (70, 0, 0), 0)) (by decide +kernel)) (am_c_eqF h3) ?_
              have t61 : (n + 1).toInt < s.toInt := by
                rcases ht with q | q
                · exact q
                · exact absurd (hu (by rcases u01 with q1 | q1; exact absurd q1 h3; exact q1)) (by rw [q]; decide)
              refine am_e_aload_n (am_nxt_of (i := (125, 1, .aload_n 0, (0, 0, 0), 0)) (by decide +kernel)) (v := 164) rfl ?_
              refine am_e_dup (am_nxt_of (i := (126, 1, .dup, (0, 0, 0), 0)) (by decide +kernel)) rfl ?_
              refine am_e_getf (v := .int (n + 1)) (am_nxt_of (i := (127, 3, .getfield 154, (12, 7, 1391), 0)) (by decide +kernel)) ac_o T2.2.2.2.1 ?_
              refine am_e_iconst (w := 1) (am_nxt_of (i := (130, 1, .iconst 1, (0, 0, 0), 0)) (by decide +kernel)) rfl ?_
              refine am_e_iadd (w := (n + 1) + 1) (am_nxt_of (i := (131, 1, .iadd, (0, 0, 0), 0)) (by decide +kernel)) rfl ?_
              have T3 := ac_Tk_nx T2 t61
              refine am_e_putf (am_nxt_of (i := (132, 3, .putfield 154, (12, 7, 1391), 0)) (by decide +kernel)) ac_o rfl ?_
              refine am_Ek_ls (ls' := [(0, .ref 164), (1, .int t), (2, .int e), (3, .int u)]) ⟨rfl, rfl, rfl, rfl, trivial⟩ ?_
              have e2 := ac_c1 (x := n + 1) (by omega) (by omega)
              exact ac_st_c e0 T3 (by omega) (w := x) (by rw [am_up_same _ _ _ _ _ (by decide)]; exact ew)
          · refine am_e_ifT (am_nxt_of (i := (118, 3, .ifCond .ne 7, (64, 0, 0), 0)) (by decide +kernel)) (am_c_neT h2) (am_tgt_of (by decide +kernel)) ?_
            have t61 : (n + 1).toInt < s.toInt := by
              rcases ht with q | q
              · exact q
              · exact absurd (he (by rcases e01 with q1 | q1; exact absurd q1 h2; exact q1)) (by rw [q]; decide)
            refine am_e_aload_n (am_nxt_of (i := (125, 1, .aload_n 0, (0, 0, 0), 0)) (by decide +kernel)) (v := 164) rfl ?_
            refine am_e_dup (am_nxt_of (i := (126, 1, .dup, (0, 0, 0), 0)) (by decide +kernel)) rfl ?_
            refine am_e_getf (v := .int (n + 1)) (am_nxt_of (i := (127, 3, .getfield 154, (12, 7, 1391), 0)) (by decide +kernel)) ac_o T2.2.2.2.1 ?_
            refine am_e_iconst (w := 1) (am_nxt_of (i := (130, 1, .iconst 1, (0, 0, 0), 0)) (by decide +kernel)) rfl ?_
            refine am_e_iadd (w := (n + 1) + 1) (am_nxt_of (i := (131, 1, .iadd, (0, 0, 0), 0)) (by decide +kernel)) rfl ?_
            have T3 := ac_Tk_nx T2 t61
            refine am_e_putf (am_nxt_of (i := (132, 3, .putfield 154, (12, 7, 1391), 0)) (by decide +kernel)) ac_o rfl ?_
            refine am_Ek_ls (ls' := [(0, .ref 164), (1, .int t), (2, .int e), (3, .int u)]) ⟨rfl, rfl, rfl, rfl, trivial⟩ ?_
            have e2 := ac_c1 (x := n + 1) (by omega) (by omega)
            exact ac_st_c e0 T3 (by omega) (w := x) (by rw [am_up_same _ _ _ _ _ (by decide)]; exact ew)

        by_cases c60 : (x : Int32) = 60
        · refine am_e_cmpF (am_nxt_of (i := (102, 3, .if_icmp .ne 13, (58, 0, 0), 0)) (by decide +kernel)) (am_c_neF c60) ?_
          refine am_e_iload_n (am_nxt_of (i := (105, 1, .iload_n 1, (0, 0, 0), 0)) (by decide +kernel)) (v := t) rfl ?_
          refine am_e_bipush (w := 62) (am_nxt_of (i := (106, 2, .bipush 62, (0, 0, 0), 0)) (by decide +kernel)) (by decide) ?_
          by_cases c62 : (t : Int32) = 62
          · refine am_e_cmpF (am_nxt_of (i := (108, 3, .if_icmp .ne 7, (58, 0, 0), 0)) (by decide +kernel)) (am_c_neF c62) ?_
            refine am_e_iconst (w := 1) (am_nxt_of (i := (111, 1, .iconst 1, (0, 0, 0), 0)) (by decide +kernel)) rfl ?_
            refine am_e_goto (am_cur_of (i := (112, 3, .goto 4, (59, 0, 0), 0)) (by decide +kernel)) (am_tgt_of (by decide +kernel)) ?_
            exact hnx _ (fun _ => c62) (by decide) he01
          · refine am_e_cmpT (am_nxt_of (i := (108, 3, .if_icmp .ne 7, (58, 0, 0), 0)) (by decide +kernel)) (am_c_neT c62) (am_tgt_of (by decide +kernel)) ?_
            refine am_e_iconst (w := 0) (am_nxt_of (i := (115, 1, .iconst 0, (0, 0, 0), 0)) (by decide +kernel)) rfl ?_
            exact hnx _ (fun q => absurd q (by decide)) (by decide) he01
        · refine am_e_cmpT (am_nxt_of (i := (102, 3, .if_icmp .ne 13, (58, 0, 0), 0)) (by decide +kernel)) (am_c_neT c60) (am_tgt_of (by decide +kernel)) ?_
          refine am_e_iconst (w := 0) (am_nxt_of (i := (115, 1, .iconst 0, (0, 0, 0), 0)) (by decide +kernel)) rfl ?_
          exact hnx _ (fun q => absurd q (by decide)) (by decide) he01
      by_cases c61 : (x : Int32) = 61
      · refine am_e_cmpT (am_nxt_of (i := (81, 3, .if_icmp .eq 13, (47, 0, 0), 0)) (by decide +kernel)) (am_c_eqT c61) (am_tgt_of (by decide +kernel)) ?_
        refine am_e_iconst (w := 0) (am_nxt_of (i := (94, 1, .iconst 0, (0, 0, 0), 0)) (by decide +kernel)) rfl ?_
        exact hun _ (fun q => absurd q (by decide)) (by decide)
      · refine am_e_cmpF (am_nxt_of (i := (81, 3, .if_icmp .eq 13, (47, 0, 0), 0)) (by decide +kernel)) (am_c_eqF c61) ?_
        refine am_e_iload_n (am_nxt_of (i := (84, 1, .iload_n 1, (0, 0, 0), 0)) (by decide +kernel)) (v := t) rfl ?_
        refine am_e_bipush (w := 61) (am_nxt_of (i := (85, 2, .bipush 61, (0, 0, 0), 0)) (by decide +kernel)) (by decide) ?_
        by_cases c61b : (t : Int32) = 61
        · refine am_e_cmpF (am_nxt_of (i := (87, 3, .if_icmp .ne 7, (47, 0, 0), 0)) (by decide +kernel)) (am_c_neF c61b) ?_
          refine am_e_iconst (w := 1) (am_nxt_of (i := (90, 1, .iconst 1, (0, 0, 0), 0)) (by decide +kernel)) rfl ?_
          refine am_e_goto (am_cur_of (i := (91, 3, .goto 4, (48, 0, 0), 0)) (by decide +kernel)) (am_tgt_of (by decide +kernel)) ?_
          exact hun _ (fun _ => c61b) (by decide)
        · refine am_e_cmpT (am_nxt_of (i := (87, 3, .if_icmp .ne 7, (47, 0, 0), 0)) (by decide +kernel)) (am_c_neT c61b) (am_tgt_of (by decide +kernel)) ?_
          refine am_e_iconst (w := 0) (am_nxt_of (i := (94, 1, .iconst 0, (0, 0, 0), 0)) (by decide +kernel)) rfl ?_
          exact hun _ (fun q => absurd q (by decide)) (by decide)
    refine am_e_aload_n (am_nxt_of (i := (50, 1, .aload_n 0, (0, 0, 0), 0)) (by decide +kernel)) (v := 164) rfl ?_
    refine am_e_getf (v := .int (n + 1)) (am_nxt_of (i := (51, 3, .getfield 154, (12, 7, 1391), 0)) (by decide +kernel)) ac_o T2.2.2.2.1 ?_
    refine am_e_aload_n (am_nxt_of (i := (54, 1, .aload_n 0, (0, 0, 0), 0)) (by decide +kernel)) (v := 164) rfl ?_
    refine am_e_getf (v := .int s) (am_nxt_of (i := (55, 3, .getfield 151, (12, 6, 1390), 0)) (by decide +kernel)) ac_o T2.2.2.1 ?_
    by_cases hlt : (n + 1 : Int32) < s
    · refine am_e_cmpF (am_nxt_of (i := (58, 3, .if_icmp .ge 15, (36, 0, 0), 0)) (by decide +kernel)) (am_c_geF hlt) ?_
      have l1 := ac_lt' hlt
      have hix2 := ab_ix (x := n + 1) (n := 700) (by omega) (by omega)
      obtain ⟨y, ey, -⟩ := ac_r165 T2.1 (q := (n + 1).toNatClampNeg) (Nat.lt_of_not_le (fun q => hix2 (Or.inr q)))
      refine am_e_aload_n (am_nxt_of (i := (61, 1, .aload_n 0, (0, 0, 0), 0)) (by decide +kernel)) (v := 164) rfl ?_
      refine am_e_getf (am_nxt_of (i := (62, 3, .getfield 7, (12, 0, 1384), 0)) (by decide +kernel)) ac_o (ac_f0 T2.1) ?_
      refine am_e_aload_n (am_nxt_of (i := (65, 1, .aload_n 0, (0, 0, 0), 0)) (by decide +kernel)) (v := 164) rfl ?_
      refine am_e_getf (v := .int (n + 1)) (am_nxt_of (i := (66, 3, .getfield 154, (12, 7, 1391), 0)) (by decide +kernel)) ac_o T2.2.2.2.1 ?_
      refine am_e_iaload (v := y) (am_nxt_of (i := (69, 1, .iaload, (0, 0, 0), 0)) (by decide +kernel)) ac_k165 hix2 rfl ey ?_
      refine am_e_goto (am_cur_of (i := (70, 3, .goto 4, (37, 0, 0), 0)) (by decide +kernel)) (am_tgt_of (by decide +kernel)) ?_
      exact hgo _ (Or.inl l1)
    · refine am_e_cmpT (am_nxt_of (i := (58, 3, .if_icmp .ge 15, (36, 0, 0), 0)) (by decide +kernel)) (am_c_geT hlt) (am_tgt_of (by decide +kernel)) ?_
      refine am_e_iconst (w := 0) (am_nxt_of (i := (73, 1, .iconst 0, (0, 0, 0), 0)) (by decide +kernel)) rfl ?_
      exact hgo _ (Or.inr rfl)
  refine am_e_aload_n (am_nxt_of (i := (23, 1, .aload_n 0, (0, 0, 0), 0)) (by decide +kernel)) (v := 164) rfl ?_
  refine am_e_getf (v := .int x) (am_nxt_of (i := (24, 3, .getfield 168, (12, 9, 1393), 0)) (by decide +kernel)) ac_o ew ?_
  refine am_e_bipush (w := 60) (am_nxt_of (i := (27, 2, .bipush 60, (0, 0, 0), 0)) (by decide +kernel)) (by decide) ?_
  by_cases d60 : (x : Int32) = 60
  · refine am_e_cmpT (am_nxt_of (i := (29, 3, .if_icmp .eq 21, (25, 0, 0), 0)) (by decide +kernel)) (am_c_eqT d60) (am_tgt_of (by decide +kernel)) ?_
    exact hcmp
  · refine am_e_cmpF (am_nxt_of (i := (29, 3, .if_icmp .eq 21, (25, 0, 0), 0)) (by decide +kernel)) (am_c_eqF d60) ?_
    refine am_e_aload_n (am_nxt_of (i := (32, 1, .aload_n 0, (0, 0, 0), 0)) (by decide +kernel)) (v := 164) rfl ?_
    refine am_e_getf (v := .int x) (am_nxt_of (i := (33, 3, .getfield 168, (12, 9, 1393), 0)) (by decide +kernel)) ac_o ew ?_
    refine am_e_bipush (w := 62) (am_nxt_of (i := (36, 2, .bipush 62, (0, 0, 0), 0)) (by decide +kernel)) (by decide) ?_
    by_cases d62 : (x : Int32) = 62
    · refine am_e_cmpT (am_nxt_of (i := (38, 3, .if_icmp .eq 12, (25, 0, 0), 0)) (by decide +kernel)) (am_c_eqT d62) (am_tgt_of (by decide +kernel)) ?_
      exact hcmp
    · refine am_e_cmpF (am_nxt_of (i := (38, 3, .if_icmp .eq 12, (25, 0, 0), 0)) (by decide +kernel)) (am_c_eqF d62) ?_
      refine am_e_aload_n (am_nxt_of (i := (41, 1, .aload_n 0, (0, 0, 0), 0)) (by decide +kernel)) (v := 164) rfl ?_
      refine am_e_getf (v := .int x) (am_nxt_of (i := (42, 3, .getfield 168, (12, 9, 1393), 0)) (by decide +kernel)) ac_o ew ?_
      refine am_e_bipush (w := 61) (am_nxt_of (i := (45, 2, .bipush 61, (0, 0, 0), 0)) (by decide +kernel)) (by decide) ?_
      by_cases d61 : (x : Int32) = 61
      · refine am_e_cmpF (am_nxt_of (i := (47, 3, .if_icmp .ne 151, (101, 0, 0), 0)) (by decide +kernel)) (am_c_neF d61) ?_
        exact hcmp
      · refine am_e_cmpT (am_nxt_of (i := (47, 3, .if_icmp .ne 151, (101, 0, 0), 0)) (by decide +kernel)) (am_c_neT d61) (am_tgt_of (by decide +kernel)) ?_
        exact ac_st_o e0 T2 hn2 ew
end ACT
