/-! ===== THE MODEL'S STACKS: waitsFor, dropHeld, grown (wip/s/tpl/87.tpl) ===== -/
section ABST
variable {h : am_H}
theorem ab_waitsFor {k w : Int32} (hI : ab_Inv (ab_hi ab_tab) h) (ew : h 164 41 = .int w) (w0 : 0 ≤ w.toInt) (w1 : w.toInt ≤ 95) : am_Ek false am_G0 am_m173 0 (lv_args 0 [.ref 164, .int k]) [] am_ks0 h 0 0 (fun r ks h' => ks = am_ks0 ∧ r = none ∧ h' = am_up (am_up h 184 w.toNatClampNeg (.int k)) 164 41 (.int (w + 1))) := by
  have q1 : am_ks0[164]? = some (.inl 12) := by decide +kernel
  have k4 : am_ks0[184]? = some (.inr (.int, 96)) := by decide +kernel
  have z : ab_sz (.inl 12) = 81 := rfl
  have f39 : h 164 39 = .ref 184 := ab_ref1 hI q1 (by rw [z]; decide) (by decide +kernel)
  have hix := ab_ix (x := w) (n := 96) w0 (by omega)
  have e41 : am_up h 184 w.toNatClampNeg (.int k) 164 41 = .int w := by
    rw [am_up_other _ _ _ _ _ (by decide)]
    exact ew
  refine am_e_aload_n (am_nxt_of (i := (0, 1, .aload_n 0, (0, 0, 0), 0)) (by decide +kernel)) (v := 164) rfl ?_
  refine am_e_getf (am_nxt_of (i := (1, 3, .getfield 72, (12, 39, 1423), 0)) (by decide +kernel)) q1 f39 ?_
  refine am_e_aload_n (am_nxt_of (i := (4, 1, .aload_n 0, (0, 0, 0), 0)) (by decide +kernel)) (v := 164) rfl ?_
  refine am_e_getf (am_nxt_of (i := (5, 3, .getfield 280, (12, 41, 1425), 0)) (by decide +kernel)) q1 ew ?_
  refine am_e_iload_n (am_nxt_of (i := (8, 1, .iload_n 1, (0, 0, 0), 0)) (by decide +kernel)) (v := k) rfl ?_
  refine am_e_iastore (am_nxt_of (i := (9, 1, .iastore, (0, 0, 0), 0)) (by decide +kernel)) k4 hix rfl ?_
  refine am_e_aload_n (am_nxt_of (i := (10, 1, .aload_n 0, (0, 0, 0), 0)) (by decide +kernel)) (v := 164) rfl ?_
  refine am_e_dup (am_nxt_of (i := (11, 1, .dup, (0, 0, 0), 0)) (by decide +kernel)) rfl ?_
  refine am_e_getf (am_nxt_of (i := (12, 3, .getfield 280, (12, 41, 1425), 0)) (by decide +kernel)) q1 e41 ?_
  refine am_e_iconst (w := 1) (am_nxt_of (i := (15, 1, .iconst 1, (0, 0, 0), 0)) (by decide +kernel)) rfl ?_
  refine am_e_iadd (am_nxt_of (i := (16, 1, .iadd, (0, 0, 0), 0)) (by decide +kernel)) rfl ?_
  refine am_e_putf (am_nxt_of (i := (17, 3, .putfield 280, (12, 41, 1425), 0)) (by decide +kernel)) q1 rfl ?_
  exact am_e_vret (am_cur_of (i := (20, 1, .return_, (0, 0, 0), 0)) (by decide +kernel)) rfl rfl ⟨rfl, rfl, rfl⟩
theorem ab_dropHeld {n : Int32} (hI : ab_Inv (ab_hi ab_tab) h) (en : h 164 42 = .int n) (n0 : 1 ≤ n.toInt) (n1 : n.toInt ≤ 96) : am_Ek false am_G0 am_m181 0 (lv_args 0 [.ref 164]) [] am_ks0 h 0 0 (fun r ks h' => ks = am_ks0 ∧ h' = am_up h 164 42 (.int (n - 1)) ∧ ∃ x : Int32, r = some (.int x) ∧ 0 ≤ x.toInt ∧ x.toInt ≤ 63) := by
  have q1 : am_ks0[164]? = some (.inl 12) := by decide +kernel
  have k5 : am_ks0[185]? = some (.inr (.int, 96)) := by decide +kernel
  have z : ab_sz (.inl 12) = 81 := rfl
  have f40 : h 164 40 = .ref 185 := ab_ref1 hI q1 (by rw [z]; decide) (by decide +kernel)
  have e1 : (1 : Int32).toInt = 1 := by decide
  have em : (n - 1).toInt = n.toInt - 1 := by rw [ab_isub (by omega) (by omega), e1]
  have hix := ab_ix (x := n - 1) (n := 96) (by omega) (by omega)
  have g := hI 185 (n - 1).toNatClampNeg _ k5 (Nat.lt_of_not_le (fun q => hix (Or.inr q)))
  rw [ab_hi_arr (show ab_isA ab_tab 185 = true by decide +kernel), show ab_hi ab_tab 185 0 = ab_i 0 63 by decide +kernel] at g
  obtain ⟨x, ex, x0, x1⟩ := g
  refine am_e_aload_n (am_nxt_of (i := (0, 1, .aload_n 0, (0, 0, 0), 0)) (by decide +kernel)) (v := 164) rfl ?_
  refine am_e_dup (am_nxt_of (i := (1, 1, .dup, (0, 0, 0), 0)) (by decide +kernel)) rfl ?_
  refine am_e_getf (am_nxt_of (i := (2, 3, .getfield 277, (12, 42, 1426), 0)) (by decide +kernel)) q1 en ?_
  refine am_e_iconst (w := 1) (am_nxt_of (i := (5, 1, .iconst 1, (0, 0, 0), 0)) (by decide +kernel)) rfl ?_
  refine am_e_isub (am_nxt_of (i := (6, 1, .isub, (0, 0, 0), 0)) (by decide +kernel)) rfl ?_
  refine am_e_putf (am_nxt_of (i := (7, 3, .putfield 277, (12, 42, 1426), 0)) (by decide +kernel)) q1 rfl ?_
  refine am_e_aload_n (am_nxt_of (i := (10, 1, .aload_n 0, (0, 0, 0), 0)) (by decide +kernel)) (v := 164) rfl ?_
  refine am_e_getf (am_nxt_of (i := (11, 3, .getfield 75, (12, 40, 1424), 0)) (by decide +kernel)) q1 ((am_up_same _ _ _ _ _ (by decide)).trans f40) ?_
  refine am_e_aload_n (am_nxt_of (i := (14, 1, .aload_n 0, (0, 0, 0), 0)) (by decide +kernel)) (v := 164) rfl ?_
  refine am_e_getf (am_nxt_of (i := (15, 3, .getfield 277, (12, 42, 1426), 0)) (by decide +kernel)) q1 (am_up_self _ _ _ _) ?_
  refine am_e_iaload (am_nxt_of (i := (18, 1, .iaload, (0, 0, 0), 0)) (by decide +kernel)) k5 hix rfl ((congrFun (am_up_other _ _ _ _ _ (by decide)) _).trans ex) ?_
  exact am_e_iret (ty := .int) (am_cur_of (i := (19, 1, .ireturn, (0, 0, 0), 0)) (by decide +kernel)) rfl rfl rfl ⟨rfl, rfl, x, rfl, x0, x1⟩
theorem ab_grown {k a b n m : Int32} (hI : ab_Inv (ab_hi ab_tab) h) (er : h 164 21 = .int n) (n0 : 0 ≤ n.toInt) (n1 : n.toInt ≤ 63) (em : h 164 42 = .int m) (m0 : 0 ≤ m.toInt) (m1 : m.toInt ≤ 95) : am_Ek false am_G0 am_m177 0 (lv_args 0 [.ref 164, .int k, .int a, .int b]) [] am_ks0 h 0 0 (fun r ks h' => ks = am_ks0 ∧ r = none ∧ h' = am_up (am_up (am_up (am_up (am_up (am_up h 181 (64 + n.toInt.toNat) (.int k)) 182 (64 + n.toInt.toNat) (.int a)) 183 (64 + n.toInt.toNat) (.int b)) 185 m.toNatClampNeg (.int n)) 164 42 (.int (m + 1))) 164 21 (.int (n + 1))) := by
  have q1 : am_ks0[164]? = some (.inl 12) := by decide +kernel
  have k1 : am_ks0[181]? = some (.inr (.int, 128)) := by decide +kernel
  have k2 : am_ks0[182]? = some (.inr (.int, 128)) := by decide +kernel
  have k3 : am_ks0[183]? = some (.inr (.int, 128)) := by decide +kernel
  have k5 : am_ks0[185]? = some (.inr (.int, 96)) := by decide +kernel
  have z : ab_sz (.inl 12) = 81 := rfl
  have f36 : h 164 36 = .ref 181 := ab_ref1 hI q1 (by rw [z]; decide) (by decide +kernel)
  have f37 : h 164 37 = .ref 182 := ab_ref1 hI q1 (by rw [z]; decide) (by decide +kernel)
  have f38 : h 164 38 = .ref 183 := ab_ref1 hI q1 (by rw [z]; decide) (by decide +kernel)
  have f40 : h 164 40 = .ref 185 := ab_ref1 hI q1 (by rw [z]; decide) (by decide +kernel)
  have e64 : (64 : Int32).toInt = 64 := by decide
  have es : ((64 : Int32) + n).toInt = 64 + n.toInt := by rw [ab_iadd (by omega) (by omega), e64]
  have hix := ab_ix (x := (64 : Int32) + n) (n := 128) (by omega) (by omega)
  have hq : ((64 : Int32) + n).toNatClampNeg = 64 + n.toInt.toNat := ab_clamp (by omega)
  have him := ab_ix (x := m) (n := 96) m0 (by omega)
  have o1 : ∀ (g : am_H) (p : Nat) (v : Value) (j : Nat), am_up g 181 p v 164 j = g 164 j := fun g p v j => by rw [am_up_other _ _ _ _ _ (by decide)]
  have o2 : ∀ (g : am_H) (p : Nat) (v : Value) (j : Nat), am_up g 182 p v 164 j = g 164 j := fun g p v j => by rw [am_up_other _ _ _ _ _ (by decide)]
  have o3 : ∀ (g : am_H) (p : Nat) (v : Value) (j : Nat), am_up g 183 p v 164 j = g 164 j := fun g p v j => by rw [am_up_other _ _ _ _ _ (by decide)]
  have o5 : ∀ (g : am_H) (p : Nat) (v : Value) (j : Nat), am_up g 185 p v 164 j = g 164 j := fun g p v j => by rw [am_up_other _ _ _ _ _ (by decide)]
  refine am_e_aload_n (am_nxt_of (i := (0, 1, .aload_n 0, (0, 0, 0), 0)) (by decide +kernel)) (v := 164) rfl ?_
  refine am_e_getf (am_nxt_of (i := (1, 3, .getfield 63, (12, 36, 1420), 0)) (by decide +kernel)) q1 f36 ?_
  refine am_e_bipush (w := 64) (am_nxt_of (i := (4, 2, .bipush 64, (0, 0, 0), 0)) (by decide +kernel)) (by decide) ?_
  refine am_e_aload_n (am_nxt_of (i := (6, 1, .aload_n 0, (0, 0, 0), 0)) (by decide +kernel)) (v := 164) rfl ?_
  refine am_e_getf (am_nxt_of (i := (7, 3, .getfield 213, (12, 21, 1405), 0)) (by decide +kernel)) q1 er ?_
  refine am_e_iadd (am_nxt_of (i := (10, 1, .iadd, (0, 0, 0), 0)) (by decide +kernel)) rfl ?_
  refine am_e_iload_n (am_nxt_of (i := (11, 1, .iload_n 1, (0, 0, 0), 0)) (by decide +kernel)) (v := k) rfl ?_
  refine am_e_iastore (am_nxt_of (i := (12, 1, .iastore, (0, 0, 0), 0)) (by decide +kernel)) k1 hix hq ?_
  refine am_e_aload_n (am_nxt_of (i := (13, 1, .aload_n 0, (0, 0, 0), 0)) (by decide +kernel)) (v := 164) rfl ?_
  refine am_e_getf (am_nxt_of (i := (14, 3, .getfield 66, (12, 37, 1421), 0)) (by decide +kernel)) q1 ((o1 _ _ _ _).trans f37) ?_
  refine am_e_bipush (w := 64) (am_nxt_of (i := (17, 2, .bipush 64, (0, 0, 0), 0)) (by decide +kernel)) (by decide) ?_
  refine am_e_aload_n (am_nxt_of (i := (19, 1, .aload_n 0, (0, 0, 0), 0)) (by decide +kernel)) (v := 164) rfl ?_
  refine am_e_getf (am_nxt_of (i := (20, 3, .getfield 213, (12, 21, 1405), 0)) (by decide +kernel)) q1 ((o1 _ _ _ _).trans er) ?_
  refine am_e_iadd (am_nxt_of (i := (23, 1, .iadd, (0, 0, 0), 0)) (by decide +kernel)) rfl ?_
  refine am_e_iload_n (am_nxt_of (i := (24, 1, .iload_n 2, (0, 0, 0), 0)) (by decide +kernel)) (v := a) rfl ?_
  refine am_e_iastore (am_nxt_of (i := (25, 1, .iastore, (0, 0, 0), 0)) (by decide +kernel)) k2 hix hq ?_
  refine am_e_aload_n (am_nxt_of (i := (26, 1, .aload_n 0, (0, 0, 0), 0)) (by decide +kernel)) (v := 164) rfl ?_
  refine am_e_getf (am_nxt_of (i := (27, 3, .getfield 69, (12, 38, 1422), 0)) (by decide +kernel)) q1 ((o2 _ _ _ _).trans ((o1 _ _ _ _).trans f38)) ?_
  refine am_e_bipush (w := 64) (am_nxt_of (i := (30, 2, .bipush 64, (0, 0, 0), 0)) (by decide +kernel)) (by decide) ?_
  refine am_e_aload_n (am_nxt_of (i := (32, 1, .aload_n 0, (0, 0, 0), 0)) (by decide +kernel)) (v := 164) rfl ?_
  refine am_e_getf (am_nxt_of (i := (33, 3, .getfield 213, (12, 21, 1405), 0)) (by decide +kernel)) q1 ((o2 _ _ _ _).trans ((o1 _ _ _ _).trans er)) ?_
  refine am_e_iadd (am_nxt_of (i := (36, 1, .iadd, (0, 0, 0), 0)) (by decide +kernel)) rfl ?_
  refine am_e_iload_n (am_nxt_of (i := (37, 1, .iload_n 3, (0, 0, 0), 0)) (by decide +kernel)) (v := b) rfl ?_
  refine am_e_iastore (am_nxt_of (i := (38, 1, .iastore, (0, 0, 0), 0)) (by decide +kernel)) k3 hix hq ?_
  refine am_e_aload_n (am_nxt_of (i := (39, 1, .aload_n 0, (0, 0, 0), 0)) (by decide +kernel)) (v := 164) rfl ?_
  refine am_e_getf (am_nxt_of (i := (40, 3, .getfield 75, (12, 40, 1424), 0)) (by decide +kernel)) q1 ((o3 _ _ _ _).trans ((o2 _ _ _ _).trans ((o1 _ _ _ _).trans f40))) ?_
  refine am_e_aload_n (am_nxt_of (i := (43, 1, .aload_n 0, (0, 0, 0), 0)) (by decide +kernel)) (v := 164) rfl ?_
  refine am_e_getf (am_nxt_of (i := (44, 3, .getfield 277, (12, 42, 1426), 0)) (by decide +kernel)) q1 ((o3 _ _ _ _).trans ((o2 _ _ _ _).trans ((o1 _ _ _ _).trans em))) ?_
  refine am_e_aload_n (am_nxt_of (i := (47, 1, .aload_n 0, (0, 0, 0), 0)) (by decide +kernel)) (v := 164) rfl ?_
  refine am_e_getf (am_nxt_of (i := (48, 3, .getfield 213, (12, 21, 1405), 0)) (by decide +kernel)) q1 ((o3 _ _ _ _).trans ((o2 _ _ _ _).trans ((o1 _ _ _ _).trans er))) ?_
  refine am_e_iastore (am_nxt_of (i := (51, 1, .iastore, (0, 0, 0), 0)) (by decide +kernel)) k5 him rfl ?_
  refine am_e_aload_n (am_nxt_of (i := (52, 1, .aload_n 0, (0, 0, 0), 0)) (by decide +kernel)) (v := 164) rfl ?_
  refine am_e_dup (am_nxt_of (i := (53, 1, .dup, (0, 0, 0), 0)) (by decide +kernel)) rfl ?_
  refine am_e_getf (am_nxt_of (i := (54, 3, .getfield 277, (12, 42, 1426), 0)) (by decide +kernel)) q1 ((o5 _ _ _ _).trans ((o3 _ _ _ _).trans ((o2 _ _ _ _).trans ((o1 _ _ _ _).trans em)))) ?_
  refine am_e_iconst (w := 1) (am_nxt_of (i := (57, 1, .iconst 1, (0, 0, 0), 0)) (by decide +kernel)) rfl ?_
  refine am_e_iadd (am_nxt_of (i := (58, 1, .iadd, (0, 0, 0), 0)) (by decide +kernel)) rfl ?_
  refine am_e_putf (am_nxt_of (i := (59, 3, .putfield 277, (12, 42, 1426), 0)) (by decide +kernel)) q1 rfl ?_
  refine am_e_aload_n (am_nxt_of (i := (62, 1, .aload_n 0, (0, 0, 0), 0)) (by decide +kernel)) (v := 164) rfl ?_
  refine am_e_dup (am_nxt_of (i := (63, 1, .dup, (0, 0, 0), 0)) (by decide +kernel)) rfl ?_
  refine am_e_getf (am_nxt_of (i := (64, 3, .getfield 213, (12, 21, 1405), 0)) (by decide +kernel)) q1 ((am_up_same _ _ _ _ _ (by decide)).trans ((o5 _ _ _ _).trans ((o3 _ _ _ _).trans ((o2 _ _ _ _).trans ((o1 _ _ _ _).trans er))))) ?_
  refine am_e_iconst (w := 1) (am_nxt_of (i := (67, 1, .iconst 1, (0, 0, 0), 0)) (by decide +kernel)) rfl ?_
  refine am_e_iadd (am_nxt_of (i := (68, 1, .iadd, (0, 0, 0), 0)) (by decide +kernel)) rfl ?_
  refine am_e_putf (am_nxt_of (i := (69, 3, .putfield 213, (12, 21, 1405), 0)) (by decide +kernel)) q1 rfl ?_
  exact am_e_vret (am_cur_of (i := (72, 1, .return_, (0, 0, 0), 0)) (by decide +kernel)) rfl rfl ⟨rfl, rfl, rfl⟩
end ABST
