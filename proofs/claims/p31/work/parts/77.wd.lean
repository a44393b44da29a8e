/-! ===== THE MODEL'S wordAt, by hand (wip/s/tpl/77.tpl) ===== -/
def ab_words (k : Nat) : Int32 := ([98, 101, 100, 32, 98, 108, 111, 119, 101, 114, 32, 116, 117, 114, 110, 32, 112, 117, 109, 112, 32, 108, 101, 97, 107, 32, 116, 114, 105, 97, 108, 32, 115, 108, 105, 112, 32, 115, 101, 101, 100, 32, 108, 97, 119, 32, 108, 111, 115, 101, 32, 102, 105, 108, 108, 32, 108, 111, 97, 100, 32, 97, 110, 100, 32, 111, 114, 32, 110, 111, 116, 32, 102, 117, 108, 108, 32, 114, 111, 111, 109, 32, 111, 112, 101, 110, 32, 115, 101, 99, 111, 110, 100, 32, 98, 114, 101, 97, 116, 104, 32] : List Int32).getD k 0
/-- the words stay -/
def ab_M1 (h : am_H) : Prop := ∀ k, k < 101 → h 166 k = .int (ab_words k)
def ab_wl (j : Nat) : Nat := ([3, 6, 4, 4, 4, 5, 4, 4, 3, 4, 4, 4, 3, 2, 3, 4, 4, 4, 6, 6] : List Nat).getD j 0
def ab_ws (j : Nat) : Nat := ([0, 4, 11, 16, 21, 26, 32, 37, 42, 46, 51, 56, 61, 65, 68, 72, 77, 82, 87, 94, 101] : List Nat).getD j 0
theorem ab_w_all : (List.range 20).all (fun j => decide (ab_ws (j + 1) = ab_ws j + ab_wl j + 1) && decide (ab_ws j + ab_wl j ≤ 100) && decide (ab_wl j ≤ 6) && decide (ab_words (ab_ws j + ab_wl j) = 32) && (List.range (ab_wl j)).all (fun n => !decide (ab_words (ab_ws j + n) = 32))) = true := by decide +kernel
theorem ab_w_at {j : Nat} (hj : j < 20) : ab_ws (j + 1) = ab_ws j + ab_wl j + 1 ∧ ab_ws j + ab_wl j ≤ 100 ∧ ab_wl j ≤ 6 ∧ ab_words (ab_ws j + ab_wl j) = 32 ∧ ∀ n, n < ab_wl j → ¬ ab_words (ab_ws j + n) = 32 := by
  have h := List.all_eq_true.mp ab_w_all j (List.mem_range.mpr hj)
  simp only [Bool.and_eq_true, decide_eq_true_eq] at h
  obtain ⟨⟨⟨⟨h1, h2⟩, h3⟩, h4⟩, h5⟩ := h
  refine ⟨h1, h2, h3, h4, fun n hn => ?_⟩
  have := List.all_eq_true.mp h5 n (List.mem_range.mpr hn)
  simpa using this
abbrev ab_wL (a b k f n s i : Int32) : am_L := [(0, .ref 164), (1, .int a), (2, .int b), (3, .int k), (4, .int f), (5, .int n), (6, .int s), (7, .int i)]
abbrev ab_wQ (h : am_H) : Option Value → List am_k → am_H → Prop := fun r ks h' => ks = am_ks0 ∧ h' = h ∧ ∃ x : Int32, r = some (.int x) ∧ -1 ≤ x.toInt ∧ x.toInt ≤ 19
section ABWD
variable {h : am_H} {a b : Int32}
theorem ab_clamp {x : Int32} {n : Nat} (hx : x.toInt = n) : x.toNatClampNeg = n := by
  show x.toInt.toNat = n
  omega
/-- the letters of one word are counted -/
theorem ab_wd_n (hI : ab_Inv (ab_hi ab_tab) h) (hM : ab_M1 h) {j : Nat} (hj : j < 20) {ls0 : am_L} {k f : Int32} (hf : f.toInt = ab_ws j) {Q : Option Value → List am_k → am_H → Prop}
    (K : ∀ n : Int32, n.toInt = ab_wl j → am_Ek false am_G0 am_m153 21 [(0, .ref 164), (1, .int a), (2, .int b), (3, .int k), (4, .int f), (5, .int n)] [] am_ks0 h 0 0 Q) :
    ∀ (d : Nat) (n : Int32), n.toInt + d = ab_wl j → 0 ≤ n.toInt → am_Ek false am_G0 am_m153 11 [(0, .ref 164), (1, .int a), (2, .int b), (3, .int k), (4, .int f), (5, .int n)] [] am_ks0 h 0 0 Q := by
  obtain ⟨w1, w2, w3, w4, w5⟩ := ab_w_at hj
  have o1 : am_ks0[164]? = some (.inl 12) := by decide +kernel
  have k6 : am_ks0[166]? = some (.inr (.int, 101)) := by decide +kernel
  have z : ab_sz (.inl 12) = 81 := rfl
  have f3 : h 164 3 = .ref 166 := ab_ref1 hI o1 (by rw [z]; decide) (by decide +kernel)
  intro d
  induction d with
  | zero =>
    intro n hn n0
    have hs : (f + n).toInt = (ab_ws j + ab_wl j : Nat) := by rw [ab_iadd (by omega) (by omega)]; omega
    have hix := ab_ix (x := f + n) (n := 101) (by omega) (by omega)
    have ev : h 166 (ab_ws j + ab_wl j) = .int 32 := by rw [hM _ (by omega), w4]
    refine am_e_aload_n (am_nxt_of (i := (18, 1, .aload_n 0, (0, 0, 0), 0)) (by decide +kernel)) (v := 164) rfl ?_
    refine am_e_getf (am_nxt_of (i := (19, 3, .getfield 13, (12, 3, 1387), 0)) (by decide +kernel)) o1 f3 ?_
    refine am_e_iload (am_nxt_of (i := (22, 2, .iload 4, (0, 0, 0), 0)) (by decide +kernel)) (v := f) rfl ?_
    refine am_e_iload (am_nxt_of (i := (24, 2, .iload 5, (0, 0, 0), 0)) (by decide +kernel)) (v := n) rfl ?_
    refine am_e_iadd (am_nxt_of (i := (26, 1, .iadd, (0, 0, 0), 0)) (by decide +kernel)) rfl ?_
    refine am_e_iaload (am_nxt_of (i := (27, 1, .iaload, (0, 0, 0), 0)) (by decide +kernel)) k6 hix (ab_clamp hs) ev ?_
    refine am_e_bipush (w := 32) (am_nxt_of (i := (28, 2, .bipush 32, (0, 0, 0), 0)) (by decide +kernel)) (by decide) ?_
    refine am_e_cmpT (am_nxt_of (i := (30, 3, .if_icmp .eq 9, (21, 0, 0), 0)) (by decide +kernel)) (am_c_eqT rfl) (am_tgt_of (by decide +kernel)) ?_
    exact K n (by omega)
  | succ d ih =>
    intro n hn n0
    obtain ⟨q, hq⟩ : ∃ q : Nat, n.toInt = q := ⟨n.toInt.toNat, by omega⟩
    have hs : (f + n).toInt = (ab_ws j + q : Nat) := by rw [ab_iadd (by omega) (by omega)]; omega
    have hix := ab_ix (x := f + n) (n := 101) (by omega) (by omega)
    have ev : h 166 (ab_ws j + q) = .int (ab_words (ab_ws j + q)) := hM _ (by omega)
    refine am_e_aload_n (am_nxt_of (i := (18, 1, .aload_n 0, (0, 0, 0), 0)) (by decide +kernel)) (v := 164) rfl ?_
    refine am_e_getf (am_nxt_of (i := (19, 3, .getfield 13, (12, 3, 1387), 0)) (by decide +kernel)) o1 f3 ?_
    refine am_e_iload (am_nxt_of (i := (22, 2, .iload 4, (0, 0, 0), 0)) (by decide +kernel)) (v := f) rfl ?_
    refine am_e_iload (am_nxt_of (i := (24, 2, .iload 5, (0, 0, 0), 0)) (by decide +kernel)) (v := n) rfl ?_
    refine am_e_iadd (am_nxt_of (i := (26, 1, .iadd, (0, 0, 0), 0)) (by decide +kernel)) rfl ?_
    refine am_e_iaload (am_nxt_of (i := (27, 1, .iaload, (0, 0, 0), 0)) (by decide +kernel)) k6 hix (ab_clamp hs) ev ?_
    refine am_e_bipush (w := 32) (am_nxt_of (i := (28, 2, .bipush 32, (0, 0, 0), 0)) (by decide +kernel)) (by decide) ?_
    refine am_e_cmpF (am_nxt_of (i := (30, 3, .if_icmp .eq 9, (21, 0, 0), 0)) (by decide +kernel)) (am_c_eqF (w5 q (by omega))) ?_
    refine am_e_iinc (am_nxt_of (i := (33, 3, .iinc 5 1, (0, 0, 0), 0)) (by decide +kernel)) (v := n) rfl (by decide +kernel) rfl rfl ?_
    refine am_e_goto (am_cur_of (i := (36, 3, .goto (-18), (11, 0, 0), 0)) (by decide +kernel)) (am_tgt_of (by decide +kernel)) ?_
    have e1 : (n + Int32.ofInt 1).toInt = n.toInt + 1 := by
      rw [ab_iadd (by rw [show (Int32.ofInt 1).toInt = 1 by decide]; omega) (by rw [show (Int32.ofInt 1).toInt = 1 by decide]; omega), show (Int32.ofInt 1).toInt = 1 by decide]
    refine am_Ek_ls (ls' := [(0, .ref 164), (1, .int a), (2, .int b), (3, .int k), (4, .int f), (5, .int (n + Int32.ofInt 1))]) ⟨rfl, rfl, rfl, rfl, rfl, rfl, trivial⟩ ?_
    exact ih _ (by omega) (by omega)
/-- the letters are compared -/
theorem ab_wd_i (hI : ab_Inv (ab_hi ab_tab) h) (hM : ab_M1 h) (a0 : 0 ≤ a.toInt) (b1 : b.toInt ≤ 700) {j : Nat} (hj : j < 20) {k f n : Int32} (hf : f.toInt = ab_ws j) (hn : n.toInt = ab_wl j) {Q : Option Value → List am_k → am_H → Prop}
    (K : ∀ s i : Int32, am_Ek false am_G0 am_m153 56 (ab_wL a b k f n s i) [] am_ks0 h 0 0 Q) :
    ∀ (d : Nat) (s i : Int32), i.toInt + d = ab_wl j → 0 ≤ i.toInt → (¬ s = 0 → b.toInt - a.toInt = ab_wl j) → am_Ek false am_G0 am_m153 32 (ab_wL a b k f n s i) [] am_ks0 h 0 0 Q := by
  obtain ⟨w1, w2, w3, w4, w5⟩ := ab_w_at hj
  have o1 : am_ks0[164]? = some (.inl 12) := by decide +kernel
  have k5 : am_ks0[165]? = some (.inr (.int, 700)) := by decide +kernel
  have k6 : am_ks0[166]? = some (.inr (.int, 101)) := by decide +kernel
  have z : ab_sz (.inl 12) = 81 := rfl
  have f3 : h 164 3 = .ref 166 := ab_ref1 hI o1 (by rw [z]; decide) (by decide +kernel)
  have f0 : h 164 0 = .ref 165 := ab_ref1 hI o1 (by rw [z]; decide) (by decide +kernel)
  intro d
  induction d with
  | zero =>
    intro s i hi i0 hs
    refine am_e_iload (am_nxt_of (i := (57, 2, .iload 7, (0, 0, 0), 0)) (by decide +kernel)) (v := i) rfl ?_
    refine am_e_iload (am_nxt_of (i := (59, 2, .iload 5, (0, 0, 0), 0)) (by decide +kernel)) (v := n) rfl ?_
    refine am_e_cmpT (am_nxt_of (i := (61, 3, .if_icmp .ge 43, (56, 0, 0), 0)) (by decide +kernel)) (am_c_geT (by rw [Int32.lt_iff_toInt_lt]; omega)) (am_tgt_of (by decide +kernel)) ?_
    exact K s i
  | succ d ih =>
    intro s i hi i0 hs
    refine am_e_iload (am_nxt_of (i := (57, 2, .iload 7, (0, 0, 0), 0)) (by decide +kernel)) (v := i) rfl ?_
    refine am_e_iload (am_nxt_of (i := (59, 2, .iload 5, (0, 0, 0), 0)) (by decide +kernel)) (v := n) rfl ?_
    refine am_e_cmpF (am_nxt_of (i := (61, 3, .if_icmp .ge 43, (56, 0, 0), 0)) (by decide +kernel)) (am_c_geF (by rw [Int32.lt_iff_toInt_lt]; omega)) ?_
    refine am_e_iload (am_nxt_of (i := (64, 2, .iload 6, (0, 0, 0), 0)) (by decide +kernel)) (v := s) rfl ?_
    by_cases h0 : s = 0
    · refine am_e_ifT (am_nxt_of (i := (66, 3, .ifCond .eq 38, (56, 0, 0), 0)) (by decide +kernel)) (am_c_eqT h0) (am_tgt_of (by decide +kernel)) ?_
      exact K s i
    · refine am_e_ifF (am_nxt_of (i := (66, 3, .ifCond .eq 38, (56, 0, 0), 0)) (by decide +kernel)) (am_c_eqF h0) ?_
      have hba := hs h0
      obtain ⟨q, hq⟩ : ∃ q : Nat, i.toInt = q := ⟨i.toInt.toNat, by omega⟩
      have hs1 : (f + i).toInt = (ab_ws j + q : Nat) := by rw [ab_iadd (by omega) (by omega)]; omega
      have hix1 := ab_ix (x := f + i) (n := 101) (by omega) (by omega)
      have ev1 : h 166 (ab_ws j + q) = .int (ab_words (ab_ws j + q)) := hM _ (by omega)
      have hs2 : (a + i).toInt = a.toInt + i.toInt := ab_iadd (by omega) (by omega)
      have hix2 := ab_ix (x := a + i) (n := 700) (by omega) (by omega)
      have gt := hI 165 (a + i).toNatClampNeg _ k5 (Nat.lt_of_not_le (fun q => hix2 (Or.inr q)))
      rw [ab_hi_arr (show ab_isA ab_tab 165 = true by decide +kernel), show ab_hi ab_tab 165 0 = ab_top by decide +kernel] at gt
      obtain ⟨y, ey, -⟩ := gt
      refine am_e_aload_n (am_nxt_of (i := (69, 1, .aload_n 0, (0, 0, 0), 0)) (by decide +kernel)) (v := 164) rfl ?_
      refine am_e_getf (am_nxt_of (i := (70, 3, .getfield 13, (12, 3, 1387), 0)) (by decide +kernel)) o1 f3 ?_
      refine am_e_iload (am_nxt_of (i := (73, 2, .iload 4, (0, 0, 0), 0)) (by decide +kernel)) (v := f) rfl ?_
      refine am_e_iload (am_nxt_of (i := (75, 2, .iload 7, (0, 0, 0), 0)) (by decide +kernel)) (v := i) rfl ?_
      refine am_e_iadd (am_nxt_of (i := (77, 1, .iadd, (0, 0, 0), 0)) (by decide +kernel)) rfl ?_
      refine am_e_iaload (am_nxt_of (i := (78, 1, .iaload, (0, 0, 0), 0)) (by decide +kernel)) k6 hix1 (ab_clamp hs1) ev1 ?_
      refine am_e_aload_n (am_nxt_of (i := (79, 1, .aload_n 0, (0, 0, 0), 0)) (by decide +kernel)) (v := 164) rfl ?_
      refine am_e_getf (am_nxt_of (i := (80, 3, .getfield 7, (12, 0, 1384), 0)) (by decide +kernel)) o1 f0 ?_
      refine am_e_iload_n (am_nxt_of (i := (83, 1, .iload_n 1, (0, 0, 0), 0)) (by decide +kernel)) (v := a) rfl ?_
      refine am_e_iload (am_nxt_of (i := (84, 2, .iload 7, (0, 0, 0), 0)) (by decide +kernel)) (v := i) rfl ?_
      refine am_e_iadd (am_nxt_of (i := (86, 1, .iadd, (0, 0, 0), 0)) (by decide +kernel)) rfl ?_
      refine am_e_iaload (am_nxt_of (i := (87, 1, .iaload, (0, 0, 0), 0)) (by decide +kernel)) k5 hix2 rfl ey ?_
      have e1 : (i + Int32.ofInt 1).toInt = i.toInt + 1 := by
        rw [ab_iadd (by rw [show (Int32.ofInt 1).toInt = 1 by decide]; omega) (by rw [show (Int32.ofInt 1).toInt = 1 by decide]; omega), show (Int32.ofInt 1).toInt = 1 by decide]
      have hend : ∀ s' : Int32, am_Ek false am_G0 am_m153 53 (ab_wL a b k f n s i) [.int s'] am_ks0 h 0 0 Q := by
        intro s'
        refine am_e_istore (am_nxt_of (i := (96, 2, .istore 6, (0, 0, 0), 0)) (by decide +kernel)) (by decide +kernel) rfl ?_
        refine am_e_iinc (am_nxt_of (i := (98, 3, .iinc 7 1, (0, 0, 0), 0)) (by decide +kernel)) (v := i) rfl (by decide +kernel) rfl rfl ?_
        refine am_e_goto (am_cur_of (i := (101, 3, .goto (-44), (32, 0, 0), 0)) (by decide +kernel)) (am_tgt_of (by decide +kernel)) ?_
        refine am_Ek_ls (ls' := ab_wL a b k f n s' (i + Int32.ofInt 1)) ⟨rfl, rfl, rfl, rfl, rfl, rfl, rfl, rfl, trivial⟩ ?_
        exact ih _ _ (by omega) (by omega) (fun _ => hba)
      by_cases he : ab_words (ab_ws j + q) = y
      · refine am_e_cmpF (am_nxt_of (i := (88, 3, .if_icmp .ne 7, (52, 0, 0), 0)) (by decide +kernel)) (am_c_neF he) ?_
        refine am_e_iconst (w := 1) (am_nxt_of (i := (91, 1, .iconst 1, (0, 0, 0), 0)) (by decide +kernel)) rfl ?_
        refine am_e_goto (am_cur_of (i := (92, 3, .goto 4, (53, 0, 0), 0)) (by decide +kernel)) (am_tgt_of (by decide +kernel)) ?_
        exact hend 1
      · refine am_e_cmpT (am_nxt_of (i := (88, 3, .if_icmp .ne 7, (52, 0, 0), 0)) (by decide +kernel)) (am_c_neT he) (am_tgt_of (by decide +kernel)) ?_
        refine am_e_iconst (w := 0) (am_nxt_of (i := (95, 1, .iconst 0, (0, 0, 0), 0)) (by decide +kernel)) rfl ?_
        exact hend 0
theorem ab_wd (hI : ab_Inv (ab_hi ab_tab) h) (hM : ab_M1 h) (a0 : 0 ≤ a.toInt) (a1 : a.toInt ≤ 700) (b0 : 0 ≤ b.toInt) (b1 : b.toInt ≤ 700) :
    ∀ (d j : Nat) (k f : Int32), j + d = 20 → k.toInt = j → f.toInt = ab_ws j → am_Ek false am_G0 am_m153 4 [(0, .ref 164), (1, .int a), (2, .int b), (3, .int k), (4, .int f)] [] am_ks0 h 0 0 (ab_wQ h) := by
  have o1 : am_ks0[164]? = some (.inl 12) := by decide +kernel
  have k6 : am_ks0[166]? = some (.inr (.int, 101)) := by decide +kernel
  have z : ab_sz (.inl 12) = 81 := rfl
  have f3 : h 164 3 = .ref 166 := ab_ref1 hI o1 (by rw [z]; decide) (by decide +kernel)
  have e101 : (101 : Int32).toInt = 101 := by decide
  intro d
  induction d with
  | zero =>
    intro j k f hj hkj hf
    have hj : j = 20 := hj
    subst hj
    have hf : f.toInt = 101 := hf
    refine am_e_iload (am_nxt_of (i := (5, 2, .iload 4, (0, 0, 0), 0)) (by decide +kernel)) (v := f) rfl ?_
    refine am_e_aload_n (am_nxt_of (i := (7, 1, .aload_n 0, (0, 0, 0), 0)) (by decide +kernel)) (v := 164) rfl ?_
    refine am_e_getf (am_nxt_of (i := (8, 3, .getfield 13, (12, 3, 1387), 0)) (by decide +kernel)) o1 f3 ?_
    refine am_e_alen (w := 101) (am_nxt_of (i := (11, 1, .arraylength, (0, 0, 0), 0)) (by decide +kernel)) k6 (by decide) ?_
    refine am_e_cmpT (am_nxt_of (i := (12, 3, .if_icmp .ge 114, (68, 0, 0), 0)) (by decide +kernel)) (am_c_geT (by rw [Int32.lt_iff_toInt_lt]; omega)) (am_tgt_of (by decide +kernel)) ?_
    refine am_e_iconst (w := -1) (am_nxt_of (i := (126, 1, .iconst (-1), (0, 0, 0), 0)) (by decide +kernel)) rfl ?_
    exact am_e_iret (ty := .int) (am_cur_of (i := (127, 1, .ireturn, (0, 0, 0), 0)) (by decide +kernel)) rfl rfl rfl ⟨rfl, rfl, _, rfl, by decide, by decide⟩
  | succ d ih =>
    intro j k f hj hkj hf
    obtain ⟨w1, w2, w3, w4, w5⟩ := ab_w_at (j := j) (by omega)
    refine am_e_iload (am_nxt_of (i := (5, 2, .iload 4, (0, 0, 0), 0)) (by decide +kernel)) (v := f) rfl ?_
    refine am_e_aload_n (am_nxt_of (i := (7, 1, .aload_n 0, (0, 0, 0), 0)) (by decide +kernel)) (v := 164) rfl ?_
    refine am_e_getf (am_nxt_of (i := (8, 3, .getfield 13, (12, 3, 1387), 0)) (by decide +kernel)) o1 f3 ?_
    refine am_e_alen (w := 101) (am_nxt_of (i := (11, 1, .arraylength, (0, 0, 0), 0)) (by decide +kernel)) k6 (by decide) ?_
    refine am_e_cmpF (am_nxt_of (i := (12, 3, .if_icmp .ge 114, (68, 0, 0), 0)) (by decide +kernel)) (am_c_geF (by rw [Int32.lt_iff_toInt_lt]; omega)) ?_
    refine am_e_iconst (w := 0) (am_nxt_of (i := (15, 1, .iconst 0, (0, 0, 0), 0)) (by decide +kernel)) rfl ?_
    refine am_e_istore (am_nxt_of (i := (16, 2, .istore 5, (0, 0, 0), 0)) (by decide +kernel)) (by decide +kernel) rfl ?_
    refine am_Ek_ls (ls' := [(0, .ref 164), (1, .int a), (2, .int b), (3, .int k), (4, .int f), (5, .int 0)]) ⟨rfl, rfl, rfl, rfl, rfl, rfl, trivial⟩ ?_
    refine ab_wd_n (ls0 := []) hI hM (j := j) (by omega) hf (fun n hn => ?_) (ab_wl j) 0 (by rw [show (0 : Int32).toInt = 0 by decide]; omega) (by decide)
    refine am_e_iload (am_nxt_of (i := (39, 2, .iload 5, (0, 0, 0), 0)) (by decide +kernel)) (v := n) rfl ?_
    refine am_e_iload_n (am_nxt_of (i := (41, 1, .iload_n 2, (0, 0, 0), 0)) (by decide +kernel)) (v := b) rfl ?_
    refine am_e_iload_n (am_nxt_of (i := (42, 1, .iload_n 1, (0, 0, 0), 0)) (by decide +kernel)) (v := a) rfl ?_
    refine am_e_isub (am_nxt_of (i := (43, 1, .isub, (0, 0, 0), 0)) (by decide +kernel)) rfl ?_
    have eb : (b - a).toInt = b.toInt - a.toInt := ab_isub (by omega) (by omega)
    have hend : ∀ s : Int32, (¬ s = 0 → b.toInt - a.toInt = ab_wl j) → am_Ek false am_G0 am_m153 29 [(0, .ref 164), (1, .int a), (2, .int b), (3, .int k), (4, .int f), (5, .int n)] [.int s] am_ks0 h 0 0 (ab_wQ h) := by
      intro s hs
      refine am_e_istore (am_nxt_of (i := (52, 2, .istore 6, (0, 0, 0), 0)) (by decide +kernel)) (by decide +kernel) rfl ?_
      refine am_e_iconst (w := 0) (am_nxt_of (i := (54, 1, .iconst 0, (0, 0, 0), 0)) (by decide +kernel)) rfl ?_
      refine am_e_istore (am_nxt_of (i := (55, 2, .istore 7, (0, 0, 0), 0)) (by decide +kernel)) (by decide +kernel) rfl ?_
      refine am_Ek_ls (ls' := ab_wL a b k f n s 0) ⟨rfl, rfl, rfl, rfl, rfl, rfl, rfl, rfl, trivial⟩ ?_
      refine ab_wd_i hI hM a0 b1 (j := j) (by omega) hf hn (fun s' i => ?_) (ab_wl j) s 0 (by rw [show (0 : Int32).toInt = 0 by decide]; omega) (by decide) hs
      refine am_e_iload (am_nxt_of (i := (104, 2, .iload 6, (0, 0, 0), 0)) (by decide +kernel)) (v := s') rfl ?_
      by_cases h0 : s' = 0
      · refine am_e_ifT (am_nxt_of (i := (106, 3, .ifCond .eq 5, (60, 0, 0), 0)) (by decide +kernel)) (am_c_eqT h0) (am_tgt_of (by decide +kernel)) ?_
        refine am_e_iload (am_nxt_of (i := (111, 2, .iload 4, (0, 0, 0), 0)) (by decide +kernel)) (v := f) rfl ?_
        refine am_e_iload (am_nxt_of (i := (113, 2, .iload 5, (0, 0, 0), 0)) (by decide +kernel)) (v := n) rfl ?_
        refine am_e_iconst (w := 1) (am_nxt_of (i := (115, 1, .iconst 1, (0, 0, 0), 0)) (by decide +kernel)) rfl ?_
        refine am_e_iadd (am_nxt_of (i := (116, 1, .iadd, (0, 0, 0), 0)) (by decide +kernel)) rfl ?_
        refine am_e_iadd (am_nxt_of (i := (117, 1, .iadd, (0, 0, 0), 0)) (by decide +kernel)) rfl ?_
        refine am_e_istore (am_nxt_of (i := (118, 2, .istore 4, (0, 0, 0), 0)) (by decide +kernel)) (by decide +kernel) rfl ?_
        refine am_e_iinc (am_nxt_of (i := (120, 3, .iinc 3 1, (0, 0, 0), 0)) (by decide +kernel)) (v := k) rfl (by decide +kernel) rfl rfl ?_
        refine am_e_goto (am_cur_of (i := (123, 3, .goto (-118), (4, 0, 0), 0)) (by decide +kernel)) (am_tgt_of (by decide +kernel)) ?_
        refine am_Ek_ls (ls' := [(0, .ref 164), (1, .int a), (2, .int b), (3, .int (k + Int32.ofInt 1)), (4, .int (f + (n + 1)))]) ⟨rfl, rfl, rfl, rfl, rfl, trivial⟩ ?_
        have e1 : (1 : Int32).toInt = 1 := by decide
        have e2 : (n + 1).toInt = n.toInt + 1 := by rw [ab_iadd (by omega) (by omega), e1]
        refine ih (j + 1) _ _ (by omega) (by rw [ab_iadd (by rw [show (Int32.ofInt 1).toInt = 1 by decide]; omega) (by rw [show (Int32.ofInt 1).toInt = 1 by decide]; omega), show (Int32.ofInt 1).toInt = 1 by decide]; omega) ?_
        rw [ab_iadd (by omega) (by omega), w1]
        omega
      · refine am_e_ifF (am_nxt_of (i := (106, 3, .ifCond .eq 5, (60, 0, 0), 0)) (by decide +kernel)) (am_c_eqF h0) ?_
        refine am_e_iload_n (am_nxt_of (i := (109, 1, .iload_n 3, (0, 0, 0), 0)) (by decide +kernel)) (v := k) rfl ?_
        exact am_e_iret (ty := .int) (am_cur_of (i := (110, 1, .ireturn, (0, 0, 0), 0)) (by decide +kernel)) rfl rfl rfl ⟨rfl, rfl, _, rfl, by omega, by omega⟩
    by_cases he : n = b - a
    · refine am_e_cmpF (am_nxt_of (i := (44, 3, .if_icmp .ne 7, (28, 0, 0), 0)) (by decide +kernel)) (am_c_neF he) ?_
      refine am_e_iconst (w := 1) (am_nxt_of (i := (47, 1, .iconst 1, (0, 0, 0), 0)) (by decide +kernel)) rfl ?_
      refine am_e_goto (am_cur_of (i := (48, 3, .goto 4, (29, 0, 0), 0)) (by decide +kernel)) (am_tgt_of (by decide +kernel)) ?_
      refine hend 1 (fun _ => ?_)
      rw [he, eb] at hn
      exact hn
    · refine am_e_cmpT (am_nxt_of (i := (44, 3, .if_icmp .ne 7, (28, 0, 0), 0)) (by decide +kernel)) (am_c_neT he) (am_tgt_of (by decide +kernel)) ?_
      refine am_e_iconst (w := 0) (am_nxt_of (i := (51, 1, .iconst 0, (0, 0, 0), 0)) (by decide +kernel)) rfl ?_
      exact hend 0 (fun q => absurd rfl q)
theorem ab_wordAt (hI : ab_Inv (ab_hi ab_tab) h) (hM : ab_M1 h) (a0 : 0 ≤ a.toInt) (a1 : a.toInt ≤ 700) (b0 : 0 ≤ b.toInt) (b1 : b.toInt ≤ 700) : am_Ek false am_G0 am_m153 0 (lv_args 0 [.ref 164, .int a, .int b]) [] am_ks0 h 0 0 (ab_wQ h) := by
  refine am_e_iconst (w := 0) (am_nxt_of (i := (0, 1, .iconst 0, (0, 0, 0), 0)) (by decide +kernel)) rfl ?_
  refine am_e_istore_n (am_nxt_of (i := (1, 1, .istore_n 3, (0, 0, 0), 0)) (by decide +kernel)) (by decide +kernel) rfl ?_
  refine am_e_iconst (w := 0) (am_nxt_of (i := (2, 1, .iconst 0, (0, 0, 0), 0)) (by decide +kernel)) rfl ?_
  refine am_e_istore (am_nxt_of (i := (3, 2, .istore 4, (0, 0, 0), 0)) (by decide +kernel)) (by decide +kernel) rfl ?_
  refine am_Ek_ls (ls' := [(0, .ref 164), (1, .int a), (2, .int b), (3, .int 0), (4, .int 0)]) ⟨rfl, rfl, rfl, rfl, rfl, trivial⟩ ?_
  exact ab_wd hI hM a0 a1 b0 b1 20 0 0 0 rfl rfl rfl
end ABWD
