/-! ===== THE MODEL'S begin: the leak is drawn (wip/s/tpl/80.tpl) ===== -/
/-- a hole outside of loops: its end -/
def ab_exN (ct : List (Option ab_K)) (g : ab_F → ab_F) (t t' : Nat) : Bool := match ab_getK ct t, ab_getK ct t' with
  | some K, some K' => K.2.2.isEmpty && K'.2.2.isEmpty && decide (K'.2.1 < K.2.1) && K.1.all (fun F => K'.1.any (fun W => ab_leF (g F) W))
  | _, _ => false
theorem ab_exN_ok {T : ab_T} {J : am_H → Prop} {md fx : List (Nat × Nat)} {ct : List (Option ab_K)} {g : ab_F → ab_F} {t t' : Nat} {as : List Value} {h0 h h' : am_H} {K : ab_K} {F : ab_F} {ls ls' : am_L} {st' : List Value} (hx : ab_exN ct g t t' = true) (hK : ab_getK ct t = some K) (hF : F ∈ K.1) (hg' : ab_gF (g F) ls' st' h') (hI' : ab_Inv (ab_hi T) h') (hJ' : J h') (hFr : ab_Fr md h0 h') (hfx : ab_fxG fx as ls') : ∃ K', ab_getK ct t' = some K' ∧ ab_Sta T J md fx as h0 K' ls' st' h' ∧ ab_rnk K' ls' h' < ab_rnk K ls h := by
  unfold ab_exN at hx
  rw [hK] at hx
  split at hx
  · rename_i K1 K' e1 hK'
    cases e1
    simp only [Bool.and_eq_true, decide_eq_true_eq, List.isEmpty_iff] at hx
    obtain ⟨⟨⟨x1, x2⟩, x3⟩, x4⟩ := hx
    obtain ⟨W, hW, hle⟩ := List.any_eq_true.mp (List.all_eq_true.mp x4 F hF)
    refine ⟨K', hK', ⟨⟨W, hW, ab_leF_ok hle hg'⟩, hI', hJ', hFr, hfx⟩, ?_⟩
    unfold ab_rnk
    rw [x1, x2]
    show K'.2.1 + 0 < K.2.1 + 0
    omega
  · cases hx
/-- where there is a leak, the first weighs something -/
def ab_M4 (h : am_H) : Prop := ∀ l : Int32, h 164 14 = .int l → 1 ≤ l.toInt → ∃ v : Int32, h 173 0 = .int v ∧ 1 ≤ v.toInt
/-- the weights as numbers, and their sums -/
def ab_lw (h : am_H) (k : Nat) : Int32 := match h 173 k with
  | .int v => v
  | _ => 0
def ab_lS (h : am_H) : Nat → Int
  | 0 => 0
  | k + 1 => ab_lS h k + (ab_lw h k).toInt
theorem ab_lw_ok {h : am_H} (hI : ab_Inv (ab_hi ab_tab) h) {k : Nat} (hk : k < 12) : h 173 k = .int (ab_lw h k) ∧ 0 ≤ (ab_lw h k).toInt ∧ (ab_lw h k).toInt ≤ 99 := by
  have g := hI 173 k _ (show am_ks0[173]? = some (.inr (.int, 12)) by decide +kernel) hk
  rw [ab_hi_arr (show ab_isA ab_tab 173 = true by decide +kernel), show ab_hi ab_tab 173 0 = ab_i 0 99 by decide +kernel] at g
  obtain ⟨v, ev, v0, v1⟩ := g
  have e : ab_lw h k = v := by
    unfold ab_lw
    rw [ev]
  rw [e]
  exact ⟨ev, v0, v1⟩
theorem ab_lS_ok {h : am_H} (hI : ab_Inv (ab_hi ab_tab) h) : ∀ {k : Nat}, k ≤ 12 → 0 ≤ ab_lS h k ∧ ab_lS h k ≤ 99 * k
  | 0, _ => ⟨Int.le_refl _, Int.le_refl _⟩
  | k + 1, hk => by
    have ih := ab_lS_ok hI (k := k) (by omega)
    have hw := ab_lw_ok hI (k := k) (by omega)
    show 0 ≤ ab_lS h k + (ab_lw h k).toInt ∧ ab_lS h k + (ab_lw h k).toInt ≤ 99 * ((k + 1 : Nat) : Int)
    omega
theorem ab_lS_mono {h : am_H} (hI : ab_Inv (ab_hi ab_tab) h) {k : Nat} : ∀ {m : Nat}, k ≤ m → m ≤ 12 → ab_lS h k ≤ ab_lS h m := by
  intro m hkm
  induction hkm with
  | refl => intro _; exact Int.le_refl _
  | step hm ih =>
    intro h12
    have h1 := ih (by omega)
    have hw := ab_lw_ok hI (k := _) (Nat.lt_of_succ_le h12)
    exact Int.le_trans h1 (by show ab_lS h _ ≤ ab_lS h _ + (ab_lw h _).toInt; omega)
section ABBG
variable {h : am_H} {Q : Option Value → List am_k → am_H → Prop}
/-- the weights are summed -/
theorem ab_bg_sum (hI : ab_Inv (ab_hi ab_tab) h) {L : Int32} (hL : h 164 14 = .int L) (L1 : L.toInt ≤ 6)
    (K : ∀ s k : Int32, s.toInt = ab_lS h L.toInt.toNat → am_Ek false am_G0 am_m146 45 [(0, .ref 164), (1, .int s), (2, .int k)] [] am_ks0 h 0 0 Q) :
    ∀ (d q : Nat) (s k : Int32), (q : Int) + d = L.toInt → k.toInt = q → s.toInt = ab_lS h q → am_Ek false am_G0 am_m146 32 [(0, .ref 164), (1, .int s), (2, .int k)] [] am_ks0 h 0 0 Q := by
  have o1 : am_ks0[164]? = some (.inl 12) := by decide +kernel
  have k3 : am_ks0[173]? = some (.inr (.int, 12)) := by decide +kernel
  have z : ab_sz (.inl 12) = 81 := rfl
  have f28 : h 164 28 = .ref 173 := ab_ref1 hI o1 (by rw [z]; decide) (by decide +kernel)
  have e1 : (Int32.ofInt 1).toInt = 1 := by decide
  intro d
  induction d with
  | zero =>
    intro q s k hq hk hs
    refine am_e_iload_n (am_nxt_of (i := (52, 1, .iload_n 2, (0, 0, 0), 0)) (by decide +kernel)) (v := k) rfl ?_
    refine am_e_aload_n (am_nxt_of (i := (53, 1, .aload_n 0, (0, 0, 0), 0)) (by decide +kernel)) (v := 164) rfl ?_
    refine am_e_getf (am_nxt_of (i := (54, 3, .getfield 225, (12, 14, 1398), 0)) (by decide +kernel)) o1 hL ?_
    refine am_e_cmpT (am_nxt_of (i := (57, 3, .if_icmp .ge 18, (45, 0, 0), 0)) (by decide +kernel)) (am_c_geT (by rw [Int32.lt_iff_toInt_lt]; omega)) (am_tgt_of (by decide +kernel)) ?_
    exact K s k (by rw [hs, show L.toInt.toNat = q by omega])
  | succ d ih =>
    intro q s k hq hk hs
    have hw := ab_lw_ok hI (k := q) (by omega)
    have hS := ab_lS_ok hI (k := q) (by omega)
    have hix := ab_ix (x := k) (n := 12) (by omega) (by omega)
    refine am_e_iload_n (am_nxt_of (i := (52, 1, .iload_n 2, (0, 0, 0), 0)) (by decide +kernel)) (v := k) rfl ?_
    refine am_e_aload_n (am_nxt_of (i := (53, 1, .aload_n 0, (0, 0, 0), 0)) (by decide +kernel)) (v := 164) rfl ?_
    refine am_e_getf (am_nxt_of (i := (54, 3, .getfield 225, (12, 14, 1398), 0)) (by decide +kernel)) o1 hL ?_
    refine am_e_cmpF (am_nxt_of (i := (57, 3, .if_icmp .ge 18, (45, 0, 0), 0)) (by decide +kernel)) (am_c_geF (by rw [Int32.lt_iff_toInt_lt]; omega)) ?_
    refine am_e_iload_n (am_nxt_of (i := (60, 1, .iload_n 1, (0, 0, 0), 0)) (by decide +kernel)) (v := s) rfl ?_
    refine am_e_aload_n (am_nxt_of (i := (61, 1, .aload_n 0, (0, 0, 0), 0)) (by decide +kernel)) (v := 164) rfl ?_
    refine am_e_getf (am_nxt_of (i := (62, 3, .getfield 39, (12, 28, 1412), 0)) (by decide +kernel)) o1 f28 ?_
    refine am_e_iload_n (am_nxt_of (i := (65, 1, .iload_n 2, (0, 0, 0), 0)) (by decide +kernel)) (v := k) rfl ?_
    refine am_e_iaload (am_nxt_of (i := (66, 1, .iaload, (0, 0, 0), 0)) (by decide +kernel)) k3 hix (ab_clamp hk) hw.1 ?_
    refine am_e_iadd (am_nxt_of (i := (67, 1, .iadd, (0, 0, 0), 0)) (by decide +kernel)) rfl ?_
    refine am_e_istore_n (am_nxt_of (i := (68, 1, .istore_n 1, (0, 0, 0), 0)) (by decide +kernel)) (by decide +kernel) rfl ?_
    refine am_e_iinc (am_nxt_of (i := (69, 3, .iinc 2 1, (0, 0, 0), 0)) (by decide +kernel)) (v := k) rfl (by decide +kernel) rfl rfl ?_
    refine am_e_goto (am_cur_of (i := (72, 3, .goto (-20), (32, 0, 0), 0)) (by decide +kernel)) (am_tgt_of (by decide +kernel)) ?_
    refine am_Ek_ls (ls' := [(0, .ref 164), (1, .int (s + ab_lw h q)), (2, .int (k + Int32.ofInt 1))]) ⟨rfl, rfl, rfl, trivial⟩ ?_
    refine ih (q + 1) _ _ (by omega) ?_ ?_
    · rw [ab_iadd (by omega) (by omega), e1]
      omega
    · rw [ab_iadd (by omega) (by omega), hs]
      rfl
/-- the leak is sought -/
theorem ab_bg_seek {J : am_H → Prop} (hI : ab_Inv (ab_hi ab_tab) h) {L : Int32} (L1 : L.toInt ≤ 6)
    (hJf : ∀ h h', ab_Fr [(164, 59), (164, 60)] h h' → J h → J h') (hJ : J h)
    (K : ∀ (s n : Int32) (h' : am_H), ab_Fr [(164, 59), (164, 60)] h h' → ab_Inv (ab_hi ab_tab) h' → J h' → am_Ek false am_G0 am_m146 74 [(0, .ref 164), (1, .int s), (2, .int n)] [] am_ks0 h' 0 0 Q) :
    ∀ (d q : Nat) (s n r : Int32) (h' : am_H), (q : Int) + d = L.toInt → r.toInt = q → 0 ≤ n.toInt → n.toInt < ab_lS h L.toInt.toNat - ab_lS h q → ab_Fr [(164, 59), (164, 60)] h h' → ab_Inv (ab_hi ab_tab) h' → h' 164 58 = .int r → am_Ek false am_G0 am_m146 52 [(0, .ref 164), (1, .int s), (2, .int n)] [] am_ks0 h' 0 0 Q := by
  have o1 : am_ks0[164]? = some (.inl 12) := by decide +kernel
  have k3 : am_ks0[173]? = some (.inr (.int, 12)) := by decide +kernel
  have z : ab_sz (.inl 12) = 81 := rfl
  intro d
  induction d with
  | zero =>
    intro q s n r h' hq hr n0 n1 hFr hI' e58
    rw [show L.toInt.toNat = q by omega] at n1
    omega
  | succ d ih =>
    intro q s n r h' hq hr n0 n1 hFr hI' e58
    have f28 : h' 164 28 = .ref 173 := ab_ref1 hI' o1 (by rw [z]; decide) (by decide +kernel)
    have hw := ab_lw_ok hI (k := q) (by omega)
    have ew : h' 173 q = .int (ab_lw h q) := (hFr 173 q rfl).trans hw.1
    have hix := ab_ix (x := r) (n := 12) (by omega) (by omega)
    have hSL := ab_lS_ok hI (k := L.toInt.toNat) (by omega)
    have hSq := ab_lS_ok hI (k := q) (by omega)
    refine am_e_iload_n (am_nxt_of (i := (86, 1, .iload_n 2, (0, 0, 0), 0)) (by decide +kernel)) (v := n) rfl ?_
    refine am_e_aload_n (am_nxt_of (i := (87, 1, .aload_n 0, (0, 0, 0), 0)) (by decide +kernel)) (v := 164) rfl ?_
    refine am_e_getf (am_nxt_of (i := (88, 3, .getfield 39, (12, 28, 1412), 0)) (by decide +kernel)) o1 f28 ?_
    refine am_e_aload_n (am_nxt_of (i := (91, 1, .aload_n 0, (0, 0, 0), 0)) (by decide +kernel)) (v := 164) rfl ?_
    refine am_e_getf (am_nxt_of (i := (92, 3, .getfield 362, (12, 58, 1442), 0)) (by decide +kernel)) o1 e58 ?_
    refine am_e_iaload (am_nxt_of (i := (95, 1, .iaload, (0, 0, 0), 0)) (by decide +kernel)) k3 hix (ab_clamp hr) ew ?_
    by_cases hlt : n < ab_lw h q
    · refine am_e_cmpT (am_nxt_of (i := (96, 3, .if_icmp .lt 28, (74, 0, 0), 0)) (by decide +kernel)) (am_c_ltT hlt) (am_tgt_of (by decide +kernel)) ?_
      exact K s n h' hFr hI' (hJf h h' hFr hJ)
    · refine am_e_cmpF (am_nxt_of (i := (96, 3, .if_icmp .lt 28, (74, 0, 0), 0)) (by decide +kernel)) (am_c_ltF hlt) ?_
      rw [Int32.lt_iff_toInt_lt] at hlt
      refine am_e_iload_n (am_nxt_of (i := (99, 1, .iload_n 2, (0, 0, 0), 0)) (by decide +kernel)) (v := n) rfl ?_
      refine am_e_aload_n (am_nxt_of (i := (100, 1, .aload_n 0, (0, 0, 0), 0)) (by decide +kernel)) (v := 164) rfl ?_
      refine am_e_getf (am_nxt_of (i := (101, 3, .getfield 39, (12, 28, 1412), 0)) (by decide +kernel)) o1 f28 ?_
      refine am_e_aload_n (am_nxt_of (i := (104, 1, .aload_n 0, (0, 0, 0), 0)) (by decide +kernel)) (v := 164) rfl ?_
      refine am_e_getf (am_nxt_of (i := (105, 3, .getfield 362, (12, 58, 1442), 0)) (by decide +kernel)) o1 e58 ?_
      refine am_e_iaload (am_nxt_of (i := (108, 1, .iaload, (0, 0, 0), 0)) (by decide +kernel)) k3 hix (ab_clamp hr) ew ?_
      refine am_e_isub (am_nxt_of (i := (109, 1, .isub, (0, 0, 0), 0)) (by decide +kernel)) rfl ?_
      refine am_e_istore_n (am_nxt_of (i := (110, 1, .istore_n 2, (0, 0, 0), 0)) (by decide +kernel)) (by decide +kernel) rfl ?_
      refine am_e_aload_n (am_nxt_of (i := (111, 1, .aload_n 0, (0, 0, 0), 0)) (by decide +kernel)) (v := 164) rfl ?_
      refine am_e_dup (am_nxt_of (i := (112, 1, .dup, (0, 0, 0), 0)) (by decide +kernel)) rfl ?_
      refine am_e_getf (am_nxt_of (i := (113, 3, .getfield 362, (12, 58, 1442), 0)) (by decide +kernel)) o1 e58 ?_
      refine am_e_iconst (w := 1) (am_nxt_of (i := (116, 1, .iconst 1, (0, 0, 0), 0)) (by decide +kernel)) rfl ?_
      refine am_e_iadd (am_nxt_of (i := (117, 1, .iadd, (0, 0, 0), 0)) (by decide +kernel)) rfl ?_
      refine am_e_putf (am_nxt_of (i := (118, 3, .putfield 362, (12, 58, 1442), 0)) (by decide +kernel)) o1 rfl ?_
      refine am_e_goto (am_cur_of (i := (121, 3, .goto (-35), (52, 0, 0), 0)) (by decide +kernel)) (am_tgt_of (by decide +kernel)) ?_
      have e1 : (1 : Int32).toInt = 1 := by decide
      have er : (r + 1).toInt = q + 1 := by rw [ab_iadd (by omega) (by omega), e1, hr]
      have en : (n - ab_lw h q).toInt = n.toInt - (ab_lw h q).toInt := ab_isub (by omega) (by omega)
      have hS1 : ab_lS h (q + 1) = ab_lS h q + (ab_lw h q).toInt := rfl
      have hq1 : q + 1 < L.toInt.toNat := by
        by_cases hc : q + 1 < L.toInt.toNat
        · exact hc
        · have : L.toInt.toNat = q + 1 := by omega
          rw [this] at n1
          omega
      refine am_Ek_ls (ls' := [(0, .ref 164), (1, .int s), (2, .int (n - ab_lw h q))]) ⟨rfl, rfl, rfl, trivial⟩ ?_
      refine ih (q + 1) _ _ (r + 1) _ (by omega) (by omega) (by omega) (by omega) (ab_Fr_up (by decide) hFr) (ab_Inv_up hI' ?_) (am_up_self _ _ _ _)
      rw [show ab_hi ab_tab 164 58 = ab_i (-1) 5 by decide +kernel]
      exact ab_i_ok (by omega) (by omega)
end ABBG
def ab_bgg (F : ab_F) : ab_F := ([(0, (4, 0, 0, [164]))], [], (ab_drop [(164, 59), (164, 60)] F []).2.2)
theorem ab_bg_hole {J : am_H → Prop} (hM : ∀ h, J h → ab_M4 h) (hJf : ∀ h h', ab_Fr [(164, 59), (164, 60)] h h' → J h → J h') {md : List (Nat × Nat)} {ct : List (Option ab_K)} {as : List Value} {h0 : am_H} {Q : Option Value → List am_k → am_H → Prop}
    (hw : ab_wkB ct 28 ([(0, (4, 0, 0, [164]))], [], [((165, 14), ab_i 1 6)]) = true) (hx : ab_exN ct ab_bgg 28 74 = true) (hm : ab_mdle [(164, 59), (164, 60)] md = true) : ab_Hole ab_tab J md [] am_m146 ct as h0 Q ab_rnk 28 := by
  intro K hK ls st h hst IH
  obtain ⟨⟨F, hF, hg⟩, hI, hJ, hFr, hfx⟩ := hst
  have hW := ab_wkB_ok hw hK hF hg
  have l0 := ab_locR hW (j := 0) (o := 164) (by simp)
  obtain ⟨L, eL, L0, L1⟩ := ab_plI hW (o := 164) (k := 14) (l := 1) (u := 6) (by simp)
  have hs0 := ab_st0 hW rfl
  subst hs0
  obtain ⟨v, ev, v1⟩ := hM h hJ L eL L0
  have hw0 := ab_lw_ok hI (k := 0) (by decide)
  have ev0 : ab_lw h 0 = v := by
    have := hw0.1
    rw [ev] at this
    cases this
    rfl
  have hS1 : 1 ≤ ab_lS h L.toInt.toNat := by
    have h1 := ab_lS_mono hI (k := 1) (m := L.toInt.toNat) (by omega) (by omega)
    have h2 : ab_lS h 1 = 0 + (ab_lw h 0).toInt := rfl
    rw [ev0] at h2
    omega
  have o1 : am_ks0[164]? = some (.inl 12) := by decide +kernel
  refine am_Ek_ls (ls' := [(0, .ref 164)]) ⟨l0, trivial⟩ ?_
  refine am_e_iconst (w := 0) (am_nxt_of (i := (48, 1, .iconst 0, (0, 0, 0), 0)) (by decide +kernel)) rfl ?_
  refine am_e_istore_n (am_nxt_of (i := (49, 1, .istore_n 1, (0, 0, 0), 0)) (by decide +kernel)) (by decide +kernel) rfl ?_
  refine am_e_iconst (w := 0) (am_nxt_of (i := (50, 1, .iconst 0, (0, 0, 0), 0)) (by decide +kernel)) rfl ?_
  refine am_e_istore_n (am_nxt_of (i := (51, 1, .istore_n 2, (0, 0, 0), 0)) (by decide +kernel)) (by decide +kernel) rfl ?_
  refine am_Ek_ls (ls' := [(0, .ref 164), (1, .int 0), (2, .int 0)]) ⟨rfl, rfl, rfl, trivial⟩ ?_
  refine ab_bg_sum hI eL L1 (fun s k hs => ?_) L.toInt.toNat 0 0 0 (by omega) (by decide) (show (0 : Int32).toInt = 0 by decide)
  refine am_e_aload_n (am_nxt_of (i := (75, 1, .aload_n 0, (0, 0, 0), 0)) (by decide +kernel)) (v := 164) rfl ?_
  refine am_e_iload_n (am_nxt_of (i := (76, 1, .iload_n 1, (0, 0, 0), 0)) (by decide +kernel)) (v := s) rfl ?_
  refine am_e_callV (M' := am_m148) (o := 164) (ar := [.int s]) (rest := []) (L := lv_args 0 [.ref 164, .int s]) (am_nxt_of (i := (77, 3, .invokevirtual 365, (148, 1376, 3), 0)) (by decide +kernel)) rfl rfl rfl rfl o1 rfl rfl rfl ?_
  refine am_Ev_mono (ab_number1 hI (by omega)) (fun r ks h' hq => ?_)
  obtain ⟨rfl, g, d, rfl, rfl, g0, g1⟩ := hq
  show am_Ek false am_G0 am_m146 48 [(0, .ref 164), (1, .int s), (2, .int k)] [.int g] am_ks0 (am_up h 164 59 (.long d)) 0 0 Q
  refine am_e_istore_n (am_nxt_of (i := (80, 1, .istore_n 2, (0, 0, 0), 0)) (by decide +kernel)) (by decide +kernel) rfl ?_
  refine am_e_aload_n (am_nxt_of (i := (81, 1, .aload_n 0, (0, 0, 0), 0)) (by decide +kernel)) (v := 164) rfl ?_
  refine am_e_iconst (w := 0) (am_nxt_of (i := (82, 1, .iconst 0, (0, 0, 0), 0)) (by decide +kernel)) rfl ?_
  refine am_e_putf (am_nxt_of (i := (83, 3, .putfield 362, (12, 58, 1442), 0)) (by decide +kernel)) o1 rfl ?_
  refine am_Ek_ls (ls' := [(0, .ref 164), (1, .int s), (2, .int g)]) ⟨rfl, rfl, rfl, trivial⟩ ?_
  have hfr : ab_Fr [(164, 59), (164, 60)] h (am_up (am_up h 164 59 (.long d)) 164 58 (.int 0)) := ab_Fr_up (by decide) (ab_Fr_up (by decide) ab_Fr_refl)
  have hI' : ab_Inv (ab_hi ab_tab) (am_up (am_up h 164 59 (.long d)) 164 58 (.int 0)) := by
    refine ab_Inv_up (ab_Inv_up hI ?_) ?_
    · rw [show ab_hi ab_tab 164 59 = (1, 0, 0, []) by decide +kernel]
      exact ⟨d, rfl⟩
    · rw [show ab_hi ab_tab 164 58 = ab_i (-1) 5 by decide +kernel]
      exact ab_i_ok (by decide) (by decide)
  refine ab_bg_seek hI L1 hJf hJ (fun s' n' h2 hfr2 hI2 hJ2 => ?_) L.toInt.toNat 0 s g 0 _ (by omega) (by decide) g0 ?_ hfr hI' (am_up_self _ _ _ _)
  · have hd := ab_drop_ok (es := []) (st := []) hg.1 trivial hg.2.2 hfr2
    have hG : ab_gF (ab_bgg F) [(0, .ref 164)] [] h2 := by
      refine ⟨fun q hq => ?_, trivial, fun q hq => ?_⟩
      · have e := List.mem_singleton.mp hq
        subst e
        exact ⟨.ref 164, rfl, 164, rfl, List.mem_singleton.mpr rfl⟩
      · obtain ⟨w, q1, q2⟩ := hd.2.2 q hq
        refine ⟨w, ?_, q2⟩
        have hq0 := (List.mem_filter.mp hq).2
        obtain ⟨⟨p1, p2⟩, V⟩ := q
        cases p1 with
        | zero => cases hq0
        | succ o => exact q1
    refine am_Ek_ls (ls' := [(0, .ref 164)]) ⟨rfl, trivial⟩ ?_
    obtain ⟨K', hK', hS', hlt'⟩ := ab_exN_ok (ls := ls) (h := h) (fx := []) (as := as) hx hK hF hG hI2 hJ2 (ab_Fr_trans hFr (ab_mdle_Fr hm hfr2)) (fun w hw => absurd hw List.not_mem_nil)
    exact IH 74 K' hK' _ _ _ hS' hlt'
  · show g.toInt < ab_lS h L.toInt.toNat - 0
    omega
