set_option maxHeartbeats 400000
/-! ===== SECONDS AND HOW FULL IT IS (wip/r/gen99sl.py) ===== -/
/-- how full it is behind a second -/
def secZ (p : Nat) (h0_z : am_H) (U Hd pu pf mo o F S : Int32) : Int := if pu = 0 then max 0 (F.toInt - bnd (lawX p h0_z 0 (eC (ldX p h0_z U F (Hd - F) o S) F (Hd - F) o S 0)) (F.toInt / 100 + 20 * o.toInt) 999 - mo.toInt) else min (max 0 (F.toInt - bnd (lawX p h0_z 0 (eC (ldX p h0_z U F (Hd - F) o S) F (Hd - F) o S 0)) (F.toInt / 100 + 20 * o.toInt) 999 - mo.toInt) + pf.toInt) Hd.toInt
/-- k seconds -/
def gR (Z : Int32 → Int32 → Int) : Nat → Int32 → Int32 → Int32 → Prop
  | 0, F, _, G => G = F
  | k + 1, F, S, G => ∃ F1, F1.toInt = Z F S ∧ gR Z k F1 (S + 1) G
/-- the least of them -/
def gL (Z : Int32 → Int32 → Int) : Nat → Int32 → Int32 → Int32 → Int32 → Prop
  | 0, _, _, a, b => b = a
  | k + 1, F, S, a, b => ∃ F1 a1_z, F1.toInt = Z F S ∧ a1_z.toInt = min a.toInt F1.toInt ∧ gL Z k F1 (S + 1) a1_z b
theorem gR_u {Z : Int32 → Int32 → Int} : ∀ (k : Nat) (F S A B : Int32), gR Z k F S A → gR Z k F S B → A = B
  | 0, _, _, _, _, a, b => a.trans b.symm
  | k + 1, F, S, A, B, a, b => by
    obtain ⟨F1, e1_z, a1_z⟩ := a
    obtain ⟨F2, e2_z, b1_z⟩ := b
    have e : F1 = F2 := Int32.toInt_inj.mp (e1_z.trans e2_z.symm)
    subst e
    exact gR_u k F1 (S + 1) A B a1_z b1_z
theorem gL_u {Z : Int32 → Int32 → Int} : ∀ (k : Nat) (F S x A B : Int32), gL Z k F S x A → gL Z k F S x B → A = B
  | 0, _, _, _, _, _, a, b => a.trans b.symm
  | k + 1, F, S, x, A, B, a, b => by
    obtain ⟨F1, x1_z, e1_z, m1_z, a1_z⟩ := a
    obtain ⟨F2, x2_z, e2_z, m2_z, b1_z⟩ := b
    have e : F1 = F2 := Int32.toInt_inj.mp (e1_z.trans e2_z.symm)
    subst e
    have e : x1_z = x2_z := Int32.toInt_inj.mp (m1_z.trans m2_z.symm)
    subst e
    exact gL_u k F1 (S + 1) x1_z A B a1_z b1_z
/-- one second more -/
theorem gR_s {Z : Int32 → Int32 → Int} : ∀ (k : Nat) (F S A B : Int32), gR Z k F S A → (∀ T : Int32, T = S + Int32.ofNat k → B.toInt = Z A T) → gR Z (k + 1) F S B
  | 0, F, S, A, B, a, b => by
    have e : A = F := a
    subst e
    exact ⟨B, b S (by rw [show Int32.ofNat 0 = 0 by decide, Int32.add_zero]), rfl⟩
  | k + 1, F, S, A, B, a, b => by
    obtain ⟨F1, e1_z, a1_z⟩ := a
    refine ⟨F1, e1_z, gR_s k F1 (S + 1) A B a1_z (fun T e => b T (e.trans ?_))⟩
    rw [Int32.add_assoc, Int32.ofNat_add, Int32.add_comm 1, show Int32.ofNat 1 = 1 by decide]
theorem bnd_w {q : Option Int} {wo mo : Int} (w0_z : 0 ≤ wo) (m0_z : 0 ≤ mo) : 0 ≤ bnd q wo mo ∧ (bnd q wo mo ≤ wo ∨ bnd q wo mo ≤ mo) := by
  match q with
  | none => exact ⟨w0_z, Or.inl (Int.le_refl _)⟩
  | some z =>
    show 0 ≤ (if z < 0 then 0 else if mo < z then mo else z) ∧ ((if z < 0 then 0 else if mo < z then mo else z) ≤ wo ∨ (if z < 0 then 0 else if mo < z then mo else z) ≤ mo)
    split
    · omega
    · split
      · omega
      · omega
theorem dv_100 {F : Int32} (h : 0 ≤ F.toInt) : (F / 100).toInt = F.toInt / 100 := by
  have z : (100 : Int32).toInt = 100 := by decide
  have q := ab_32 F
  rw [Int32.toInt_div, z, Int.tdiv_eq_ediv_of_nonneg h]
  exact ab_bm (by omega) (by omega)
theorem lawX_c {k p : Nat} {h h0_z : am_H} {N : Nat → Int64} (e : ∀ o q, p + 10 ≤ o → o ≤ p + 14 → rg_v h o q = rg_v h0_z o q) : lawX p h k N = lawX p h0_z k N := lawX_e (fun o q a b => e o q a (by omega))
theorem ldX_c {p : Nat} {h h0_z : am_H} {U F R o s : Int32} (e : ∀ o q, p + 10 ≤ o → o ≤ p + 14 → rg_v h o q = rg_v h0_z o q) : ldX p h U F R o s = ldX p h0_z U F R o s := by
  unfold ldX ldZ
  rw [lawX_c e]
/-- what seconds may change in the class -/
def gF (c p : Nat) (h h' : am_H) : Prop := ∀ o k, ¬ o = p + 15 → ¬ o = p + 16 → ¬ (o = c + 1 ∧ k ≤ 1) → ¬ (o = c ∧ k = 6) → h' o k = h o k
theorem gF_r {c p : Nat} {h : am_H} : gF c p h h := fun _ _ _ _ _ _ => rfl
theorem gF_t {c p : Nat} {h h' h'' : am_H} (a : gF c p h h') (b : gF c p h' h'') : gF c p h h'' := fun o k e f g i => (b o k e f g i).trans (a o k e f g i)
theorem mx_0 {a v : Int32} (e : (if a < 0 then 0 else a) = v) : v.toInt = max 0 a.toInt := by
  have z : (0 : Int32).toInt = 0 := by decide
  split at e
  · rename_i q
    have q2_z := ab_lt_iff.mp q
    rw [z] at q2_z
    rw [← e, z]
    omega
  · rename_i q
    have q2_z : ¬ a.toInt < (0 : Int32).toInt := fun y => q (ab_lt_iff.mpr y)
    rw [z] at q2_z
    rw [← e]
    omega
theorem mn_2 {a b v : Int32} (e : (if b < a then b else a) = v) : v.toInt = min a.toInt b.toInt := by
  split at e
  · rename_i q
    have q2_z := ab_lt_iff.mp q
    rw [← e]
    omega
  · rename_i q
    have q2_z : ¬ b.toInt < a.toInt := fun y => q (ab_lt_iff.mpr y)
    rw [← e]
    omega
/-- what the real leak loses -/
def leZ (real pt : Int32) (lo : Nat → Int32) : Int32 := if real.toInt < 0 then 0 else if ¬ ((pt >>> (real &&& 31)) &&& 1).toInt = 0 then 0 else lo real.toNatClampNeg
theorem ip_76_149 {n : Nat} {r : Option Value} {h h' : am_H} {k pt : Int32} (ePt : rg_v h 149 4 = pt) (hc_z : rn n am_m76 0 (lv_args 0 [.ref 149, .int k]) [] h r h') : ∃ x : Int32, r = some (.int x) ∧ h' = h ∧ ((x.toInt = 0 ∧ ((pt >>> (k &&& 31)) &&& 1).toInt = 0) ∨ (x.toInt = 1 ∧ ¬ ((pt >>> (k &&& 31)) &&& 1).toInt = 0)) := by
  have z0_z : (0 : Int32).toInt = 0 := by decide
  have z1_z : (1 : Int32).toInt = 1 := by decide
  have g0_z : am_get (lv_args 0 [.ref 149, .int k]) 0 = some (.ref 149) := rfl
  have g1_z : am_get (lv_args 0 [.ref 149, .int k]) 1 = some (.int k) := rfl
  replace hc_z := rn_aload_n (am_cur_of (i := (0, 1, .aload_n 0, (0, 0, 0), 0)) (by decide +kernel)) g0_z hc_z
  replace hc_z := rn_getI (v := pt) (am_cur_of (i := (1, 3, .getfield 42, (5, 4, 478), 0)) (by decide +kernel)) (by decide +kernel) ePt hc_z
  replace hc_z := rn_iload_n (am_cur_of (i := (4, 1, .iload_n 1, (0, 0, 0), 0)) (by decide +kernel)) g1_z hc_z
  replace hc_z := rn_ishr (w := pt >>> (k &&& 31)) (am_cur_of (i := (5, 1, .ishr, (0, 0, 0), 0)) (by decide +kernel)) rfl hc_z
  replace hc_z := rn_iconst (w := 1) (am_cur_of (i := (6, 1, .iconst 1, (0, 0, 0), 0)) (by decide +kernel)) (by decide) hc_z
  replace hc_z := rn_iand (w := (pt >>> (k &&& 31)) &&& 1) (am_cur_of (i := (7, 1, .iand, (0, 0, 0), 0)) (by decide +kernel)) rfl hc_z
  replace hc_z := rn_if (am_cur_of (i := (8, 3, .ifCond .eq 7, (9, 0, 0), 0)) (by decide +kernel)) hc_z
  rcases hc_z with ⟨b1_z, hc_z⟩ | ⟨b1_z, hc_z⟩
  · replace b1_z : ((pt >>> (k &&& 31)) &&& 1) = (0 : Int32) ∧ ((pt >>> (k &&& 31)) &&& 1).toInt = (0 : Int32).toInt := b1_z
    replace hc_z := rn_iconst (w := 0) (am_cur_of (i := (15, 1, .iconst 0, (0, 0, 0), 0)) (by decide +kernel)) (by decide) hc_z
    replace hc_z := rn_iret (am_cur_of (i := (16, 1, .ireturn, (0, 0, 0), 0)) (by decide +kernel)) hc_z
    obtain ⟨e2_z, e3_z⟩ := hc_z
    exact ⟨_, e2_z, e3_z, by omega⟩
  · replace b1_z : ¬ ((pt >>> (k &&& 31)) &&& 1) = (0 : Int32) ∧ ¬ ((pt >>> (k &&& 31)) &&& 1).toInt = (0 : Int32).toInt := b1_z
    replace hc_z := rn_iconst (w := 1) (am_cur_of (i := (11, 1, .iconst 1, (0, 0, 0), 0)) (by decide +kernel)) (by decide) hc_z
    replace hc_z := rn_goto (am_cur_of (i := (12, 3, .goto 4, (10, 0, 0), 0)) (by decide +kernel)) hc_z
    replace hc_z := rn_iret (am_cur_of (i := (16, 1, .ireturn, (0, 0, 0), 0)) (by decide +kernel)) hc_z
    obtain ⟨e4_z, e5_z⟩ := hc_z
    exact ⟨_, e4_z, e5_z, by omega⟩
theorem ip_76_154 {n : Nat} {r : Option Value} {h h' : am_H} {k pt : Int32} (ePt : rg_v h 154 4 = pt) (hc_z : rn n am_m76 0 (lv_args 0 [.ref 154, .int k]) [] h r h') : ∃ x : Int32, r = some (.int x) ∧ h' = h ∧ ((x.toInt = 0 ∧ ((pt >>> (k &&& 31)) &&& 1).toInt = 0) ∨ (x.toInt = 1 ∧ ¬ ((pt >>> (k &&& 31)) &&& 1).toInt = 0)) := by
  have z0_z : (0 : Int32).toInt = 0 := by decide
  have z1_z : (1 : Int32).toInt = 1 := by decide
  have g0_z : am_get (lv_args 0 [.ref 154, .int k]) 0 = some (.ref 154) := rfl
  have g1_z : am_get (lv_args 0 [.ref 154, .int k]) 1 = some (.int k) := rfl
  replace hc_z := rn_aload_n (am_cur_of (i := (0, 1, .aload_n 0, (0, 0, 0), 0)) (by decide +kernel)) g0_z hc_z
  replace hc_z := rn_getI (v := pt) (am_cur_of (i := (1, 3, .getfield 42, (5, 4, 478), 0)) (by decide +kernel)) (by decide +kernel) ePt hc_z
  replace hc_z := rn_iload_n (am_cur_of (i := (4, 1, .iload_n 1, (0, 0, 0), 0)) (by decide +kernel)) g1_z hc_z
  replace hc_z := rn_ishr (w := pt >>> (k &&& 31)) (am_cur_of (i := (5, 1, .ishr, (0, 0, 0), 0)) (by decide +kernel)) rfl hc_z
  replace hc_z := rn_iconst (w := 1) (am_cur_of (i := (6, 1, .iconst 1, (0, 0, 0), 0)) (by decide +kernel)) (by decide) hc_z
  replace hc_z := rn_iand (w := (pt >>> (k &&& 31)) &&& 1) (am_cur_of (i := (7, 1, .iand, (0, 0, 0), 0)) (by decide +kernel)) rfl hc_z
  replace hc_z := rn_if (am_cur_of (i := (8, 3, .ifCond .eq 7, (9, 0, 0), 0)) (by decide +kernel)) hc_z
  rcases hc_z with ⟨b6_z, hc_z⟩ | ⟨b6_z, hc_z⟩
  · replace b6_z : ((pt >>> (k &&& 31)) &&& 1) = (0 : Int32) ∧ ((pt >>> (k &&& 31)) &&& 1).toInt = (0 : Int32).toInt := b6_z
    replace hc_z := rn_iconst (w := 0) (am_cur_of (i := (15, 1, .iconst 0, (0, 0, 0), 0)) (by decide +kernel)) (by decide) hc_z
    replace hc_z := rn_iret (am_cur_of (i := (16, 1, .ireturn, (0, 0, 0), 0)) (by decide +kernel)) hc_z
    obtain ⟨e7_z, e8_z⟩ := hc_z
    exact ⟨_, e7_z, e8_z, by omega⟩
  · replace b6_z : ¬ ((pt >>> (k &&& 31)) &&& 1) = (0 : Int32) ∧ ¬ ((pt >>> (k &&& 31)) &&& 1).toInt = (0 : Int32).toInt := b6_z
    replace hc_z := rn_iconst (w := 1) (am_cur_of (i := (11, 1, .iconst 1, (0, 0, 0), 0)) (by decide +kernel)) (by decide) hc_z
    replace hc_z := rn_goto (am_cur_of (i := (12, 3, .goto 4, (10, 0, 0), 0)) (by decide +kernel)) hc_z
    replace hc_z := rn_iret (am_cur_of (i := (16, 1, .ireturn, (0, 0, 0), 0)) (by decide +kernel)) hc_z
    obtain ⟨e9_z, e10_z⟩ := hc_z
    exact ⟨_, e9_z, e10_z, by omega⟩
theorem gf_l148_2_0 {r : Option Value} {h0_z g h' : am_H} {m mo lim Hd U pu pf : Int32} (hL : LW 2 h0_z g) (H0 : 0 ≤ Hd.toInt) (H9 : Hd.toInt ≤ 9999) (p0_z : 0 ≤ pf.toInt) (p9_z : pf.toInt ≤ 9999) (m0_z : 0 ≤ mo.toInt) (m9_z : mo.toInt ≤ 999) : ∀ (f k : Nat) (i F S le : Int32) (ls : am_L) (h : am_H), h 148 0 = .ref 2 → (∀ o q, 2 + 10 ≤ o → o ≤ 2 + 14 → rg_v h o q = rg_v h0_z o q) → rg_v h 148 5 = lim → rg_v h 149 0 = F → rg_v h 149 1 = S → rg_v h 2 0 = Hd → rg_v h 148 3 = U → rg_v h 148 4 = pu → rg_v h 2 7 = pf → rg_v h 148 6 = le → 0 ≤ F.toInt → F.toInt ≤ 99999 → 0 ≤ S.toInt → S.toInt + k < 2147483647 → am_get ls 0 = some (.ref 148) → am_get ls 1 = some (.int m) → am_get ls 2 = some (.int 0) → am_get ls 4 = some (.int mo) → am_get ls 5 = some (.int i) → i.toInt + k = m.toInt → rn f am_m75 26 ls [] h r h' → ∃ (j : Nat) (F2 le2_z : Int32), j ≤ k ∧ ((j = k ∧ r = some (.int 1)) ∨ (j < k ∧ r = some (.int 0) ∧ lim.toInt ≤ S.toInt + j)) ∧ (∀ i, i < j → S.toInt + (i : Int) < lim.toInt) ∧ gR (secZ 2 h0_z U Hd pu pf mo 0) j F S F2 ∧ gL (secZ 2 h0_z U Hd pu pf mo 0) j F S le le2_z ∧ rg_v h' 149 0 = F2 ∧ (rg_v h' 149 1).toInt = S.toInt + j ∧ rg_v h' 148 6 = le2_z ∧ gF 148 2 h h' := by
  intro f
  induction f with
  | zero => intro k i F S le ls h D hC el eF eS eH eU ePu ePf eLe F0 F9 S0 S9 g0_z g1_z g2_z g4_z g5_z ik hc_z; exact absurd hc_z rn_0
  | succ f ih_z =>
    intro k i F S le ls h D hC el eF eS eH eU ePu ePf eLe F0 F9 S0 S9 g0_z g1_z g2_z g4_z g5_z ik hc_z
    have z0_z : (0 : Int32).toInt = 0 := by decide
    have z1_z : (1 : Int32).toInt = 1 := by decide
    have z20_z : (20 : Int32).toInt = 20 := by decide
    have z999_z : (999 : Int32).toInt = 999 := by decide
    replace hc_z := rn_iload (am_cur_of (i := (52, 2, .iload 5, (0, 0, 0), 0)) (by decide +kernel)) g5_z hc_z
    replace hc_z := rn_iload_n (am_cur_of (i := (54, 1, .iload_n 1, (0, 0, 0), 0)) (by decide +kernel)) g1_z hc_z
    replace hc_z := rn_cmp (am_cur_of (i := (55, 3, .if_icmp .ge 167, (108, 0, 0), 0)) (by decide +kernel)) hc_z
    rcases hc_z with ⟨b11_z, hc_z⟩ | ⟨b11_z, hc_z⟩
    · replace b11_z : m.toInt ≤ i.toInt := b11_z
      obtain rfl : k = 0 := by omega
      replace hc_z := rn_iconst (w := 1) (am_cur_of (i := (222, 1, .iconst 1, (0, 0, 0), 0)) (by decide +kernel)) (by decide) hc_z
      replace hc_z := rn_iret (am_cur_of (i := (223, 1, .ireturn, (0, 0, 0), 0)) (by decide +kernel)) hc_z
      obtain ⟨e12_z, e13_z⟩ := hc_z
      exact ⟨0, F, le, Nat.le_refl 0, Or.inl ⟨rfl, e12_z⟩, fun i hi_z => absurd hi_z (by omega), rfl, rfl, by rw [e13_z]; exact eF, by rw [e13_z, eS]; omega, by rw [e13_z]; exact eLe, by rw [e13_z]; exact gF_r⟩
    · replace b11_z : i.toInt < m.toInt := b11_z
      obtain ⟨k, rfl⟩ : ∃ k2_z, k = k2_z + 1 := ⟨k - 1, by omega⟩
      have ci_z := fk_c1 b11_z
      have cs := ab_iadd (x := S) (y := 1) (by omega) (by omega)
      replace hc_z := rn_aload_n (am_cur_of (i := (58, 1, .aload_n 0, (0, 0, 0), 0)) (by decide +kernel)) g0_z hc_z
      replace hc_z := rn_getR (x := 149) (am_cur_of (i := (59, 3, .getfield 12, (8, 1, 569), 0)) (by decide +kernel)) (by decide +kernel) hc_z
      replace hc_z := rn_getI (v := S) (am_cur_of (i := (62, 3, .getfield 59, (5, 1, 470), 0)) (by decide +kernel)) (by decide +kernel) eS hc_z
      replace hc_z := rn_aload_n (am_cur_of (i := (65, 1, .aload_n 0, (0, 0, 0), 0)) (by decide +kernel)) g0_z hc_z
      replace hc_z := rn_getI (v := lim) (am_cur_of (i := (66, 3, .getfield 43, (8, 5, 580), 0)) (by decide +kernel)) (by decide +kernel) el hc_z
      replace hc_z := rn_cmp (am_cur_of (i := (69, 3, .if_icmp .lt 5, (37, 0, 0), 0)) (by decide +kernel)) hc_z
      rcases hc_z with ⟨b14_z, hc_z⟩ | ⟨b14_z, hc_z⟩
      · replace b14_z : S.toInt < lim.toInt := b14_z
        replace hc_z := rn_aload_n (am_cur_of (i := (74, 1, .aload_n 0, (0, 0, 0), 0)) (by decide +kernel)) g0_z hc_z
        replace hc_z := rn_getR (x := 149) (am_cur_of (i := (75, 3, .getfield 12, (8, 1, 569), 0)) (by decide +kernel)) (by decide +kernel) hc_z
        replace hc_z := rn_getI (v := F) (am_cur_of (i := (78, 3, .getfield 49, (5, 0, 463), 0)) (by decide +kernel)) (by decide +kernel) eF hc_z
        replace hc_z := rn_bipush (w := 100) (am_cur_of (i := (81, 2, .bipush 100, (0, 0, 0), 0)) (by decide +kernel)) (by decide) hc_z
        replace hc_z := rn_idiv (w := F / 100) (am_cur_of (i := (83, 1, .idiv, (0, 0, 0), 0)) (by decide +kernel)) rfl hc_z
        obtain ⟨d15_z, hc_z⟩ := hc_z
        replace hc_z := rn_iload_n (am_cur_of (i := (84, 1, .iload_n 2, (0, 0, 0), 0)) (by decide +kernel)) g2_z hc_z
        replace hc_z := rn_ifT (am_cur_of (i := (85, 3, .ifCond .eq 8, (46, 0, 0), 0)) (by decide +kernel)) (by decide) hc_z
        replace hc_z := rn_iconst (w := 0) (am_cur_of (i := (93, 1, .iconst 0, (0, 0, 0), 0)) (by decide +kernel)) (by decide) hc_z
        replace hc_z := rn_iadd (w := (F / 100) + 0) (am_cur_of (i := (94, 1, .iadd, (0, 0, 0), 0)) (by decide +kernel)) rfl hc_z
        replace hc_z := rn_istore (am_cur_of (i := (95, 2, .istore 6, (0, 0, 0), 0)) (by decide +kernel)) hc_z
        obtain ⟨_, s16_z, s17_z, g6_z, hc_z⟩ := hc_z
        replace g0_z := s16_z 0 _ (by decide) rfl g0_z
        replace g1_z := s16_z 1 _ (by decide) rfl g1_z
        replace g2_z := s16_z 2 _ (by decide) rfl g2_z
        replace g4_z := s16_z 4 _ (by decide) rfl g4_z
        replace g5_z := s16_z 5 _ (by decide) rfl g5_z
        clear s16_z s17_z
        replace hc_z := rn_aload_n (am_cur_of (i := (97, 1, .aload_n 0, (0, 0, 0), 0)) (by decide +kernel)) g0_z hc_z
        replace hc_z := rn_iconst (w := 0) (am_cur_of (i := (98, 1, .iconst 0, (0, 0, 0), 0)) (by decide +kernel)) (by decide) hc_z
        replace hc_z := rn_iload_n (am_cur_of (i := (99, 1, .iload_n 2, (0, 0, 0), 0)) (by decide +kernel)) g2_z hc_z
        replace hc_z := rn_ifT (am_cur_of (i := (100, 3, .ifCond .eq 7, (55, 0, 0), 0)) (by decide +kernel)) (by decide) hc_z
        replace hc_z := rn_iconst (w := 0) (am_cur_of (i := (107, 1, .iconst 0, (0, 0, 0), 0)) (by decide +kernel)) (by decide) hc_z
        replace hc_z := rn_iconst (w := 0) (am_cur_of (i := (108, 1, .iconst 0, (0, 0, 0), 0)) (by decide +kernel)) (by decide) hc_z
        replace hc_z := rn_callV (M' := am_m65) (o := 148) (ar := [.int 0, .int 0, .int 0]) (rest := []) (L := lv_args 0 [.ref 148, .int 0, .int 0, .int 0]) (am_cur_of (i := (109, 3, .invokevirtual 94, (65, 973, 3), 0)) (by decide +kernel)) rfl rfl rfl rfl hc_z
        obtain ⟨r18_z, h19_z, q20_z, hc_z⟩ := hc_z
        obtain ⟨wx, rr, -, x2_z, fx⟩ := wo_65_148_2 D (LW_e hC (fun _ _ _ => rfl) hL) eF eS eH eU (by decide) q20_z
        subst rr
        have x3_z := x2_z (by decide)
        rw [show (0 : Int32).toNatClampNeg = 0 by decide, ldX_c hC, lawX_c hC] at x3_z
        have el1_z : rg_v h19_z 148 5 = lim := (lw_v (fx 148 5 (by decide) (by decide))).trans el
        have eF1 : rg_v h19_z 149 0 = F := (lw_v (fx 149 0 (by decide) (by decide))).trans eF
        have eS1 : rg_v h19_z 149 1 = S := (lw_v (fx 149 1 (by decide) (by decide))).trans eS
        have eH1 : rg_v h19_z 2 0 = Hd := (lw_v (fx 2 0 (by decide) (by decide))).trans eH
        have ePu1 : rg_v h19_z 148 4 = pu := (lw_v (fx 148 4 (by decide) (by decide))).trans ePu
        have ePf1 : rg_v h19_z 2 7 = pf := (lw_v (fx 2 7 (by decide) (by decide))).trans ePf
        have eLe1 : rg_v h19_z 148 6 = le := (lw_v (fx 148 6 (by decide) (by decide))).trans eLe
        have D1 : h19_z 148 0 = .ref 2 := (fx 148 0 (by decide) (by decide)).trans D
        replace hc_z : rn _ _ _ _ [.long wx] _ _ _ := hc_z
        replace hc_z := rn_sipush (w := 999) (am_cur_of (i := (112, 3, .sipush 999, (0, 0, 0), 0)) (by decide +kernel)) (by decide) hc_z
        replace hc_z := rn_iload (am_cur_of (i := (115, 2, .iload 6, (0, 0, 0), 0)) (by decide +kernel)) g6_z hc_z
        replace hc_z := rn_callS (M' := am_m68) (ar := [.int ((F / 100) + 0), .int 999, .long wx]) (rest := []) (L := lv_args 0 [.long wx, .int 999, .int ((F / 100) + 0)]) (am_cur_of (i := (117, 3, .invokestatic 80, (68, 935, 3), 0)) (by decide +kernel)) rfl rfl rfl rfl hc_z
        obtain ⟨r21_z, h22_z, q23_z, hc_z⟩ := hc_z
        have dv := dv_100 (F := F) (by omega)
        have dw := ab_iadd (x := F / 100) (y := 0) (by omega) (by omega)
        obtain ⟨xl, rr, hh, xe⟩ := wi_68 x3_z (fun z e => lawX_b (hL 0 (by decide)) (fun q _ => eC_b q) e) (by decide) q23_z
        replace hh := hh.symm
        subst rr
        subst hh
        have eWo : (F / 100 + 0).toInt = F.toInt / 100 + 20 * (0 : Int32).toInt := by
          have y1_z : (1 : Int32).toInt = 1 := by decide
          have y0_z : (0 : Int32).toInt = 0 := by decide
          omega
        rw [eWo, show (999 : Int32).toInt = 999 by decide] at xe
        have bw := bnd_w (q := lawX 2 h0_z 0 (eC (ldX 2 h0_z U F (Hd - F) 0 S) F (Hd - F) 0 S 0)) (wo := F.toInt / 100 + 20 * (0 : Int32).toInt) (mo := 999) (by omega) (by decide)
        rw [← xe] at bw
        have c1_z := ab_iadd (x := xl) (y := mo) (by omega) (by omega)
        have c2_z := ab_isub (x := F) (y := xl + mo) (by omega) (by omega)
        replace hc_z : rn _ _ _ _ [.int xl] _ _ _ := hc_z
        replace hc_z := rn_iload (am_cur_of (i := (120, 2, .iload 4, (0, 0, 0), 0)) (by decide +kernel)) g4_z hc_z
        replace hc_z := rn_iadd (w := xl + mo) (am_cur_of (i := (122, 1, .iadd, (0, 0, 0), 0)) (by decide +kernel)) rfl hc_z
        replace hc_z := rn_istore (am_cur_of (i := (123, 2, .istore 7, (0, 0, 0), 0)) (by decide +kernel)) hc_z
        obtain ⟨_, s24_z, s25_z, g7_z, hc_z⟩ := hc_z
        replace g0_z := s24_z 0 _ (by decide) rfl g0_z
        replace g1_z := s24_z 1 _ (by decide) rfl g1_z
        replace g2_z := s24_z 2 _ (by decide) rfl g2_z
        replace g4_z := s24_z 4 _ (by decide) rfl g4_z
        replace g5_z := s24_z 5 _ (by decide) rfl g5_z
        replace g6_z := s24_z 6 _ (by decide) rfl g6_z
        clear s24_z s25_z
        replace hc_z := rn_aload_n (am_cur_of (i := (125, 1, .aload_n 0, (0, 0, 0), 0)) (by decide +kernel)) g0_z hc_z
        replace hc_z := rn_getR (x := 149) (am_cur_of (i := (126, 3, .getfield 12, (8, 1, 569), 0)) (by decide +kernel)) (by decide +kernel) hc_z
        replace hc_z := rn_aload_n (am_cur_of (i := (129, 1, .aload_n 0, (0, 0, 0), 0)) (by decide +kernel)) g0_z hc_z
        replace hc_z := rn_getR (x := 149) (am_cur_of (i := (130, 3, .getfield 12, (8, 1, 569), 0)) (by decide +kernel)) (by decide +kernel) hc_z
        replace hc_z := rn_getI (v := F) (am_cur_of (i := (133, 3, .getfield 49, (5, 0, 463), 0)) (by decide +kernel)) (by decide +kernel) eF1 hc_z
        replace hc_z := rn_iload (am_cur_of (i := (136, 2, .iload 7, (0, 0, 0), 0)) (by decide +kernel)) g7_z hc_z
        replace hc_z := rn_isub (w := F - (xl + mo)) (am_cur_of (i := (138, 1, .isub, (0, 0, 0), 0)) (by decide +kernel)) rfl hc_z
        replace hc_z := rn_iconst (w := 0) (am_cur_of (i := (139, 1, .iconst 0, (0, 0, 0), 0)) (by decide +kernel)) (by decide) hc_z
        obtain ⟨m26_z, e27_z⟩ : ∃ mq : Int32, (if F - (xl + mo) < 0 then 0 else F - (xl + mo)) = mq := ⟨_, rfl⟩
        replace hc_z := rn_max (w := m26_z) (am_cur_of (i := (140, 3, .invokestatic 98, (0, 974, 1), 0)) (by decide +kernel)) e27_z hc_z
        replace e27_z := mx_0 e27_z
        have c3_z := ab_iadd (x := m26_z) (y := pf) (by omega) (by omega)
        replace hc_z := rn_put (am_cur_of (i := (143, 3, .putfield 49, (5, 0, 463), 0)) (by decide +kernel)) (by decide +kernel) hc_z
        replace hc_z := rn_aload_n (am_cur_of (i := (146, 1, .aload_n 0, (0, 0, 0), 0)) (by decide +kernel)) g0_z hc_z
        replace hc_z := rn_getI (v := pu) (am_cur_of (i := (147, 3, .getfield 37, (8, 4, 577), 0)) (by decide +kernel)) (by decide +kernel) ((rg_v_other (by omega)).trans (ePu1)) hc_z
        replace hc_z := rn_if (am_cur_of (i := (150, 3, .ifCond .eq 35, (91, 0, 0), 0)) (by decide +kernel)) hc_z
        rcases hc_z with ⟨b28_z, hc_z⟩ | ⟨b28_z, hc_z⟩
        · replace b28_z : pu = (0 : Int32) ∧ pu.toInt = (0 : Int32).toInt := b28_z
          replace hc_z := rn_aload_n (am_cur_of (i := (185, 1, .aload_n 0, (0, 0, 0), 0)) (by decide +kernel)) g0_z hc_z
          replace hc_z := rn_getR (x := 149) (am_cur_of (i := (186, 3, .getfield 12, (8, 1, 569), 0)) (by decide +kernel)) (by decide +kernel) hc_z
          replace hc_z := rn_dup (am_cur_of (i := (189, 1, .dup, (0, 0, 0), 0)) (by decide +kernel)) hc_z
          replace hc_z := rn_getI (v := S) (am_cur_of (i := (190, 3, .getfield 59, (5, 1, 470), 0)) (by decide +kernel)) (by decide +kernel) ((rg_v_other (by omega)).trans (eS1)) hc_z
          replace hc_z := rn_iconst (w := 1) (am_cur_of (i := (193, 1, .iconst 1, (0, 0, 0), 0)) (by decide +kernel)) (by decide) hc_z
          replace hc_z := rn_iadd (w := S + 1) (am_cur_of (i := (194, 1, .iadd, (0, 0, 0), 0)) (by decide +kernel)) rfl hc_z
          replace hc_z := rn_put (am_cur_of (i := (195, 3, .putfield 59, (5, 1, 470), 0)) (by decide +kernel)) (by decide +kernel) hc_z
          replace hc_z := rn_aload_n (am_cur_of (i := (198, 1, .aload_n 0, (0, 0, 0), 0)) (by decide +kernel)) g0_z hc_z
          replace hc_z := rn_aload_n (am_cur_of (i := (199, 1, .aload_n 0, (0, 0, 0), 0)) (by decide +kernel)) g0_z hc_z
          replace hc_z := rn_getI (v := le) (am_cur_of (i := (200, 3, .getfield 46, (8, 6, 581), 0)) (by decide +kernel)) (by decide +kernel) ((rg_v_other (by omega)).trans ((rg_v_other (by omega)).trans (eLe1))) hc_z
          replace hc_z := rn_aload_n (am_cur_of (i := (203, 1, .aload_n 0, (0, 0, 0), 0)) (by decide +kernel)) g0_z hc_z
          replace hc_z := rn_getR (x := 149) (am_cur_of (i := (204, 3, .getfield 12, (8, 1, 569), 0)) (by decide +kernel)) (by decide +kernel) hc_z
          replace hc_z := rn_getI (v := m26_z) (am_cur_of (i := (207, 3, .getfield 49, (5, 0, 463), 0)) (by decide +kernel)) (by decide +kernel) ((rg_v_other (by omega)).trans (rg_v_self)) hc_z
          obtain ⟨m29_z, e30_z⟩ : ∃ mq : Int32, (if m26_z < le then m26_z else le) = mq := ⟨_, rfl⟩
          replace hc_z := rn_min (w := m29_z) (am_cur_of (i := (210, 3, .invokestatic 107, (0, 975, 2), 0)) (by decide +kernel)) e30_z hc_z
          replace e30_z := mn_2 e30_z
          replace hc_z := rn_put (am_cur_of (i := (213, 3, .putfield 46, (8, 6, 581), 0)) (by decide +kernel)) (by decide +kernel) hc_z
          replace hc_z := rn_iinc (w := i + 1) (am_cur_of (i := (216, 3, .iinc 5 1, (0, 0, 0), 0)) (by decide +kernel)) g5_z rfl hc_z
          obtain ⟨_, s31_z, s32_z, g5_z, hc_z⟩ := hc_z
          replace g0_z := s31_z 0 _ (by decide) rfl g0_z
          replace g1_z := s31_z 1 _ (by decide) rfl g1_z
          replace g2_z := s31_z 2 _ (by decide) rfl g2_z
          replace g4_z := s31_z 4 _ (by decide) rfl g4_z
          replace g6_z := s31_z 6 _ (by decide) rfl g6_z
          replace g7_z := s31_z 7 _ (by decide) rfl g7_z
          clear s31_z s32_z
          replace hc_z := rn_gotoL (am_cur_of (i := (219, 3, .goto (-167), (26, 0, 0), 0)) (by decide +kernel)) hc_z
          have eZ : m26_z.toInt = secZ 2 h0_z U Hd pu pf mo 0 F S := by
            unfold secZ
            rw [if_pos b28_z.1, ← xe]
            omega
          have gg : gF 148 2 h (am_up (am_up (am_up h19_z 149 0 (.int m26_z)) 149 1 (.int (S + 1))) 148 6 (.int m29_z)) := fun o k a_ b_ c_ d_ => (up_ne (by omega)).trans ((up_ne (by omega)).trans ((up_ne (by omega)).trans (fx o k a_ b_)))
          obtain ⟨j, F2, le2_z, j1_z, j2_z, j3_z, j4_z, j5_z, j6_z, j7_z, j8_z, j9_z⟩ := ih_z k (i + 1) m26_z (S + 1) m29_z _ _ ((gg 148 0 (by decide) (by decide) (by decide) (by decide)).trans D) (fun o q a_ b_ => (lw_v (gg o q (by omega) (by omega) (by omega) (by omega))).trans (hC o q a_ b_)) (((rg_v_other (by omega)).trans ((rg_v_other (by omega)).trans ((rg_v_other (by omega)).trans (el1_z))))) (((rg_v_other (by omega)).trans ((rg_v_other (by omega)).trans (rg_v_self)))) (((rg_v_other (by omega)).trans (rg_v_self))) (((rg_v_other (by omega)).trans ((rg_v_other (by omega)).trans ((rg_v_other (by omega)).trans (eH1))))) ((lw_v (gg 148 3 (by decide) (by decide) (by decide) (by decide))).trans eU) (((rg_v_other (by omega)).trans ((rg_v_other (by omega)).trans ((rg_v_other (by omega)).trans (ePu1))))) (((rg_v_other (by omega)).trans ((rg_v_other (by omega)).trans ((rg_v_other (by omega)).trans (ePf1))))) (rg_v_self) (by omega) (by omega) (by omega) (by omega) g0_z g1_z g2_z g4_z g5_z (by omega) hc_z
          refine ⟨j + 1, F2, le2_z, by omega, ?_, fun i hi_z => ?_, ⟨m26_z, eZ, j4_z⟩, ⟨m26_z, m29_z, eZ, e30_z, j5_z⟩, j6_z, by omega, j8_z, gF_t gg j9_z⟩
          · rcases j2_z with ⟨a, b⟩ | ⟨a, b, d⟩
            · exact Or.inl ⟨by omega, b⟩
            · exact Or.inr ⟨by omega, b, by omega⟩
          · by_cases z : i = 0
            · omega
            · have := j3_z (i - 1) (by omega)
              omega
        · replace b28_z : ¬ pu = (0 : Int32) ∧ ¬ pu.toInt = (0 : Int32).toInt := b28_z
          replace hc_z := rn_aload_n (am_cur_of (i := (153, 1, .aload_n 0, (0, 0, 0), 0)) (by decide +kernel)) g0_z hc_z
          replace hc_z := rn_getR (x := 149) (am_cur_of (i := (154, 3, .getfield 12, (8, 1, 569), 0)) (by decide +kernel)) (by decide +kernel) hc_z
          replace hc_z := rn_aload_n (am_cur_of (i := (157, 1, .aload_n 0, (0, 0, 0), 0)) (by decide +kernel)) g0_z hc_z
          replace hc_z := rn_getR (x := 149) (am_cur_of (i := (158, 3, .getfield 12, (8, 1, 569), 0)) (by decide +kernel)) (by decide +kernel) hc_z
          replace hc_z := rn_getI (v := m26_z) (am_cur_of (i := (161, 3, .getfield 49, (5, 0, 463), 0)) (by decide +kernel)) (by decide +kernel) rg_v_self hc_z
          replace hc_z := rn_aload_n (am_cur_of (i := (164, 1, .aload_n 0, (0, 0, 0), 0)) (by decide +kernel)) g0_z hc_z
          replace hc_z := rn_getM (x := 2) (am_cur_of (i := (165, 3, .getfield 18, (8, 0, 566), 0)) (by decide +kernel)) (show (am_up h19_z 149 0 (.int m26_z)) 148 0 = .ref 2 from D1) hc_z
          replace hc_z := rn_getI (v := pf) (am_cur_of (i := (168, 3, .getfield 104, (1, 7, 277), 0)) (by decide +kernel)) (by decide +kernel) ((rg_v_other (by omega)).trans (ePf1)) hc_z
          replace hc_z := rn_iadd (w := m26_z + pf) (am_cur_of (i := (171, 1, .iadd, (0, 0, 0), 0)) (by decide +kernel)) rfl hc_z
          replace hc_z := rn_aload_n (am_cur_of (i := (172, 1, .aload_n 0, (0, 0, 0), 0)) (by decide +kernel)) g0_z hc_z
          replace hc_z := rn_getM (x := 2) (am_cur_of (i := (173, 3, .getfield 18, (8, 0, 566), 0)) (by decide +kernel)) (show (am_up h19_z 149 0 (.int m26_z)) 148 0 = .ref 2 from D1) hc_z
          replace hc_z := rn_getI (v := Hd) (am_cur_of (i := (176, 3, .getfield 52, (1, 0, 249), 0)) (by decide +kernel)) (by decide +kernel) ((rg_v_other (by omega)).trans (eH1)) hc_z
          obtain ⟨m33_z, e34_z⟩ : ∃ mq : Int32, (if Hd < m26_z + pf then Hd else m26_z + pf) = mq := ⟨_, rfl⟩
          replace hc_z := rn_min (w := m33_z) (am_cur_of (i := (179, 3, .invokestatic 107, (0, 975, 2), 0)) (by decide +kernel)) e34_z hc_z
          replace e34_z := mn_2 e34_z
          replace hc_z := rn_put (am_cur_of (i := (182, 3, .putfield 49, (5, 0, 463), 0)) (by decide +kernel)) (by decide +kernel) hc_z
          replace hc_z := rn_aload_n (am_cur_of (i := (185, 1, .aload_n 0, (0, 0, 0), 0)) (by decide +kernel)) g0_z hc_z
          replace hc_z := rn_getR (x := 149) (am_cur_of (i := (186, 3, .getfield 12, (8, 1, 569), 0)) (by decide +kernel)) (by decide +kernel) hc_z
          replace hc_z := rn_dup (am_cur_of (i := (189, 1, .dup, (0, 0, 0), 0)) (by decide +kernel)) hc_z
          replace hc_z := rn_getI (v := S) (am_cur_of (i := (190, 3, .getfield 59, (5, 1, 470), 0)) (by decide +kernel)) (by decide +kernel) ((rg_v_other (by omega)).trans ((rg_v_other (by omega)).trans (eS1))) hc_z
          replace hc_z := rn_iconst (w := 1) (am_cur_of (i := (193, 1, .iconst 1, (0, 0, 0), 0)) (by decide +kernel)) (by decide) hc_z
          replace hc_z := rn_iadd (w := S + 1) (am_cur_of (i := (194, 1, .iadd, (0, 0, 0), 0)) (by decide +kernel)) rfl hc_z
          replace hc_z := rn_put (am_cur_of (i := (195, 3, .putfield 59, (5, 1, 470), 0)) (by decide +kernel)) (by decide +kernel) hc_z
          replace hc_z := rn_aload_n (am_cur_of (i := (198, 1, .aload_n 0, (0, 0, 0), 0)) (by decide +kernel)) g0_z hc_z
          replace hc_z := rn_aload_n (am_cur_of (i := (199, 1, .aload_n 0, (0, 0, 0), 0)) (by decide +kernel)) g0_z hc_z
          replace hc_z := rn_getI (v := le) (am_cur_of (i := (200, 3, .getfield 46, (8, 6, 581), 0)) (by decide +kernel)) (by decide +kernel) ((rg_v_other (by omega)).trans ((rg_v_other (by omega)).trans ((rg_v_other (by omega)).trans (eLe1)))) hc_z
          replace hc_z := rn_aload_n (am_cur_of (i := (203, 1, .aload_n 0, (0, 0, 0), 0)) (by decide +kernel)) g0_z hc_z
          replace hc_z := rn_getR (x := 149) (am_cur_of (i := (204, 3, .getfield 12, (8, 1, 569), 0)) (by decide +kernel)) (by decide +kernel) hc_z
          replace hc_z := rn_getI (v := m33_z) (am_cur_of (i := (207, 3, .getfield 49, (5, 0, 463), 0)) (by decide +kernel)) (by decide +kernel) ((rg_v_other (by omega)).trans (rg_v_self)) hc_z
          obtain ⟨m35_z, e36_z⟩ : ∃ mq : Int32, (if m33_z < le then m33_z else le) = mq := ⟨_, rfl⟩
          replace hc_z := rn_min (w := m35_z) (am_cur_of (i := (210, 3, .invokestatic 107, (0, 975, 2), 0)) (by decide +kernel)) e36_z hc_z
          replace e36_z := mn_2 e36_z
          replace hc_z := rn_put (am_cur_of (i := (213, 3, .putfield 46, (8, 6, 581), 0)) (by decide +kernel)) (by decide +kernel) hc_z
          replace hc_z := rn_iinc (w := i + 1) (am_cur_of (i := (216, 3, .iinc 5 1, (0, 0, 0), 0)) (by decide +kernel)) g5_z rfl hc_z
          obtain ⟨_, s37_z, s38_z, g5_z, hc_z⟩ := hc_z
          replace g0_z := s37_z 0 _ (by decide) rfl g0_z
          replace g1_z := s37_z 1 _ (by decide) rfl g1_z
          replace g2_z := s37_z 2 _ (by decide) rfl g2_z
          replace g4_z := s37_z 4 _ (by decide) rfl g4_z
          replace g6_z := s37_z 6 _ (by decide) rfl g6_z
          replace g7_z := s37_z 7 _ (by decide) rfl g7_z
          clear s37_z s38_z
          replace hc_z := rn_gotoL (am_cur_of (i := (219, 3, .goto (-167), (26, 0, 0), 0)) (by decide +kernel)) hc_z
          have eZ : m33_z.toInt = secZ 2 h0_z U Hd pu pf mo 0 F S := by
            unfold secZ
            rw [if_neg b28_z.1, ← xe]
            omega
          have gg : gF 148 2 h (am_up (am_up (am_up (am_up h19_z 149 0 (.int m26_z)) 149 0 (.int m33_z)) 149 1 (.int (S + 1))) 148 6 (.int m35_z)) := fun o k a_ b_ c_ d_ => (up_ne (by omega)).trans ((up_ne (by omega)).trans ((up_ne (by omega)).trans ((up_ne (by omega)).trans (fx o k a_ b_))))
          obtain ⟨j, F2, le2_z, j1_z, j2_z, j3_z, j4_z, j5_z, j6_z, j7_z, j8_z, j9_z⟩ := ih_z k (i + 1) m33_z (S + 1) m35_z _ _ ((gg 148 0 (by decide) (by decide) (by decide) (by decide)).trans D) (fun o q a_ b_ => (lw_v (gg o q (by omega) (by omega) (by omega) (by omega))).trans (hC o q a_ b_)) (((rg_v_other (by omega)).trans ((rg_v_other (by omega)).trans ((rg_v_other (by omega)).trans ((rg_v_other (by omega)).trans (el1_z)))))) (((rg_v_other (by omega)).trans ((rg_v_other (by omega)).trans (rg_v_self)))) (((rg_v_other (by omega)).trans (rg_v_self))) (((rg_v_other (by omega)).trans ((rg_v_other (by omega)).trans ((rg_v_other (by omega)).trans ((rg_v_other (by omega)).trans (eH1)))))) ((lw_v (gg 148 3 (by decide) (by decide) (by decide) (by decide))).trans eU) (((rg_v_other (by omega)).trans ((rg_v_other (by omega)).trans ((rg_v_other (by omega)).trans ((rg_v_other (by omega)).trans (ePu1)))))) (((rg_v_other (by omega)).trans ((rg_v_other (by omega)).trans ((rg_v_other (by omega)).trans ((rg_v_other (by omega)).trans (ePf1)))))) (rg_v_self) (by omega) (by omega) (by omega) (by omega) g0_z g1_z g2_z g4_z g5_z (by omega) hc_z
          refine ⟨j + 1, F2, le2_z, by omega, ?_, fun i hi_z => ?_, ⟨m33_z, eZ, j4_z⟩, ⟨m33_z, m35_z, eZ, e36_z, j5_z⟩, j6_z, by omega, j8_z, gF_t gg j9_z⟩
          · rcases j2_z with ⟨a, b⟩ | ⟨a, b, d⟩
            · exact Or.inl ⟨by omega, b⟩
            · exact Or.inr ⟨by omega, b, by omega⟩
          · by_cases z : i = 0
            · omega
            · have := j3_z (i - 1) (by omega)
              omega
      · replace b14_z : lim.toInt ≤ S.toInt := b14_z
        replace hc_z := rn_iconst (w := 0) (am_cur_of (i := (72, 1, .iconst 0, (0, 0, 0), 0)) (by decide +kernel)) (by decide) hc_z
        replace hc_z := rn_iret (am_cur_of (i := (73, 1, .ireturn, (0, 0, 0), 0)) (by decide +kernel)) hc_z
        obtain ⟨e39_z, e40_z⟩ := hc_z
        exact ⟨0, F, le, by omega, Or.inr ⟨by omega, e39_z, by omega⟩, fun i hi_z => absurd hi_z (by omega), rfl, rfl, by rw [e40_z]; exact eF, by rw [e40_z, eS]; omega, by rw [e40_z]; exact eLe, by rw [e40_z]; exact gF_r⟩
theorem gf_75_148_2_0 {n : Nat} {r : Option Value} {h h0_z g h' : am_H} {m lim Hd U pu pf F S le real pt : Int32} (D : h 148 0 = .ref 2) (hL : LW 2 h0_z g) (hC : ∀ o q, 2 + 10 ≤ o → o ≤ 2 + 14 → rg_v h o q = rg_v h0_z o q) (el : rg_v h 148 5 = lim) (eF : rg_v h 149 0 = F) (eS : rg_v h 149 1 = S) (eH : rg_v h 2 0 = Hd) (eU : rg_v h 148 3 = U) (ePu : rg_v h 148 4 = pu) (ePf : rg_v h 2 7 = pf) (eLe : rg_v h 148 6 = le) (eR : rg_v h 148 2 = real) (ePt : rg_v h 149 4 = pt) (H0 : 0 ≤ Hd.toInt) (H9 : Hd.toInt ≤ 9999) (p0_z : 0 ≤ pf.toInt) (p9_z : pf.toInt ≤ 9999) (F0 : 0 ≤ F.toInt) (F9 : F.toInt ≤ 99999) (S0 : 0 ≤ S.toInt) (m0_z : 0 ≤ m.toInt) (S9 : S.toInt + m.toInt < 2147483647) (l0_z : 0 ≤ (leZ real pt (fun q => rg_v h 7 q)).toInt) (l9_z : (leZ real pt (fun q => rg_v h 7 q)).toInt ≤ 999) (hc_z : rn n am_m75 0 (lv_args 0 [.ref 148, .int m, .int 0]) [] h r h') : ∃ (j : Nat) (F2 le2_z : Int32), j ≤ m.toInt.toNat ∧ ((j = m.toInt.toNat ∧ r = some (.int 1)) ∨ (j < m.toInt.toNat ∧ r = some (.int 0) ∧ lim.toInt ≤ S.toInt + j)) ∧ (∀ i, i < j → S.toInt + (i : Int) < lim.toInt) ∧ gR (secZ 2 h0_z U Hd pu pf (leZ real pt (fun q => rg_v h 7 q)) 0) j F S F2 ∧ gL (secZ 2 h0_z U Hd pu pf (leZ real pt (fun q => rg_v h 7 q)) 0) j F S le le2_z ∧ rg_v h' 149 0 = F2 ∧ (rg_v h' 149 1).toInt = S.toInt + j ∧ rg_v h' 148 6 = le2_z ∧ gF 148 2 h h' := by
  have z0_z : (0 : Int32).toInt = 0 := by decide
  have g0_z : am_get (lv_args 0 [.ref 148, .int m, .int 0]) 0 = some (.ref 148) := rfl
  have g1_z : am_get (lv_args 0 [.ref 148, .int m, .int 0]) 1 = some (.int m) := rfl
  have g2_z : am_get (lv_args 0 [.ref 148, .int m, .int 0]) 2 = some (.int 0) := rfl
  replace hc_z := rn_aload_n (am_cur_of (i := (0, 1, .aload_n 0, (0, 0, 0), 0)) (by decide +kernel)) g0_z hc_z
  replace hc_z := rn_getI (v := real) (am_cur_of (i := (1, 3, .getfield 32, (8, 2, 573), 0)) (by decide +kernel)) (by decide +kernel) eR hc_z
  replace hc_z := rn_if (am_cur_of (i := (4, 3, .ifCond .lt 21, (11, 0, 0), 0)) (by decide +kernel)) hc_z
  rcases hc_z with ⟨b41_z, hc_z⟩ | ⟨b41_z, hc_z⟩
  · replace b41_z : real.toInt < (0 : Int32).toInt := b41_z
    replace hc_z := rn_iconst (w := 0) (am_cur_of (i := (25, 1, .iconst 0, (0, 0, 0), 0)) (by decide +kernel)) (by decide) hc_z
    replace hc_z := rn_istore_n (am_cur_of (i := (26, 1, .istore_n 3, (0, 0, 0), 0)) (by decide +kernel)) hc_z
    obtain ⟨_, s42_z, s43_z, g3_z, hc_z⟩ := hc_z
    replace g0_z := s42_z 0 _ (by decide) rfl g0_z
    replace g1_z := s42_z 1 _ (by decide) rfl g1_z
    replace g2_z := s42_z 2 _ (by decide) rfl g2_z
    clear s42_z s43_z
    replace hc_z := rn_iload_n (am_cur_of (i := (27, 1, .iload_n 3, (0, 0, 0), 0)) (by decide +kernel)) g3_z hc_z
    replace hc_z := rn_ifT (am_cur_of (i := (28, 3, .ifCond .eq 18, (22, 0, 0), 0)) (by decide +kernel)) (by decide) hc_z
    replace hc_z := rn_iconst (w := 0) (am_cur_of (i := (46, 1, .iconst 0, (0, 0, 0), 0)) (by decide +kernel)) (by decide) hc_z
    replace hc_z := rn_istore (am_cur_of (i := (47, 2, .istore 4, (0, 0, 0), 0)) (by decide +kernel)) hc_z
    obtain ⟨_, s44_z, s45_z, g4_z, hc_z⟩ := hc_z
    replace g0_z := s44_z 0 _ (by decide) rfl g0_z
    replace g1_z := s44_z 1 _ (by decide) rfl g1_z
    replace g2_z := s44_z 2 _ (by decide) rfl g2_z
    replace g3_z := s44_z 3 _ (by decide) rfl g3_z
    clear s44_z s45_z
    replace hc_z := rn_iconst (w := 0) (am_cur_of (i := (49, 1, .iconst 0, (0, 0, 0), 0)) (by decide +kernel)) (by decide) hc_z
    replace hc_z := rn_istore (am_cur_of (i := (50, 2, .istore 5, (0, 0, 0), 0)) (by decide +kernel)) hc_z
    obtain ⟨_, s46_z, s47_z, g5_z, hc_z⟩ := hc_z
    replace g0_z := s46_z 0 _ (by decide) rfl g0_z
    replace g1_z := s46_z 1 _ (by decide) rfl g1_z
    replace g2_z := s46_z 2 _ (by decide) rfl g2_z
    replace g3_z := s46_z 3 _ (by decide) rfl g3_z
    replace g4_z := s46_z 4 _ (by decide) rfl g4_z
    clear s46_z s47_z
    have em : (0 : Int32) = leZ real pt (fun q => rg_v h 7 q) := by
      unfold leZ
      rw [if_pos (by omega)]
    rw [em] at g4_z
    exact gf_l148_2_0 hL H0 H9 p0_z p9_z l0_z l9_z _ m.toInt.toNat 0 F S le _ _ D hC el eF eS eH eU ePu ePf eLe F0 F9 S0 (by omega) g0_z g1_z g2_z g4_z g5_z (by rw [z0_z]; omega) hc_z
  · replace b41_z : (0 : Int32).toInt ≤ real.toInt := b41_z
    replace hc_z := rn_aload_n (am_cur_of (i := (7, 1, .aload_n 0, (0, 0, 0), 0)) (by decide +kernel)) g0_z hc_z
    replace hc_z := rn_getR (x := 149) (am_cur_of (i := (8, 3, .getfield 12, (8, 1, 569), 0)) (by decide +kernel)) (by decide +kernel) hc_z
    replace hc_z := rn_aload_n (am_cur_of (i := (11, 1, .aload_n 0, (0, 0, 0), 0)) (by decide +kernel)) g0_z hc_z
    replace hc_z := rn_getI (v := real) (am_cur_of (i := (12, 3, .getfield 32, (8, 2, 573), 0)) (by decide +kernel)) (by decide +kernel) eR hc_z
    replace hc_z := rn_callV (M' := am_m76) (o := 149) (ar := [.int real]) (rest := []) (L := lv_args 0 [.ref 149, .int real]) (am_cur_of (i := (15, 3, .invokevirtual 86, (76, 969, 3), 0)) (by decide +kernel)) rfl rfl rfl rfl hc_z
    obtain ⟨r48_z, h49_z, q50_z, hc_z⟩ := hc_z
    obtain ⟨xp, rr, hh, xe⟩ := ip_76_149 ePt q50_z
    replace hh := hh.symm
    subst rr
    subst hh
    replace hc_z : rn _ _ _ _ [.int xp] _ _ _ := hc_z
    replace hc_z := rn_if (am_cur_of (i := (18, 3, .ifCond .ne 7, (11, 0, 0), 0)) (by decide +kernel)) hc_z
    rcases hc_z with ⟨b51_z, hc_z⟩ | ⟨b51_z, hc_z⟩
    · replace b51_z : ¬ xp = (0 : Int32) ∧ ¬ xp.toInt = (0 : Int32).toInt := b51_z
      replace hc_z := rn_iconst (w := 0) (am_cur_of (i := (25, 1, .iconst 0, (0, 0, 0), 0)) (by decide +kernel)) (by decide) hc_z
      replace hc_z := rn_istore_n (am_cur_of (i := (26, 1, .istore_n 3, (0, 0, 0), 0)) (by decide +kernel)) hc_z
      obtain ⟨_, s52_z, s53_z, g3_z, hc_z⟩ := hc_z
      replace g0_z := s52_z 0 _ (by decide) rfl g0_z
      replace g1_z := s52_z 1 _ (by decide) rfl g1_z
      replace g2_z := s52_z 2 _ (by decide) rfl g2_z
      clear s52_z s53_z
      replace hc_z := rn_iload_n (am_cur_of (i := (27, 1, .iload_n 3, (0, 0, 0), 0)) (by decide +kernel)) g3_z hc_z
      replace hc_z := rn_ifT (am_cur_of (i := (28, 3, .ifCond .eq 18, (22, 0, 0), 0)) (by decide +kernel)) (by decide) hc_z
      replace hc_z := rn_iconst (w := 0) (am_cur_of (i := (46, 1, .iconst 0, (0, 0, 0), 0)) (by decide +kernel)) (by decide) hc_z
      replace hc_z := rn_istore (am_cur_of (i := (47, 2, .istore 4, (0, 0, 0), 0)) (by decide +kernel)) hc_z
      obtain ⟨_, s54_z, s55_z, g4_z, hc_z⟩ := hc_z
      replace g0_z := s54_z 0 _ (by decide) rfl g0_z
      replace g1_z := s54_z 1 _ (by decide) rfl g1_z
      replace g2_z := s54_z 2 _ (by decide) rfl g2_z
      replace g3_z := s54_z 3 _ (by decide) rfl g3_z
      clear s54_z s55_z
      replace hc_z := rn_iconst (w := 0) (am_cur_of (i := (49, 1, .iconst 0, (0, 0, 0), 0)) (by decide +kernel)) (by decide) hc_z
      replace hc_z := rn_istore (am_cur_of (i := (50, 2, .istore 5, (0, 0, 0), 0)) (by decide +kernel)) hc_z
      obtain ⟨_, s56_z, s57_z, g5_z, hc_z⟩ := hc_z
      replace g0_z := s56_z 0 _ (by decide) rfl g0_z
      replace g1_z := s56_z 1 _ (by decide) rfl g1_z
      replace g2_z := s56_z 2 _ (by decide) rfl g2_z
      replace g3_z := s56_z 3 _ (by decide) rfl g3_z
      replace g4_z := s56_z 4 _ (by decide) rfl g4_z
      clear s56_z s57_z
      have em : (0 : Int32) = leZ real pt (fun q => rg_v h 7 q) := by
        unfold leZ
        rw [if_neg (by omega), if_pos (by omega)]
      rw [em] at g4_z
      exact gf_l148_2_0 hL H0 H9 p0_z p9_z l0_z l9_z _ m.toInt.toNat 0 F S le _ _ D hC el eF eS eH eU ePu ePf eLe F0 F9 S0 (by omega) g0_z g1_z g2_z g4_z g5_z (by rw [z0_z]; omega) hc_z
    · replace b51_z : xp = (0 : Int32) ∧ xp.toInt = (0 : Int32).toInt := b51_z
      replace hc_z := rn_iconst (w := 1) (am_cur_of (i := (21, 1, .iconst 1, (0, 0, 0), 0)) (by decide +kernel)) (by decide) hc_z
      replace hc_z := rn_goto (am_cur_of (i := (22, 3, .goto 4, (12, 0, 0), 0)) (by decide +kernel)) hc_z
      replace hc_z := rn_istore_n (am_cur_of (i := (26, 1, .istore_n 3, (0, 0, 0), 0)) (by decide +kernel)) hc_z
      obtain ⟨_, s58_z, s59_z, g3_z, hc_z⟩ := hc_z
      replace g0_z := s58_z 0 _ (by decide) rfl g0_z
      replace g1_z := s58_z 1 _ (by decide) rfl g1_z
      replace g2_z := s58_z 2 _ (by decide) rfl g2_z
      clear s58_z s59_z
      replace hc_z := rn_iload_n (am_cur_of (i := (27, 1, .iload_n 3, (0, 0, 0), 0)) (by decide +kernel)) g3_z hc_z
      replace hc_z := rn_ifF (am_cur_of (i := (28, 3, .ifCond .eq 18, (22, 0, 0), 0)) (by decide +kernel)) (by decide) hc_z
      replace hc_z := rn_aload_n (am_cur_of (i := (31, 1, .aload_n 0, (0, 0, 0), 0)) (by decide +kernel)) g0_z hc_z
      replace hc_z := rn_getM (x := 2) (am_cur_of (i := (32, 3, .getfield 18, (8, 0, 566), 0)) (by decide +kernel)) D hc_z
      replace hc_z := rn_getR (x := 7) (am_cur_of (i := (35, 3, .getfield 90, (1, 11, 292), 0)) (by decide +kernel)) (by decide +kernel) hc_z
      replace hc_z := rn_aload_n (am_cur_of (i := (38, 1, .aload_n 0, (0, 0, 0), 0)) (by decide +kernel)) g0_z hc_z
      replace hc_z := rn_getI (v := real) (am_cur_of (i := (39, 3, .getfield 32, (8, 2, 573), 0)) (by decide +kernel)) (by decide +kernel) eR hc_z
      replace hc_z := rn_iaload (N := 6) (q := real.toNatClampNeg) (v := rg_v h 7 real.toNatClampNeg) (am_cur_of (i := (42, 1, .iaload, (0, 0, 0), 0)) (by decide +kernel)) (by decide +kernel) rfl rfl hc_z
      obtain ⟨p60_z, hc_z⟩ := hc_z
      replace hc_z := rn_goto (am_cur_of (i := (43, 3, .goto 4, (23, 0, 0), 0)) (by decide +kernel)) hc_z
      replace hc_z := rn_istore (am_cur_of (i := (47, 2, .istore 4, (0, 0, 0), 0)) (by decide +kernel)) hc_z
      obtain ⟨_, s61_z, s62_z, g4_z, hc_z⟩ := hc_z
      replace g0_z := s61_z 0 _ (by decide) rfl g0_z
      replace g1_z := s61_z 1 _ (by decide) rfl g1_z
      replace g2_z := s61_z 2 _ (by decide) rfl g2_z
      replace g3_z := s61_z 3 _ (by decide) rfl g3_z
      clear s61_z s62_z
      replace hc_z := rn_iconst (w := 0) (am_cur_of (i := (49, 1, .iconst 0, (0, 0, 0), 0)) (by decide +kernel)) (by decide) hc_z
      replace hc_z := rn_istore (am_cur_of (i := (50, 2, .istore 5, (0, 0, 0), 0)) (by decide +kernel)) hc_z
      obtain ⟨_, s63_z, s64_z, g5_z, hc_z⟩ := hc_z
      replace g0_z := s63_z 0 _ (by decide) rfl g0_z
      replace g1_z := s63_z 1 _ (by decide) rfl g1_z
      replace g2_z := s63_z 2 _ (by decide) rfl g2_z
      replace g3_z := s63_z 3 _ (by decide) rfl g3_z
      replace g4_z := s63_z 4 _ (by decide) rfl g4_z
      clear s63_z s64_z
      have em : (rg_v h 7 real.toNatClampNeg : Int32) = leZ real pt (fun q => rg_v h 7 q) := by
        unfold leZ
        rw [if_neg (by omega), if_neg (by omega)]
      rw [em] at g4_z
      exact gf_l148_2_0 hL H0 H9 p0_z p9_z l0_z l9_z _ m.toInt.toNat 0 F S le _ _ D hC el eF eS eH eU ePu ePf eLe F0 F9 S0 (by omega) g0_z g1_z g2_z g4_z g5_z (by rw [z0_z]; omega) hc_z
theorem gf_l148_2_1 {r : Option Value} {h0_z g h' : am_H} {m mo lim Hd U pu pf : Int32} (hL : LW 2 h0_z g) (H0 : 0 ≤ Hd.toInt) (H9 : Hd.toInt ≤ 9999) (p0_z : 0 ≤ pf.toInt) (p9_z : pf.toInt ≤ 9999) (m0_z : 0 ≤ mo.toInt) (m9_z : mo.toInt ≤ 999) : ∀ (f k : Nat) (i F S le : Int32) (ls : am_L) (h : am_H), h 148 0 = .ref 2 → (∀ o q, 2 + 10 ≤ o → o ≤ 2 + 14 → rg_v h o q = rg_v h0_z o q) → rg_v h 148 5 = lim → rg_v h 149 0 = F → rg_v h 149 1 = S → rg_v h 2 0 = Hd → rg_v h 148 3 = U → rg_v h 148 4 = pu → rg_v h 2 7 = pf → rg_v h 148 6 = le → 0 ≤ F.toInt → F.toInt ≤ 99999 → 0 ≤ S.toInt → S.toInt + k < 2147483647 → am_get ls 0 = some (.ref 148) → am_get ls 1 = some (.int m) → am_get ls 2 = some (.int 1) → am_get ls 4 = some (.int mo) → am_get ls 5 = some (.int i) → i.toInt + k = m.toInt → rn f am_m75 26 ls [] h r h' → ∃ (j : Nat) (F2 le2_z : Int32), j ≤ k ∧ ((j = k ∧ r = some (.int 1)) ∨ (j < k ∧ r = some (.int 0) ∧ lim.toInt ≤ S.toInt + j)) ∧ (∀ i, i < j → S.toInt + (i : Int) < lim.toInt) ∧ gR (secZ 2 h0_z U Hd pu pf mo 1) j F S F2 ∧ gL (secZ 2 h0_z U Hd pu pf mo 1) j F S le le2_z ∧ rg_v h' 149 0 = F2 ∧ (rg_v h' 149 1).toInt = S.toInt + j ∧ rg_v h' 148 6 = le2_z ∧ gF 148 2 h h' := by
  intro f
  induction f with
  | zero => intro k i F S le ls h D hC el eF eS eH eU ePu ePf eLe F0 F9 S0 S9 g0_z g1_z g2_z g4_z g5_z ik hc_z; exact absurd hc_z rn_0
  | succ f ih_z =>
    intro k i F S le ls h D hC el eF eS eH eU ePu ePf eLe F0 F9 S0 S9 g0_z g1_z g2_z g4_z g5_z ik hc_z
    have z0_z : (0 : Int32).toInt = 0 := by decide
    have z1_z : (1 : Int32).toInt = 1 := by decide
    have z20_z : (20 : Int32).toInt = 20 := by decide
    have z999_z : (999 : Int32).toInt = 999 := by decide
    replace hc_z := rn_iload (am_cur_of (i := (52, 2, .iload 5, (0, 0, 0), 0)) (by decide +kernel)) g5_z hc_z
    replace hc_z := rn_iload_n (am_cur_of (i := (54, 1, .iload_n 1, (0, 0, 0), 0)) (by decide +kernel)) g1_z hc_z
    replace hc_z := rn_cmp (am_cur_of (i := (55, 3, .if_icmp .ge 167, (108, 0, 0), 0)) (by decide +kernel)) hc_z
    rcases hc_z with ⟨b65_z, hc_z⟩ | ⟨b65_z, hc_z⟩
    · replace b65_z : m.toInt ≤ i.toInt := b65_z
      obtain rfl : k = 0 := by omega
      replace hc_z := rn_iconst (w := 1) (am_cur_of (i := (222, 1, .iconst 1, (0, 0, 0), 0)) (by decide +kernel)) (by decide) hc_z
      replace hc_z := rn_iret (am_cur_of (i := (223, 1, .ireturn, (0, 0, 0), 0)) (by decide +kernel)) hc_z
      obtain ⟨e66_z, e67_z⟩ := hc_z
      exact ⟨0, F, le, Nat.le_refl 0, Or.inl ⟨rfl, e66_z⟩, fun i hi_z => absurd hi_z (by omega), rfl, rfl, by rw [e67_z]; exact eF, by rw [e67_z, eS]; omega, by rw [e67_z]; exact eLe, by rw [e67_z]; exact gF_r⟩
    · replace b65_z : i.toInt < m.toInt := b65_z
      obtain ⟨k, rfl⟩ : ∃ k2_z, k = k2_z + 1 := ⟨k - 1, by omega⟩
      have ci_z := fk_c1 b65_z
      have cs := ab_iadd (x := S) (y := 1) (by omega) (by omega)
      replace hc_z := rn_aload_n (am_cur_of (i := (58, 1, .aload_n 0, (0, 0, 0), 0)) (by decide +kernel)) g0_z hc_z
      replace hc_z := rn_getR (x := 149) (am_cur_of (i := (59, 3, .getfield 12, (8, 1, 569), 0)) (by decide +kernel)) (by decide +kernel) hc_z
      replace hc_z := rn_getI (v := S) (am_cur_of (i := (62, 3, .getfield 59, (5, 1, 470), 0)) (by decide +kernel)) (by decide +kernel) eS hc_z
      replace hc_z := rn_aload_n (am_cur_of (i := (65, 1, .aload_n 0, (0, 0, 0), 0)) (by decide +kernel)) g0_z hc_z
      replace hc_z := rn_getI (v := lim) (am_cur_of (i := (66, 3, .getfield 43, (8, 5, 580), 0)) (by decide +kernel)) (by decide +kernel) el hc_z
      replace hc_z := rn_cmp (am_cur_of (i := (69, 3, .if_icmp .lt 5, (37, 0, 0), 0)) (by decide +kernel)) hc_z
      rcases hc_z with ⟨b68_z, hc_z⟩ | ⟨b68_z, hc_z⟩
      · replace b68_z : S.toInt < lim.toInt := b68_z
        replace hc_z := rn_aload_n (am_cur_of (i := (74, 1, .aload_n 0, (0, 0, 0), 0)) (by decide +kernel)) g0_z hc_z
        replace hc_z := rn_getR (x := 149) (am_cur_of (i := (75, 3, .getfield 12, (8, 1, 569), 0)) (by decide +kernel)) (by decide +kernel) hc_z
        replace hc_z := rn_getI (v := F) (am_cur_of (i := (78, 3, .getfield 49, (5, 0, 463), 0)) (by decide +kernel)) (by decide +kernel) eF hc_z
        replace hc_z := rn_bipush (w := 100) (am_cur_of (i := (81, 2, .bipush 100, (0, 0, 0), 0)) (by decide +kernel)) (by decide) hc_z
        replace hc_z := rn_idiv (w := F / 100) (am_cur_of (i := (83, 1, .idiv, (0, 0, 0), 0)) (by decide +kernel)) rfl hc_z
        obtain ⟨d69_z, hc_z⟩ := hc_z
        replace hc_z := rn_iload_n (am_cur_of (i := (84, 1, .iload_n 2, (0, 0, 0), 0)) (by decide +kernel)) g2_z hc_z
        replace hc_z := rn_ifF (am_cur_of (i := (85, 3, .ifCond .eq 8, (46, 0, 0), 0)) (by decide +kernel)) (by decide) hc_z
        replace hc_z := rn_bipush (w := 20) (am_cur_of (i := (88, 2, .bipush 20, (0, 0, 0), 0)) (by decide +kernel)) (by decide) hc_z
        replace hc_z := rn_goto (am_cur_of (i := (90, 3, .goto 4, (47, 0, 0), 0)) (by decide +kernel)) hc_z
        replace hc_z := rn_iadd (w := (F / 100) + 20) (am_cur_of (i := (94, 1, .iadd, (0, 0, 0), 0)) (by decide +kernel)) rfl hc_z
        replace hc_z := rn_istore (am_cur_of (i := (95, 2, .istore 6, (0, 0, 0), 0)) (by decide +kernel)) hc_z
        obtain ⟨_, s70_z, s71_z, g6_z, hc_z⟩ := hc_z
        replace g0_z := s70_z 0 _ (by decide) rfl g0_z
        replace g1_z := s70_z 1 _ (by decide) rfl g1_z
        replace g2_z := s70_z 2 _ (by decide) rfl g2_z
        replace g4_z := s70_z 4 _ (by decide) rfl g4_z
        replace g5_z := s70_z 5 _ (by decide) rfl g5_z
        clear s70_z s71_z
        replace hc_z := rn_aload_n (am_cur_of (i := (97, 1, .aload_n 0, (0, 0, 0), 0)) (by decide +kernel)) g0_z hc_z
        replace hc_z := rn_iconst (w := 0) (am_cur_of (i := (98, 1, .iconst 0, (0, 0, 0), 0)) (by decide +kernel)) (by decide) hc_z
        replace hc_z := rn_iload_n (am_cur_of (i := (99, 1, .iload_n 2, (0, 0, 0), 0)) (by decide +kernel)) g2_z hc_z
        replace hc_z := rn_ifF (am_cur_of (i := (100, 3, .ifCond .eq 7, (55, 0, 0), 0)) (by decide +kernel)) (by decide) hc_z
        replace hc_z := rn_iconst (w := 1) (am_cur_of (i := (103, 1, .iconst 1, (0, 0, 0), 0)) (by decide +kernel)) (by decide) hc_z
        replace hc_z := rn_goto (am_cur_of (i := (104, 3, .goto 4, (56, 0, 0), 0)) (by decide +kernel)) hc_z
        replace hc_z := rn_iconst (w := 0) (am_cur_of (i := (108, 1, .iconst 0, (0, 0, 0), 0)) (by decide +kernel)) (by decide) hc_z
        replace hc_z := rn_callV (M' := am_m65) (o := 148) (ar := [.int 0, .int 1, .int 0]) (rest := []) (L := lv_args 0 [.ref 148, .int 0, .int 1, .int 0]) (am_cur_of (i := (109, 3, .invokevirtual 94, (65, 973, 3), 0)) (by decide +kernel)) rfl rfl rfl rfl hc_z
        obtain ⟨r72_z, h73_z, q74_z, hc_z⟩ := hc_z
        obtain ⟨wx, rr, -, x2_z, fx⟩ := wo_65_148_2 D (LW_e hC (fun _ _ _ => rfl) hL) eF eS eH eU (by decide) q74_z
        subst rr
        have x3_z := x2_z (by decide)
        rw [show (0 : Int32).toNatClampNeg = 0 by decide, ldX_c hC, lawX_c hC] at x3_z
        have el1_z : rg_v h73_z 148 5 = lim := (lw_v (fx 148 5 (by decide) (by decide))).trans el
        have eF1 : rg_v h73_z 149 0 = F := (lw_v (fx 149 0 (by decide) (by decide))).trans eF
        have eS1 : rg_v h73_z 149 1 = S := (lw_v (fx 149 1 (by decide) (by decide))).trans eS
        have eH1 : rg_v h73_z 2 0 = Hd := (lw_v (fx 2 0 (by decide) (by decide))).trans eH
        have ePu1 : rg_v h73_z 148 4 = pu := (lw_v (fx 148 4 (by decide) (by decide))).trans ePu
        have ePf1 : rg_v h73_z 2 7 = pf := (lw_v (fx 2 7 (by decide) (by decide))).trans ePf
        have eLe1 : rg_v h73_z 148 6 = le := (lw_v (fx 148 6 (by decide) (by decide))).trans eLe
        have D1 : h73_z 148 0 = .ref 2 := (fx 148 0 (by decide) (by decide)).trans D
        replace hc_z : rn _ _ _ _ [.long wx] _ _ _ := hc_z
        replace hc_z := rn_sipush (w := 999) (am_cur_of (i := (112, 3, .sipush 999, (0, 0, 0), 0)) (by decide +kernel)) (by decide) hc_z
        replace hc_z := rn_iload (am_cur_of (i := (115, 2, .iload 6, (0, 0, 0), 0)) (by decide +kernel)) g6_z hc_z
        replace hc_z := rn_callS (M' := am_m68) (ar := [.int ((F / 100) + 20), .int 999, .long wx]) (rest := []) (L := lv_args 0 [.long wx, .int 999, .int ((F / 100) + 20)]) (am_cur_of (i := (117, 3, .invokestatic 80, (68, 935, 3), 0)) (by decide +kernel)) rfl rfl rfl rfl hc_z
        obtain ⟨r75_z, h76_z, q77_z, hc_z⟩ := hc_z
        have dv := dv_100 (F := F) (by omega)
        have dw := ab_iadd (x := F / 100) (y := 20) (by omega) (by omega)
        obtain ⟨xl, rr, hh, xe⟩ := wi_68 x3_z (fun z e => lawX_b (hL 0 (by decide)) (fun q _ => eC_b q) e) (by decide) q77_z
        replace hh := hh.symm
        subst rr
        subst hh
        have eWo : (F / 100 + 20).toInt = F.toInt / 100 + 20 * (1 : Int32).toInt := by
          have y1_z : (1 : Int32).toInt = 1 := by decide
          have y0_z : (0 : Int32).toInt = 0 := by decide
          omega
        rw [eWo, show (999 : Int32).toInt = 999 by decide] at xe
        have bw := bnd_w (q := lawX 2 h0_z 0 (eC (ldX 2 h0_z U F (Hd - F) 1 S) F (Hd - F) 1 S 0)) (wo := F.toInt / 100 + 20 * (1 : Int32).toInt) (mo := 999) (by omega) (by decide)
        rw [← xe] at bw
        have c1_z := ab_iadd (x := xl) (y := mo) (by omega) (by omega)
        have c2_z := ab_isub (x := F) (y := xl + mo) (by omega) (by omega)
        replace hc_z : rn _ _ _ _ [.int xl] _ _ _ := hc_z
        replace hc_z := rn_iload (am_cur_of (i := (120, 2, .iload 4, (0, 0, 0), 0)) (by decide +kernel)) g4_z hc_z
        replace hc_z := rn_iadd (w := xl + mo) (am_cur_of (i := (122, 1, .iadd, (0, 0, 0), 0)) (by decide +kernel)) rfl hc_z
        replace hc_z := rn_istore (am_cur_of (i := (123, 2, .istore 7, (0, 0, 0), 0)) (by decide +kernel)) hc_z
        obtain ⟨_, s78_z, s79_z, g7_z, hc_z⟩ := hc_z
        replace g0_z := s78_z 0 _ (by decide) rfl g0_z
        replace g1_z := s78_z 1 _ (by decide) rfl g1_z
        replace g2_z := s78_z 2 _ (by decide) rfl g2_z
        replace g4_z := s78_z 4 _ (by decide) rfl g4_z
        replace g5_z := s78_z 5 _ (by decide) rfl g5_z
        replace g6_z := s78_z 6 _ (by decide) rfl g6_z
        clear s78_z s79_z
        replace hc_z := rn_aload_n (am_cur_of (i := (125, 1, .aload_n 0, (0, 0, 0), 0)) (by decide +kernel)) g0_z hc_z
        replace hc_z := rn_getR (x := 149) (am_cur_of (i := (126, 3, .getfield 12, (8, 1, 569), 0)) (by decide +kernel)) (by decide +kernel) hc_z
        replace hc_z := rn_aload_n (am_cur_of (i := (129, 1, .aload_n 0, (0, 0, 0), 0)) (by decide +kernel)) g0_z hc_z
        replace hc_z := rn_getR (x := 149) (am_cur_of (i := (130, 3, .getfield 12, (8, 1, 569), 0)) (by decide +kernel)) (by decide +kernel) hc_z
        replace hc_z := rn_getI (v := F) (am_cur_of (i := (133, 3, .getfield 49, (5, 0, 463), 0)) (by decide +kernel)) (by decide +kernel) eF1 hc_z
        replace hc_z := rn_iload (am_cur_of (i := (136, 2, .iload 7, (0, 0, 0), 0)) (by decide +kernel)) g7_z hc_z
        replace hc_z := rn_isub (w := F - (xl + mo)) (am_cur_of (i := (138, 1, .isub, (0, 0, 0), 0)) (by decide +kernel)) rfl hc_z
        replace hc_z := rn_iconst (w := 0) (am_cur_of (i := (139, 1, .iconst 0, (0, 0, 0), 0)) (by decide +kernel)) (by decide) hc_z
        obtain ⟨m80_z, e81_z⟩ : ∃ mq : Int32, (if F - (xl + mo) < 0 then 0 else F - (xl + mo)) = mq := ⟨_, rfl⟩
        replace hc_z := rn_max (w := m80_z) (am_cur_of (i := (140, 3, .invokestatic 98, (0, 974, 1), 0)) (by decide +kernel)) e81_z hc_z
        replace e81_z := mx_0 e81_z
        have c3_z := ab_iadd (x := m80_z) (y := pf) (by omega) (by omega)
        replace hc_z := rn_put (am_cur_of (i := (143, 3, .putfield 49, (5, 0, 463), 0)) (by decide +kernel)) (by decide +kernel) hc_z
        replace hc_z := rn_aload_n (am_cur_of (i := (146, 1, .aload_n 0, (0, 0, 0), 0)) (by decide +kernel)) g0_z hc_z
        replace hc_z := rn_getI (v := pu) (am_cur_of (i := (147, 3, .getfield 37, (8, 4, 577), 0)) (by decide +kernel)) (by decide +kernel) ((rg_v_other (by omega)).trans (ePu1)) hc_z
        replace hc_z := rn_if (am_cur_of (i := (150, 3, .ifCond .eq 35, (91, 0, 0), 0)) (by decide +kernel)) hc_z
        rcases hc_z with ⟨b82_z, hc_z⟩ | ⟨b82_z, hc_z⟩
        · replace b82_z : pu = (0 : Int32) ∧ pu.toInt = (0 : Int32).toInt := b82_z
          replace hc_z := rn_aload_n (am_cur_of (i := (185, 1, .aload_n 0, (0, 0, 0), 0)) (by decide +kernel)) g0_z hc_z
          replace hc_z := rn_getR (x := 149) (am_cur_of (i := (186, 3, .getfield 12, (8, 1, 569), 0)) (by decide +kernel)) (by decide +kernel) hc_z
          replace hc_z := rn_dup (am_cur_of (i := (189, 1, .dup, (0, 0, 0), 0)) (by decide +kernel)) hc_z
          replace hc_z := rn_getI (v := S) (am_cur_of (i := (190, 3, .getfield 59, (5, 1, 470), 0)) (by decide +kernel)) (by decide +kernel) ((rg_v_other (by omega)).trans (eS1)) hc_z
          replace hc_z := rn_iconst (w := 1) (am_cur_of (i := (193, 1, .iconst 1, (0, 0, 0), 0)) (by decide +kernel)) (by decide) hc_z
          replace hc_z := rn_iadd (w := S + 1) (am_cur_of (i := (194, 1, .iadd, (0, 0, 0), 0)) (by decide +kernel)) rfl hc_z
          replace hc_z := rn_put (am_cur_of (i := (195, 3, .putfield 59, (5, 1, 470), 0)) (by decide +kernel)) (by decide +kernel) hc_z
          replace hc_z := rn_aload_n (am_cur_of (i := (198, 1, .aload_n 0, (0, 0, 0), 0)) (by decide +kernel)) g0_z hc_z
          replace hc_z := rn_aload_n (am_cur_of (i := (199, 1, .aload_n 0, (0, 0, 0), 0)) (by decide +kernel)) g0_z hc_z
          replace hc_z := rn_getI (v := le) (am_cur_of (i := (200, 3, .getfield 46, (8, 6, 581), 0)) (by decide +kernel)) (by decide +kernel) ((rg_v_other (by omega)).trans ((rg_v_other (by omega)).trans (eLe1))) hc_z
          replace hc_z := rn_aload_n (am_cur_of (i := (203, 1, .aload_n 0, (0, 0, 0), 0)) (by decide +kernel)) g0_z hc_z
          replace hc_z := rn_getR (x := 149) (am_cur_of (i := (204, 3, .getfield 12, (8, 1, 569), 0)) (by decide +kernel)) (by decide +kernel) hc_z
          replace hc_z := rn_getI (v := m80_z) (am_cur_of (i := (207, 3, .getfield 49, (5, 0, 463), 0)) (by decide +kernel)) (by decide +kernel) ((rg_v_other (by omega)).trans (rg_v_self)) hc_z
          obtain ⟨m83_z, e84_z⟩ : ∃ mq : Int32, (if m80_z < le then m80_z else le) = mq := ⟨_, rfl⟩
          replace hc_z := rn_min (w := m83_z) (am_cur_of (i := (210, 3, .invokestatic 107, (0, 975, 2), 0)) (by decide +kernel)) e84_z hc_z
          replace e84_z := mn_2 e84_z
          replace hc_z := rn_put (am_cur_of (i := (213, 3, .putfield 46, (8, 6, 581), 0)) (by decide +kernel)) (by decide +kernel) hc_z
          replace hc_z := rn_iinc (w := i + 1) (am_cur_of (i := (216, 3, .iinc 5 1, (0, 0, 0), 0)) (by decide +kernel)) g5_z rfl hc_z
          obtain ⟨_, s85_z, s86_z, g5_z, hc_z⟩ := hc_z
          replace g0_z := s85_z 0 _ (by decide) rfl g0_z
          replace g1_z := s85_z 1 _ (by decide) rfl g1_z
          replace g2_z := s85_z 2 _ (by decide) rfl g2_z
          replace g4_z := s85_z 4 _ (by decide) rfl g4_z
          replace g6_z := s85_z 6 _ (by decide) rfl g6_z
          replace g7_z := s85_z 7 _ (by decide) rfl g7_z
          clear s85_z s86_z
          replace hc_z := rn_gotoL (am_cur_of (i := (219, 3, .goto (-167), (26, 0, 0), 0)) (by decide +kernel)) hc_z
          have eZ : m80_z.toInt = secZ 2 h0_z U Hd pu pf mo 1 F S := by
            unfold secZ
            rw [if_pos b82_z.1, ← xe]
            omega
          have gg : gF 148 2 h (am_up (am_up (am_up h73_z 149 0 (.int m80_z)) 149 1 (.int (S + 1))) 148 6 (.int m83_z)) := fun o k a_ b_ c_ d_ => (up_ne (by omega)).trans ((up_ne (by omega)).trans ((up_ne (by omega)).trans (fx o k a_ b_)))
          obtain ⟨j, F2, le2_z, j1_z, j2_z, j3_z, j4_z, j5_z, j6_z, j7_z, j8_z, j9_z⟩ := ih_z k (i + 1) m80_z (S + 1) m83_z _ _ ((gg 148 0 (by decide) (by decide) (by decide) (by decide)).trans D) (fun o q a_ b_ => (lw_v (gg o q (by omega) (by omega) (by omega) (by omega))).trans (hC o q a_ b_)) (((rg_v_other (by omega)).trans ((rg_v_other (by omega)).trans ((rg_v_other (by omega)).trans (el1_z))))) (((rg_v_other (by omega)).trans ((rg_v_other (by omega)).trans (rg_v_self)))) (((rg_v_other (by omega)).trans (rg_v_self))) (((rg_v_other (by omega)).trans ((rg_v_other (by omega)).trans ((rg_v_other (by omega)).trans (eH1))))) ((lw_v (gg 148 3 (by decide) (by decide) (by decide) (by decide))).trans eU) (((rg_v_other (by omega)).trans ((rg_v_other (by omega)).trans ((rg_v_other (by omega)).trans (ePu1))))) (((rg_v_other (by omega)).trans ((rg_v_other (by omega)).trans ((rg_v_other (by omega)).trans (ePf1))))) (rg_v_self) (by omega) (by omega) (by omega) (by omega) g0_z g1_z g2_z g4_z g5_z (by omega) hc_z
          refine ⟨j + 1, F2, le2_z, by omega, ?_, fun i hi_z => ?_, ⟨m80_z, eZ, j4_z⟩, ⟨m80_z, m83_z, eZ, e84_z, j5_z⟩, j6_z, by omega, j8_z, gF_t gg j9_z⟩
          · rcases j2_z with ⟨a, b⟩ | ⟨a, b, d⟩
            · exact Or.inl ⟨by omega, b⟩
            · exact Or.inr ⟨by omega, b, by omega⟩
          · by_cases z : i = 0
            · omega
            · have := j3_z (i - 1) (by omega)
              omega
        · replace b82_z : ¬ pu = (0 : Int32) ∧ ¬ pu.toInt = (0 : Int32).toInt := b82_z
          replace hc_z := rn_aload_n (am_cur_of (i := (153, 1, .aload_n 0, (0, 0, 0), 0)) (by decide +kernel)) g0_z hc_z
          replace hc_z := rn_getR (x := 149) (am_cur_of (i := (154, 3, .getfield 12, (8, 1, 569), 0)) (by decide +kernel)) (by decide +kernel) hc_z
          replace hc_z := rn_aload_n (am_cur_of (i := (157, 1, .aload_n 0, (0, 0, 0), 0)) (by decide +kernel)) g0_z hc_z
          replace hc_z := rn_getR (x := 149) (am_cur_of (i := (158, 3, .getfield 12, (8, 1, 569), 0)) (by decide +kernel)) (by decide +kernel) hc_z
          replace hc_z := rn_getI (v := m80_z) (am_cur_of (i := (161, 3, .getfield 49, (5, 0, 463), 0)) (by decide +kernel)) (by decide +kernel) rg_v_self hc_z
          replace hc_z := rn_aload_n (am_cur_of (i := (164, 1, .aload_n 0, (0, 0, 0), 0)) (by decide +kernel)) g0_z hc_z
          replace hc_z := rn_getM (x := 2) (am_cur_of (i := (165, 3, .getfield 18, (8, 0, 566), 0)) (by decide +kernel)) (show (am_up h73_z 149 0 (.int m80_z)) 148 0 = .ref 2 from D1) hc_z
          replace hc_z := rn_getI (v := pf) (am_cur_of (i := (168, 3, .getfield 104, (1, 7, 277), 0)) (by decide +kernel)) (by decide +kernel) ((rg_v_other (by omega)).trans (ePf1)) hc_z
          replace hc_z := rn_iadd (w := m80_z + pf) (am_cur_of (i := (171, 1, .iadd, (0, 0, 0), 0)) (by decide +kernel)) rfl hc_z
          replace hc_z := rn_aload_n (am_cur_of (i := (172, 1, .aload_n 0, (0, 0, 0), 0)) (by decide +kernel)) g0_z hc_z
          replace hc_z := rn_getM (x := 2) (am_cur_of (i := (173, 3, .getfield 18, (8, 0, 566), 0)) (by decide +kernel)) (show (am_up h73_z 149 0 (.int m80_z)) 148 0 = .ref 2 from D1) hc_z
          replace hc_z := rn_getI (v := Hd) (am_cur_of (i := (176, 3, .getfield 52, (1, 0, 249), 0)) (by decide +kernel)) (by decide +kernel) ((rg_v_other (by omega)).trans (eH1)) hc_z
          obtain ⟨m87_z, e88_z⟩ : ∃ mq : Int32, (if Hd < m80_z + pf then Hd else m80_z + pf) = mq := ⟨_, rfl⟩
          replace hc_z := rn_min (w := m87_z) (am_cur_of (i := (179, 3, .invokestatic 107, (0, 975, 2), 0)) (by decide +kernel)) e88_z hc_z
          replace e88_z := mn_2 e88_z
          replace hc_z := rn_put (am_cur_of (i := (182, 3, .putfield 49, (5, 0, 463), 0)) (by decide +kernel)) (by decide +kernel) hc_z
          replace hc_z := rn_aload_n (am_cur_of (i := (185, 1, .aload_n 0, (0, 0, 0), 0)) (by decide +kernel)) g0_z hc_z
          replace hc_z := rn_getR (x := 149) (am_cur_of (i := (186, 3, .getfield 12, (8, 1, 569), 0)) (by decide +kernel)) (by decide +kernel) hc_z
          replace hc_z := rn_dup (am_cur_of (i := (189, 1, .dup, (0, 0, 0), 0)) (by decide +kernel)) hc_z
          replace hc_z := rn_getI (v := S) (am_cur_of (i := (190, 3, .getfield 59, (5, 1, 470), 0)) (by decide +kernel)) (by decide +kernel) ((rg_v_other (by omega)).trans ((rg_v_other (by omega)).trans (eS1))) hc_z
          replace hc_z := rn_iconst (w := 1) (am_cur_of (i := (193, 1, .iconst 1, (0, 0, 0), 0)) (by decide +kernel)) (by decide) hc_z
          replace hc_z := rn_iadd (w := S + 1) (am_cur_of (i := (194, 1, .iadd, (0, 0, 0), 0)) (by decide +kernel)) rfl hc_z
          replace hc_z := rn_put (am_cur_of (i := (195, 3, .putfield 59, (5, 1, 470), 0)) (by decide +kernel)) (by decide +kernel) hc_z
          replace hc_z := rn_aload_n (am_cur_of (i := (198, 1, .aload_n 0, (0, 0, 0), 0)) (by decide +kernel)) g0_z hc_z
          replace hc_z := rn_aload_n (am_cur_of (i := (199, 1, .aload_n 0, (0, 0, 0), 0)) (by decide +kernel)) g0_z hc_z
          replace hc_z := rn_getI (v := le) (am_cur_of (i := (200, 3, .getfield 46, (8, 6, 581), 0)) (by decide +kernel)) (by decide +kernel) ((rg_v_other (by omega)).trans ((rg_v_other (by omega)).trans ((rg_v_other (by omega)).trans (eLe1)))) hc_z
          replace hc_z := rn_aload_n (am_cur_of (i := (203, 1, .aload_n 0, (0, 0, 0), 0)) (by decide +kernel)) g0_z hc_z
          replace hc_z := rn_getR (x := 149) (am_cur_of (i := (204, 3, .getfield 12, (8, 1, 569), 0)) (by decide +kernel)) (by decide +kernel) hc_z
          replace hc_z := rn_getI (v := m87_z) (am_cur_of (i := (207, 3, .getfield 49, (5, 0, 463), 0)) (by decide +kernel)) (by decide +kernel) ((rg_v_other (by omega)).trans (rg_v_self)) hc_z
          obtain ⟨m89_z, e90_z⟩ : ∃ mq : Int32, (if m87_z < le then m87_z else le) = mq := ⟨_, rfl⟩
          replace hc_z := rn_min (w := m89_z) (am_cur_of (i := (210, 3, .invokestatic 107, (0, 975, 2), 0)) (by decide +kernel)) e90_z hc_z
          replace e90_z := mn_2 e90_z
          replace hc_z := rn_put (am_cur_of (i := (213, 3, .putfield 46, (8, 6, 581), 0)) (by decide +kernel)) (by decide +kernel) hc_z
          replace hc_z := rn_iinc (w := i + 1) (am_cur_of (i := (216, 3, .iinc 5 1, (0, 0, 0), 0)) (by decide +kernel)) g5_z rfl hc_z
          obtain ⟨_, s91_z, s92_z, g5_z, hc_z⟩ := hc_z
          replace g0_z := s91_z 0 _ (by decide) rfl g0_z
          replace g1_z := s91_z 1 _ (by decide) rfl g1_z
          replace g2_z := s91_z 2 _ (by decide) rfl g2_z
          replace g4_z := s91_z 4 _ (by decide) rfl g4_z
          replace g6_z := s91_z 6 _ (by decide) rfl g6_z
          replace g7_z := s91_z 7 _ (by decide) rfl g7_z
          clear s91_z s92_z
          replace hc_z := rn_gotoL (am_cur_of (i := (219, 3, .goto (-167), (26, 0, 0), 0)) (by decide +kernel)) hc_z
          have eZ : m87_z.toInt = secZ 2 h0_z U Hd pu pf mo 1 F S := by
            unfold secZ
            rw [if_neg b82_z.1, ← xe]
            omega
          have gg : gF 148 2 h (am_up (am_up (am_up (am_up h73_z 149 0 (.int m80_z)) 149 0 (.int m87_z)) 149 1 (.int (S + 1))) 148 6 (.int m89_z)) := fun o k a_ b_ c_ d_ => (up_ne (by omega)).trans ((up_ne (by omega)).trans ((up_ne (by omega)).trans ((up_ne (by omega)).trans (fx o k a_ b_))))
          obtain ⟨j, F2, le2_z, j1_z, j2_z, j3_z, j4_z, j5_z, j6_z, j7_z, j8_z, j9_z⟩ := ih_z k (i + 1) m87_z (S + 1) m89_z _ _ ((gg 148 0 (by decide) (by decide) (by decide) (by decide)).trans D) (fun o q a_ b_ => (lw_v (gg o q (by omega) (by omega) (by omega) (by omega))).trans (hC o q a_ b_)) (((rg_v_other (by omega)).trans ((rg_v_other (by omega)).trans ((rg_v_other (by omega)).trans ((rg_v_other (by omega)).trans (el1_z)))))) (((rg_v_other (by omega)).trans ((rg_v_other (by omega)).trans (rg_v_self)))) (((rg_v_other (by omega)).trans (rg_v_self))) (((rg_v_other (by omega)).trans ((rg_v_other (by omega)).trans ((rg_v_other (by omega)).trans ((rg_v_other (by omega)).trans (eH1)))))) ((lw_v (gg 148 3 (by decide) (by decide) (by decide) (by decide))).trans eU) (((rg_v_other (by omega)).trans ((rg_v_other (by omega)).trans ((rg_v_other (by omega)).trans ((rg_v_other (by omega)).trans (ePu1)))))) (((rg_v_other (by omega)).trans ((rg_v_other (by omega)).trans ((rg_v_other (by omega)).trans ((rg_v_other (by omega)).trans (ePf1)))))) (rg_v_self) (by omega) (by omega) (by omega) (by omega) g0_z g1_z g2_z g4_z g5_z (by omega) hc_z
          refine ⟨j + 1, F2, le2_z, by omega, ?_, fun i hi_z => ?_, ⟨m87_z, eZ, j4_z⟩, ⟨m87_z, m89_z, eZ, e90_z, j5_z⟩, j6_z, by omega, j8_z, gF_t gg j9_z⟩
          · rcases j2_z with ⟨a, b⟩ | ⟨a, b, d⟩
            · exact Or.inl ⟨by omega, b⟩
            · exact Or.inr ⟨by omega, b, by omega⟩
          · by_cases z : i = 0
            · omega
            · have := j3_z (i - 1) (by omega)
              omega
      · replace b68_z : lim.toInt ≤ S.toInt := b68_z
        replace hc_z := rn_iconst (w := 0) (am_cur_of (i := (72, 1, .iconst 0, (0, 0, 0), 0)) (by decide +kernel)) (by decide) hc_z
        replace hc_z := rn_iret (am_cur_of (i := (73, 1, .ireturn, (0, 0, 0), 0)) (by decide +kernel)) hc_z
        obtain ⟨e93_z, e94_z⟩ := hc_z
        exact ⟨0, F, le, by omega, Or.inr ⟨by omega, e93_z, by omega⟩, fun i hi_z => absurd hi_z (by omega), rfl, rfl, by rw [e94_z]; exact eF, by rw [e94_z, eS]; omega, by rw [e94_z]; exact eLe, by rw [e94_z]; exact gF_r⟩
theorem gf_75_148_2_1 {n : Nat} {r : Option Value} {h h0_z g h' : am_H} {m lim Hd U pu pf F S le real pt : Int32} (D : h 148 0 = .ref 2) (hL : LW 2 h0_z g) (hC : ∀ o q, 2 + 10 ≤ o → o ≤ 2 + 14 → rg_v h o q = rg_v h0_z o q) (el : rg_v h 148 5 = lim) (eF : rg_v h 149 0 = F) (eS : rg_v h 149 1 = S) (eH : rg_v h 2 0 = Hd) (eU : rg_v h 148 3 = U) (ePu : rg_v h 148 4 = pu) (ePf : rg_v h 2 7 = pf) (eLe : rg_v h 148 6 = le) (eR : rg_v h 148 2 = real) (ePt : rg_v h 149 4 = pt) (H0 : 0 ≤ Hd.toInt) (H9 : Hd.toInt ≤ 9999) (p0_z : 0 ≤ pf.toInt) (p9_z : pf.toInt ≤ 9999) (F0 : 0 ≤ F.toInt) (F9 : F.toInt ≤ 99999) (S0 : 0 ≤ S.toInt) (m0_z : 0 ≤ m.toInt) (S9 : S.toInt + m.toInt < 2147483647) (l0_z : 0 ≤ (leZ real pt (fun q => rg_v h 7 q)).toInt) (l9_z : (leZ real pt (fun q => rg_v h 7 q)).toInt ≤ 999) (hc_z : rn n am_m75 0 (lv_args 0 [.ref 148, .int m, .int 1]) [] h r h') : ∃ (j : Nat) (F2 le2_z : Int32), j ≤ m.toInt.toNat ∧ ((j = m.toInt.toNat ∧ r = some (.int 1)) ∨ (j < m.toInt.toNat ∧ r = some (.int 0) ∧ lim.toInt ≤ S.toInt + j)) ∧ (∀ i, i < j → S.toInt + (i : Int) < lim.toInt) ∧ gR (secZ 2 h0_z U Hd pu pf (leZ real pt (fun q => rg_v h 7 q)) 1) j F S F2 ∧ gL (secZ 2 h0_z U Hd pu pf (leZ real pt (fun q => rg_v h 7 q)) 1) j F S le le2_z ∧ rg_v h' 149 0 = F2 ∧ (rg_v h' 149 1).toInt = S.toInt + j ∧ rg_v h' 148 6 = le2_z ∧ gF 148 2 h h' := by
  have z0_z : (0 : Int32).toInt = 0 := by decide
  have g0_z : am_get (lv_args 0 [.ref 148, .int m, .int 1]) 0 = some (.ref 148) := rfl
  have g1_z : am_get (lv_args 0 [.ref 148, .int m, .int 1]) 1 = some (.int m) := rfl
  have g2_z : am_get (lv_args 0 [.ref 148, .int m, .int 1]) 2 = some (.int 1) := rfl
  replace hc_z := rn_aload_n (am_cur_of (i := (0, 1, .aload_n 0, (0, 0, 0), 0)) (by decide +kernel)) g0_z hc_z
  replace hc_z := rn_getI (v := real) (am_cur_of (i := (1, 3, .getfield 32, (8, 2, 573), 0)) (by decide +kernel)) (by decide +kernel) eR hc_z
  replace hc_z := rn_if (am_cur_of (i := (4, 3, .ifCond .lt 21, (11, 0, 0), 0)) (by decide +kernel)) hc_z
  rcases hc_z with ⟨b95_z, hc_z⟩ | ⟨b95_z, hc_z⟩
  · replace b95_z : real.toInt < (0 : Int32).toInt := b95_z
    replace hc_z := rn_iconst (w := 0) (am_cur_of (i := (25, 1, .iconst 0, (0, 0, 0), 0)) (by decide +kernel)) (by decide) hc_z
    replace hc_z := rn_istore_n (am_cur_of (i := (26, 1, .istore_n 3, (0, 0, 0), 0)) (by decide +kernel)) hc_z
    obtain ⟨_, s96_z, s97_z, g3_z, hc_z⟩ := hc_z
    replace g0_z := s96_z 0 _ (by decide) rfl g0_z
    replace g1_z := s96_z 1 _ (by decide) rfl g1_z
    replace g2_z := s96_z 2 _ (by decide) rfl g2_z
    clear s96_z s97_z
    replace hc_z := rn_iload_n (am_cur_of (i := (27, 1, .iload_n 3, (0, 0, 0), 0)) (by decide +kernel)) g3_z hc_z
    replace hc_z := rn_ifT (am_cur_of (i := (28, 3, .ifCond .eq 18, (22, 0, 0), 0)) (by decide +kernel)) (by decide) hc_z
    replace hc_z := rn_iconst (w := 0) (am_cur_of (i := (46, 1, .iconst 0, (0, 0, 0), 0)) (by decide +kernel)) (by decide) hc_z
    replace hc_z := rn_istore (am_cur_of (i := (47, 2, .istore 4, (0, 0, 0), 0)) (by decide +kernel)) hc_z
    obtain ⟨_, s98_z, s99_z, g4_z, hc_z⟩ := hc_z
    replace g0_z := s98_z 0 _ (by decide) rfl g0_z
    replace g1_z := s98_z 1 _ (by decide) rfl g1_z
    replace g2_z := s98_z 2 _ (by decide) rfl g2_z
    replace g3_z := s98_z 3 _ (by decide) rfl g3_z
    clear s98_z s99_z
    replace hc_z := rn_iconst (w := 0) (am_cur_of (i := (49, 1, .iconst 0, (0, 0, 0), 0)) (by decide +kernel)) (by decide) hc_z
    replace hc_z := rn_istore (am_cur_of (i := (50, 2, .istore 5, (0, 0, 0), 0)) (by decide +kernel)) hc_z
    obtain ⟨_, s100_z, s101_z, g5_z, hc_z⟩ := hc_z
    replace g0_z := s100_z 0 _ (by decide) rfl g0_z
    replace g1_z := s100_z 1 _ (by decide) rfl g1_z
    replace g2_z := s100_z 2 _ (by decide) rfl g2_z
    replace g3_z := s100_z 3 _ (by decide) rfl g3_z
    replace g4_z := s100_z 4 _ (by decide) rfl g4_z
    clear s100_z s101_z
    have em : (0 : Int32) = leZ real pt (fun q => rg_v h 7 q) := by
      unfold leZ
      rw [if_pos (by omega)]
    rw [em] at g4_z
    exact gf_l148_2_1 hL H0 H9 p0_z p9_z l0_z l9_z _ m.toInt.toNat 0 F S le _ _ D hC el eF eS eH eU ePu ePf eLe F0 F9 S0 (by omega) g0_z g1_z g2_z g4_z g5_z (by rw [z0_z]; omega) hc_z
  · replace b95_z : (0 : Int32).toInt ≤ real.toInt := b95_z
    replace hc_z := rn_aload_n (am_cur_of (i := (7, 1, .aload_n 0, (0, 0, 0), 0)) (by decide +kernel)) g0_z hc_z
    replace hc_z := rn_getR (x := 149) (am_cur_of (i := (8, 3, .getfield 12, (8, 1, 569), 0)) (by decide +kernel)) (by decide +kernel) hc_z
    replace hc_z := rn_aload_n (am_cur_of (i := (11, 1, .aload_n 0, (0, 0, 0), 0)) (by decide +kernel)) g0_z hc_z
    replace hc_z := rn_getI (v := real) (am_cur_of (i := (12, 3, .getfield 32, (8, 2, 573), 0)) (by decide +kernel)) (by decide +kernel) eR hc_z
    replace hc_z := rn_callV (M' := am_m76) (o := 149) (ar := [.int real]) (rest := []) (L := lv_args 0 [.ref 149, .int real]) (am_cur_of (i := (15, 3, .invokevirtual 86, (76, 969, 3), 0)) (by decide +kernel)) rfl rfl rfl rfl hc_z
    obtain ⟨r102_z, h103_z, q104_z, hc_z⟩ := hc_z
    obtain ⟨xp, rr, hh, xe⟩ := ip_76_149 ePt q104_z
    replace hh := hh.symm
    subst rr
    subst hh
    replace hc_z : rn _ _ _ _ [.int xp] _ _ _ := hc_z
    replace hc_z := rn_if (am_cur_of (i := (18, 3, .ifCond .ne 7, (11, 0, 0), 0)) (by decide +kernel)) hc_z
    rcases hc_z with ⟨b105_z, hc_z⟩ | ⟨b105_z, hc_z⟩
    · replace b105_z : ¬ xp = (0 : Int32) ∧ ¬ xp.toInt = (0 : Int32).toInt := b105_z
      replace hc_z := rn_iconst (w := 0) (am_cur_of (i := (25, 1, .iconst 0, (0, 0, 0), 0)) (by decide +kernel)) (by decide) hc_z
      replace hc_z := rn_istore_n (am_cur_of (i := (26, 1, .istore_n 3, (0, 0, 0), 0)) (by decide +kernel)) hc_z
      obtain ⟨_, s106_z, s107_z, g3_z, hc_z⟩ := hc_z
      replace g0_z := s106_z 0 _ (by decide) rfl g0_z
      replace g1_z := s106_z 1 _ (by decide) rfl g1_z
      replace g2_z := s106_z 2 _ (by decide) rfl g2_z
      clear s106_z s107_z
      replace hc_z := rn_iload_n (am_cur_of (i := (27, 1, .iload_n 3, (0, 0, 0), 0)) (by decide +kernel)) g3_z hc_z
      replace hc_z := rn_ifT (am_cur_of (i := (28, 3, .ifCond .eq 18, (22, 0, 0), 0)) (by decide +kernel)) (by decide) hc_z
      replace hc_z := rn_iconst (w := 0) (am_cur_of (i := (46, 1, .iconst 0, (0, 0, 0), 0)) (by decide +kernel)) (by decide) hc_z
      replace hc_z := rn_istore (am_cur_of (i := (47, 2, .istore 4, (0, 0, 0), 0)) (by decide +kernel)) hc_z
      obtain ⟨_, s108_z, s109_z, g4_z, hc_z⟩ := hc_z
      replace g0_z := s108_z 0 _ (by decide) rfl g0_z
      replace g1_z := s108_z 1 _ (by decide) rfl g1_z
      replace g2_z := s108_z 2 _ (by decide) rfl g2_z
      replace g3_z := s108_z 3 _ (by decide) rfl g3_z
      clear s108_z s109_z
      replace hc_z := rn_iconst (w := 0) (am_cur_of (i := (49, 1, .iconst 0, (0, 0, 0), 0)) (by decide +kernel)) (by decide) hc_z
      replace hc_z := rn_istore (am_cur_of (i := (50, 2, .istore 5, (0, 0, 0), 0)) (by decide +kernel)) hc_z
      obtain ⟨_, s110_z, s111_z, g5_z, hc_z⟩ := hc_z
      replace g0_z := s110_z 0 _ (by decide) rfl g0_z
      replace g1_z := s110_z 1 _ (by decide) rfl g1_z
      replace g2_z := s110_z 2 _ (by decide) rfl g2_z
      replace g3_z := s110_z 3 _ (by decide) rfl g3_z
      replace g4_z := s110_z 4 _ (by decide) rfl g4_z
      clear s110_z s111_z
      have em : (0 : Int32) = leZ real pt (fun q => rg_v h 7 q) := by
        unfold leZ
        rw [if_neg (by omega), if_pos (by omega)]
      rw [em] at g4_z
      exact gf_l148_2_1 hL H0 H9 p0_z p9_z l0_z l9_z _ m.toInt.toNat 0 F S le _ _ D hC el eF eS eH eU ePu ePf eLe F0 F9 S0 (by omega) g0_z g1_z g2_z g4_z g5_z (by rw [z0_z]; omega) hc_z
    · replace b105_z : xp = (0 : Int32) ∧ xp.toInt = (0 : Int32).toInt := b105_z
      replace hc_z := rn_iconst (w := 1) (am_cur_of (i := (21, 1, .iconst 1, (0, 0, 0), 0)) (by decide +kernel)) (by decide) hc_z
      replace hc_z := rn_goto (am_cur_of (i := (22, 3, .goto 4, (12, 0, 0), 0)) (by decide +kernel)) hc_z
      replace hc_z := rn_istore_n (am_cur_of (i := (26, 1, .istore_n 3, (0, 0, 0), 0)) (by decide +kernel)) hc_z
      obtain ⟨_, s112_z, s113_z, g3_z, hc_z⟩ := hc_z
      replace g0_z := s112_z 0 _ (by decide) rfl g0_z
      replace g1_z := s112_z 1 _ (by decide) rfl g1_z
      replace g2_z := s112_z 2 _ (by decide) rfl g2_z
      clear s112_z s113_z
      replace hc_z := rn_iload_n (am_cur_of (i := (27, 1, .iload_n 3, (0, 0, 0), 0)) (by decide +kernel)) g3_z hc_z
      replace hc_z := rn_ifF (am_cur_of (i := (28, 3, .ifCond .eq 18, (22, 0, 0), 0)) (by decide +kernel)) (by decide) hc_z
      replace hc_z := rn_aload_n (am_cur_of (i := (31, 1, .aload_n 0, (0, 0, 0), 0)) (by decide +kernel)) g0_z hc_z
      replace hc_z := rn_getM (x := 2) (am_cur_of (i := (32, 3, .getfield 18, (8, 0, 566), 0)) (by decide +kernel)) D hc_z
      replace hc_z := rn_getR (x := 7) (am_cur_of (i := (35, 3, .getfield 90, (1, 11, 292), 0)) (by decide +kernel)) (by decide +kernel) hc_z
      replace hc_z := rn_aload_n (am_cur_of (i := (38, 1, .aload_n 0, (0, 0, 0), 0)) (by decide +kernel)) g0_z hc_z
      replace hc_z := rn_getI (v := real) (am_cur_of (i := (39, 3, .getfield 32, (8, 2, 573), 0)) (by decide +kernel)) (by decide +kernel) eR hc_z
      replace hc_z := rn_iaload (N := 6) (q := real.toNatClampNeg) (v := rg_v h 7 real.toNatClampNeg) (am_cur_of (i := (42, 1, .iaload, (0, 0, 0), 0)) (by decide +kernel)) (by decide +kernel) rfl rfl hc_z
      obtain ⟨p114_z, hc_z⟩ := hc_z
      replace hc_z := rn_goto (am_cur_of (i := (43, 3, .goto 4, (23, 0, 0), 0)) (by decide +kernel)) hc_z
      replace hc_z := rn_istore (am_cur_of (i := (47, 2, .istore 4, (0, 0, 0), 0)) (by decide +kernel)) hc_z
      obtain ⟨_, s115_z, s116_z, g4_z, hc_z⟩ := hc_z
      replace g0_z := s115_z 0 _ (by decide) rfl g0_z
      replace g1_z := s115_z 1 _ (by decide) rfl g1_z
      replace g2_z := s115_z 2 _ (by decide) rfl g2_z
      replace g3_z := s115_z 3 _ (by decide) rfl g3_z
      clear s115_z s116_z
      replace hc_z := rn_iconst (w := 0) (am_cur_of (i := (49, 1, .iconst 0, (0, 0, 0), 0)) (by decide +kernel)) (by decide) hc_z
      replace hc_z := rn_istore (am_cur_of (i := (50, 2, .istore 5, (0, 0, 0), 0)) (by decide +kernel)) hc_z
      obtain ⟨_, s117_z, s118_z, g5_z, hc_z⟩ := hc_z
      replace g0_z := s117_z 0 _ (by decide) rfl g0_z
      replace g1_z := s117_z 1 _ (by decide) rfl g1_z
      replace g2_z := s117_z 2 _ (by decide) rfl g2_z
      replace g3_z := s117_z 3 _ (by decide) rfl g3_z
      replace g4_z := s117_z 4 _ (by decide) rfl g4_z
      clear s117_z s118_z
      have em : (rg_v h 7 real.toNatClampNeg : Int32) = leZ real pt (fun q => rg_v h 7 q) := by
        unfold leZ
        rw [if_neg (by omega), if_neg (by omega)]
      rw [em] at g4_z
      exact gf_l148_2_1 hL H0 H9 p0_z p9_z l0_z l9_z _ m.toInt.toNat 0 F S le _ _ D hC el eF eS eH eU ePu ePf eLe F0 F9 S0 (by omega) g0_z g1_z g2_z g4_z g5_z (by rw [z0_z]; omega) hc_z
theorem gf_l148_23_0 {r : Option Value} {h0_z g h' : am_H} {m mo lim Hd U pu pf : Int32} (hL : LW 23 h0_z g) (H0 : 0 ≤ Hd.toInt) (H9 : Hd.toInt ≤ 9999) (p0_z : 0 ≤ pf.toInt) (p9_z : pf.toInt ≤ 9999) (m0_z : 0 ≤ mo.toInt) (m9_z : mo.toInt ≤ 999) : ∀ (f k : Nat) (i F S le : Int32) (ls : am_L) (h : am_H), h 148 0 = .ref 23 → (∀ o q, 23 + 10 ≤ o → o ≤ 23 + 14 → rg_v h o q = rg_v h0_z o q) → rg_v h 148 5 = lim → rg_v h 149 0 = F → rg_v h 149 1 = S → rg_v h 23 0 = Hd → rg_v h 148 3 = U → rg_v h 148 4 = pu → rg_v h 23 7 = pf → rg_v h 148 6 = le → 0 ≤ F.toInt → F.toInt ≤ 99999 → 0 ≤ S.toInt → S.toInt + k < 2147483647 → am_get ls 0 = some (.ref 148) → am_get ls 1 = some (.int m) → am_get ls 2 = some (.int 0) → am_get ls 4 = some (.int mo) → am_get ls 5 = some (.int i) → i.toInt + k = m.toInt → rn f am_m75 26 ls [] h r h' → ∃ (j : Nat) (F2 le2_z : Int32), j ≤ k ∧ ((j = k ∧ r = some (.int 1)) ∨ (j < k ∧ r = some (.int 0) ∧ lim.toInt ≤ S.toInt + j)) ∧ (∀ i, i < j → S.toInt + (i : Int) < lim.toInt) ∧ gR (secZ 23 h0_z U Hd pu pf mo 0) j F S F2 ∧ gL (secZ 23 h0_z U Hd pu pf mo 0) j F S le le2_z ∧ rg_v h' 149 0 = F2 ∧ (rg_v h' 149 1).toInt = S.toInt + j ∧ rg_v h' 148 6 = le2_z ∧ gF 148 23 h h' := by
  intro f
  induction f with
  | zero => intro k i F S le ls h D hC el eF eS eH eU ePu ePf eLe F0 F9 S0 S9 g0_z g1_z g2_z g4_z g5_z ik hc_z; exact absurd hc_z rn_0
  | succ f ih_z =>
    intro k i F S le ls h D hC el eF eS eH eU ePu ePf eLe F0 F9 S0 S9 g0_z g1_z g2_z g4_z g5_z ik hc_z
    have z0_z : (0 : Int32).toInt = 0 := by decide
    have z1_z : (1 : Int32).toInt = 1 := by decide
    have z20_z : (20 : Int32).toInt = 20 := by decide
    have z999_z : (999 : Int32).toInt = 999 := by decide
    replace hc_z := rn_iload (am_cur_of (i := (52, 2, .iload 5, (0, 0, 0), 0)) (by decide +kernel)) g5_z hc_z
    replace hc_z := rn_iload_n (am_cur_of (i := (54, 1, .iload_n 1, (0, 0, 0), 0)) (by decide +kernel)) g1_z hc_z
    replace hc_z := rn_cmp (am_cur_of (i := (55, 3, .if_icmp .ge 167, (108, 0, 0), 0)) (by decide +kernel)) hc_z
    rcases hc_z with ⟨b119_z, hc_z⟩ | ⟨b119_z, hc_z⟩
    · replace b119_z : m.toInt ≤ i.toInt := b119_z
      obtain rfl : k = 0 := by omega
      replace hc_z := rn_iconst (w := 1) (am_cur_of (i := (222, 1, .iconst 1, (0, 0, 0), 0)) (by decide +kernel)) (by decide) hc_z
      replace hc_z := rn_iret (am_cur_of (i := (223, 1, .ireturn, (0, 0, 0), 0)) (by decide +kernel)) hc_z
      obtain ⟨e120_z, e121_z⟩ := hc_z
      exact ⟨0, F, le, Nat.le_refl 0, Or.inl ⟨rfl, e120_z⟩, fun i hi_z => absurd hi_z (by omega), rfl, rfl, by rw [e121_z]; exact eF, by rw [e121_z, eS]; omega, by rw [e121_z]; exact eLe, by rw [e121_z]; exact gF_r⟩
    · replace b119_z : i.toInt < m.toInt := b119_z
      obtain ⟨k, rfl⟩ : ∃ k2_z, k = k2_z + 1 := ⟨k - 1, by omega⟩
      have ci_z := fk_c1 b119_z
      have cs := ab_iadd (x := S) (y := 1) (by omega) (by omega)
      replace hc_z := rn_aload_n (am_cur_of (i := (58, 1, .aload_n 0, (0, 0, 0), 0)) (by decide +kernel)) g0_z hc_z
      replace hc_z := rn_getR (x := 149) (am_cur_of (i := (59, 3, .getfield 12, (8, 1, 569), 0)) (by decide +kernel)) (by decide +kernel) hc_z
      replace hc_z := rn_getI (v := S) (am_cur_of (i := (62, 3, .getfield 59, (5, 1, 470), 0)) (by decide +kernel)) (by decide +kernel) eS hc_z
      replace hc_z := rn_aload_n (am_cur_of (i := (65, 1, .aload_n 0, (0, 0, 0), 0)) (by decide +kernel)) g0_z hc_z
      replace hc_z := rn_getI (v := lim) (am_cur_of (i := (66, 3, .getfield 43, (8, 5, 580), 0)) (by decide +kernel)) (by decide +kernel) el hc_z
      replace hc_z := rn_cmp (am_cur_of (i := (69, 3, .if_icmp .lt 5, (37, 0, 0), 0)) (by decide +kernel)) hc_z
      rcases hc_z with ⟨b122_z, hc_z⟩ | ⟨b122_z, hc_z⟩
      · replace b122_z : S.toInt < lim.toInt := b122_z
        replace hc_z := rn_aload_n (am_cur_of (i := (74, 1, .aload_n 0, (0, 0, 0), 0)) (by decide +kernel)) g0_z hc_z
        replace hc_z := rn_getR (x := 149) (am_cur_of (i := (75, 3, .getfield 12, (8, 1, 569), 0)) (by decide +kernel)) (by decide +kernel) hc_z
        replace hc_z := rn_getI (v := F) (am_cur_of (i := (78, 3, .getfield 49, (5, 0, 463), 0)) (by decide +kernel)) (by decide +kernel) eF hc_z
        replace hc_z := rn_bipush (w := 100) (am_cur_of (i := (81, 2, .bipush 100, (0, 0, 0), 0)) (by decide +kernel)) (by decide) hc_z
        replace hc_z := rn_idiv (w := F / 100) (am_cur_of (i := (83, 1, .idiv, (0, 0, 0), 0)) (by decide +kernel)) rfl hc_z
        obtain ⟨d123_z, hc_z⟩ := hc_z
        replace hc_z := rn_iload_n (am_cur_of (i := (84, 1, .iload_n 2, (0, 0, 0), 0)) (by decide +kernel)) g2_z hc_z
        replace hc_z := rn_ifT (am_cur_of (i := (85, 3, .ifCond .eq 8, (46, 0, 0), 0)) (by decide +kernel)) (by decide) hc_z
        replace hc_z := rn_iconst (w := 0) (am_cur_of (i := (93, 1, .iconst 0, (0, 0, 0), 0)) (by decide +kernel)) (by decide) hc_z
        replace hc_z := rn_iadd (w := (F / 100) + 0) (am_cur_of (i := (94, 1, .iadd, (0, 0, 0), 0)) (by decide +kernel)) rfl hc_z
        replace hc_z := rn_istore (am_cur_of (i := (95, 2, .istore 6, (0, 0, 0), 0)) (by decide +kernel)) hc_z
        obtain ⟨_, s124_z, s125_z, g6_z, hc_z⟩ := hc_z
        replace g0_z := s124_z 0 _ (by decide) rfl g0_z
        replace g1_z := s124_z 1 _ (by decide) rfl g1_z
        replace g2_z := s124_z 2 _ (by decide) rfl g2_z
        replace g4_z := s124_z 4 _ (by decide) rfl g4_z
        replace g5_z := s124_z 5 _ (by decide) rfl g5_z
        clear s124_z s125_z
        replace hc_z := rn_aload_n (am_cur_of (i := (97, 1, .aload_n 0, (0, 0, 0), 0)) (by decide +kernel)) g0_z hc_z
        replace hc_z := rn_iconst (w := 0) (am_cur_of (i := (98, 1, .iconst 0, (0, 0, 0), 0)) (by decide +kernel)) (by decide) hc_z
        replace hc_z := rn_iload_n (am_cur_of (i := (99, 1, .iload_n 2, (0, 0, 0), 0)) (by decide +kernel)) g2_z hc_z
        replace hc_z := rn_ifT (am_cur_of (i := (100, 3, .ifCond .eq 7, (55, 0, 0), 0)) (by decide +kernel)) (by decide) hc_z
        replace hc_z := rn_iconst (w := 0) (am_cur_of (i := (107, 1, .iconst 0, (0, 0, 0), 0)) (by decide +kernel)) (by decide) hc_z
        replace hc_z := rn_iconst (w := 0) (am_cur_of (i := (108, 1, .iconst 0, (0, 0, 0), 0)) (by decide +kernel)) (by decide) hc_z
        replace hc_z := rn_callV (M' := am_m65) (o := 148) (ar := [.int 0, .int 0, .int 0]) (rest := []) (L := lv_args 0 [.ref 148, .int 0, .int 0, .int 0]) (am_cur_of (i := (109, 3, .invokevirtual 94, (65, 973, 3), 0)) (by decide +kernel)) rfl rfl rfl rfl hc_z
        obtain ⟨r126_z, h127_z, q128_z, hc_z⟩ := hc_z
        obtain ⟨wx, rr, -, x2_z, fx⟩ := wo_65_148_23 D (LW_e hC (fun _ _ _ => rfl) hL) eF eS eH eU (by decide) q128_z
        subst rr
        have x3_z := x2_z (by decide)
        rw [show (0 : Int32).toNatClampNeg = 0 by decide, ldX_c hC, lawX_c hC] at x3_z
        have el1_z : rg_v h127_z 148 5 = lim := (lw_v (fx 148 5 (by decide) (by decide))).trans el
        have eF1 : rg_v h127_z 149 0 = F := (lw_v (fx 149 0 (by decide) (by decide))).trans eF
        have eS1 : rg_v h127_z 149 1 = S := (lw_v (fx 149 1 (by decide) (by decide))).trans eS
        have eH1 : rg_v h127_z 23 0 = Hd := (lw_v (fx 23 0 (by decide) (by decide))).trans eH
        have ePu1 : rg_v h127_z 148 4 = pu := (lw_v (fx 148 4 (by decide) (by decide))).trans ePu
        have ePf1 : rg_v h127_z 23 7 = pf := (lw_v (fx 23 7 (by decide) (by decide))).trans ePf
        have eLe1 : rg_v h127_z 148 6 = le := (lw_v (fx 148 6 (by decide) (by decide))).trans eLe
        have D1 : h127_z 148 0 = .ref 23 := (fx 148 0 (by decide) (by decide)).trans D
        replace hc_z : rn _ _ _ _ [.long wx] _ _ _ := hc_z
        replace hc_z := rn_sipush (w := 999) (am_cur_of (i := (112, 3, .sipush 999, (0, 0, 0), 0)) (by decide +kernel)) (by decide) hc_z
        replace hc_z := rn_iload (am_cur_of (i := (115, 2, .iload 6, (0, 0, 0), 0)) (by decide +kernel)) g6_z hc_z
        replace hc_z := rn_callS (M' := am_m68) (ar := [.int ((F / 100) + 0), .int 999, .long wx]) (rest := []) (L := lv_args 0 [.long wx, .int 999, .int ((F / 100) + 0)]) (am_cur_of (i := (117, 3, .invokestatic 80, (68, 935, 3), 0)) (by decide +kernel)) rfl rfl rfl rfl hc_z
        obtain ⟨r129_z, h130_z, q131_z, hc_z⟩ := hc_z
        have dv := dv_100 (F := F) (by omega)
        have dw := ab_iadd (x := F / 100) (y := 0) (by omega) (by omega)
        obtain ⟨xl, rr, hh, xe⟩ := wi_68 x3_z (fun z e => lawX_b (hL 0 (by decide)) (fun q _ => eC_b q) e) (by decide) q131_z
        replace hh := hh.symm
        subst rr
        subst hh
        have eWo : (F / 100 + 0).toInt = F.toInt / 100 + 20 * (0 : Int32).toInt := by
          have y1_z : (1 : Int32).toInt = 1 := by decide
          have y0_z : (0 : Int32).toInt = 0 := by decide
          omega
        rw [eWo, show (999 : Int32).toInt = 999 by decide] at xe
        have bw := bnd_w (q := lawX 23 h0_z 0 (eC (ldX 23 h0_z U F (Hd - F) 0 S) F (Hd - F) 0 S 0)) (wo := F.toInt / 100 + 20 * (0 : Int32).toInt) (mo := 999) (by omega) (by decide)
        rw [← xe] at bw
        have c1_z := ab_iadd (x := xl) (y := mo) (by omega) (by omega)
        have c2_z := ab_isub (x := F) (y := xl + mo) (by omega) (by omega)
        replace hc_z : rn _ _ _ _ [.int xl] _ _ _ := hc_z
        replace hc_z := rn_iload (am_cur_of (i := (120, 2, .iload 4, (0, 0, 0), 0)) (by decide +kernel)) g4_z hc_z
        replace hc_z := rn_iadd (w := xl + mo) (am_cur_of (i := (122, 1, .iadd, (0, 0, 0), 0)) (by decide +kernel)) rfl hc_z
        replace hc_z := rn_istore (am_cur_of (i := (123, 2, .istore 7, (0, 0, 0), 0)) (by decide +kernel)) hc_z
        obtain ⟨_, s132_z, s133_z, g7_z, hc_z⟩ := hc_z
        replace g0_z := s132_z 0 _ (by decide) rfl g0_z
        replace g1_z := s132_z 1 _ (by decide) rfl g1_z
        replace g2_z := s132_z 2 _ (by decide) rfl g2_z
        replace g4_z := s132_z 4 _ (by decide) rfl g4_z
        replace g5_z := s132_z 5 _ (by decide) rfl g5_z
        replace g6_z := s132_z 6 _ (by decide) rfl g6_z
        clear s132_z s133_z
        replace hc_z := rn_aload_n (am_cur_of (i := (125, 1, .aload_n 0, (0, 0, 0), 0)) (by decide +kernel)) g0_z hc_z
        replace hc_z := rn_getR (x := 149) (am_cur_of (i := (126, 3, .getfield 12, (8, 1, 569), 0)) (by decide +kernel)) (by decide +kernel) hc_z
        replace hc_z := rn_aload_n (am_cur_of (i := (129, 1, .aload_n 0, (0, 0, 0), 0)) (by decide +kernel)) g0_z hc_z
        replace hc_z := rn_getR (x := 149) (am_cur_of (i := (130, 3, .getfield 12, (8, 1, 569), 0)) (by decide +kernel)) (by decide +kernel) hc_z
        replace hc_z := rn_getI (v := F) (am_cur_of (i := (133, 3, .getfield 49, (5, 0, 463), 0)) (by decide +kernel)) (by decide +kernel) eF1 hc_z
        replace hc_z := rn_iload (am_cur_of (i := (136, 2, .iload 7, (0, 0, 0), 0)) (by decide +kernel)) g7_z hc_z
        replace hc_z := rn_isub (w := F - (xl + mo)) (am_cur_of (i := (138, 1, .isub, (0, 0, 0), 0)) (by decide +kernel)) rfl hc_z
        replace hc_z := rn_iconst (w := 0) (am_cur_of (i := (139, 1, .iconst 0, (0, 0, 0), 0)) (by decide +kernel)) (by decide) hc_z
        obtain ⟨m134_z, e135_z⟩ : ∃ mq : Int32, (if F - (xl + mo) < 0 then 0 else F - (xl + mo)) = mq := ⟨_, rfl⟩
        replace hc_z := rn_max (w := m134_z) (am_cur_of (i := (140, 3, .invokestatic 98, (0, 974, 1), 0)) (by decide +kernel)) e135_z hc_z
        replace e135_z := mx_0 e135_z
        have c3_z := ab_iadd (x := m134_z) (y := pf) (by omega) (by omega)
        replace hc_z := rn_put (am_cur_of (i := (143, 3, .putfield 49, (5, 0, 463), 0)) (by decide +kernel)) (by decide +kernel) hc_z
        replace hc_z := rn_aload_n (am_cur_of (i := (146, 1, .aload_n 0, (0, 0, 0), 0)) (by decide +kernel)) g0_z hc_z
        replace hc_z := rn_getI (v := pu) (am_cur_of (i := (147, 3, .getfield 37, (8, 4, 577), 0)) (by decide +kernel)) (by decide +kernel) ((rg_v_other (by omega)).trans (ePu1)) hc_z
        replace hc_z := rn_if (am_cur_of (i := (150, 3, .ifCond .eq 35, (91, 0, 0), 0)) (by decide +kernel)) hc_z
        rcases hc_z with ⟨b136_z, hc_z⟩ | ⟨b136_z, hc_z⟩
        · replace b136_z : pu = (0 : Int32) ∧ pu.toInt = (0 : Int32).toInt := b136_z
          replace hc_z := rn_aload_n (am_cur_of (i := (185, 1, .aload_n 0, (0, 0, 0), 0)) (by decide +kernel)) g0_z hc_z
          replace hc_z := rn_getR (x := 149) (am_cur_of (i := (186, 3, .getfield 12, (8, 1, 569), 0)) (by decide +kernel)) (by decide +kernel) hc_z
          replace hc_z := rn_dup (am_cur_of (i := (189, 1, .dup, (0, 0, 0), 0)) (by decide +kernel)) hc_z
          replace hc_z := rn_getI (v := S) (am_cur_of (i := (190, 3, .getfield 59, (5, 1, 470), 0)) (by decide +kernel)) (by decide +kernel) ((rg_v_other (by omega)).trans (eS1)) hc_z
          replace hc_z := rn_iconst (w := 1) (am_cur_of (i := (193, 1, .iconst 1, (0, 0, 0), 0)) (by decide +kernel)) (by decide) hc_z
          replace hc_z := rn_iadd (w := S + 1) (am_cur_of (i := (194, 1, .iadd, (0, 0, 0), 0)) (by decide +kernel)) rfl hc_z
          replace hc_z := rn_put (am_cur_of (i := (195, 3, .putfield 59, (5, 1, 470), 0)) (by decide +kernel)) (by decide +kernel) hc_z
          replace hc_z := rn_aload_n (am_cur_of (i := (198, 1, .aload_n 0, (0, 0, 0), 0)) (by decide +kernel)) g0_z hc_z
          replace hc_z := rn_aload_n (am_cur_of (i := (199, 1, .aload_n 0, (0, 0, 0), 0)) (by decide +kernel)) g0_z hc_z
          replace hc_z := rn_getI (v := le) (am_cur_of (i := (200, 3, .getfield 46, (8, 6, 581), 0)) (by decide +kernel)) (by decide +kernel) ((rg_v_other (by omega)).trans ((rg_v_other (by omega)).trans (eLe1))) hc_z
          replace hc_z := rn_aload_n (am_cur_of (i := (203, 1, .aload_n 0, (0, 0, 0), 0)) (by decide +kernel)) g0_z hc_z
          replace hc_z := rn_getR (x := 149) (am_cur_of (i := (204, 3, .getfield 12, (8, 1, 569), 0)) (by decide +kernel)) (by decide +kernel) hc_z
          replace hc_z := rn_getI (v := m134_z) (am_cur_of (i := (207, 3, .getfield 49, (5, 0, 463), 0)) (by decide +kernel)) (by decide +kernel) ((rg_v_other (by omega)).trans (rg_v_self)) hc_z
          obtain ⟨m137_z, e138_z⟩ : ∃ mq : Int32, (if m134_z < le then m134_z else le) = mq := ⟨_, rfl⟩
          replace hc_z := rn_min (w := m137_z) (am_cur_of (i := (210, 3, .invokestatic 107, (0, 975, 2), 0)) (by decide +kernel)) e138_z hc_z
          replace e138_z := mn_2 e138_z
          replace hc_z := rn_put (am_cur_of (i := (213, 3, .putfield 46, (8, 6, 581), 0)) (by decide +kernel)) (by decide +kernel) hc_z
          replace hc_z := rn_iinc (w := i + 1) (am_cur_of (i := (216, 3, .iinc 5 1, (0, 0, 0), 0)) (by decide +kernel)) g5_z rfl hc_z
          obtain ⟨_, s139_z, s140_z, g5_z, hc_z⟩ := hc_z
          replace g0_z := s139_z 0 _ (by decide) rfl g0_z
          replace g1_z := s139_z 1 _ (by decide) rfl g1_z
          replace g2_z := s139_z 2 _ (by decide) rfl g2_z
          replace g4_z := s139_z 4 _ (by decide) rfl g4_z
          replace g6_z := s139_z 6 _ (by decide) rfl g6_z
          replace g7_z := s139_z 7 _ (by decide) rfl g7_z
          clear s139_z s140_z
          replace hc_z := rn_gotoL (am_cur_of (i := (219, 3, .goto (-167), (26, 0, 0), 0)) (by decide +kernel)) hc_z
          have eZ : m134_z.toInt = secZ 23 h0_z U Hd pu pf mo 0 F S := by
            unfold secZ
            rw [if_pos b136_z.1, ← xe]
            omega
          have gg : gF 148 23 h (am_up (am_up (am_up h127_z 149 0 (.int m134_z)) 149 1 (.int (S + 1))) 148 6 (.int m137_z)) := fun o k a_ b_ c_ d_ => (up_ne (by omega)).trans ((up_ne (by omega)).trans ((up_ne (by omega)).trans (fx o k a_ b_)))
          obtain ⟨j, F2, le2_z, j1_z, j2_z, j3_z, j4_z, j5_z, j6_z, j7_z, j8_z, j9_z⟩ := ih_z k (i + 1) m134_z (S + 1) m137_z _ _ ((gg 148 0 (by decide) (by decide) (by decide) (by decide)).trans D) (fun o q a_ b_ => (lw_v (gg o q (by omega) (by omega) (by omega) (by omega))).trans (hC o q a_ b_)) (((rg_v_other (by omega)).trans ((rg_v_other (by omega)).trans ((rg_v_other (by omega)).trans (el1_z))))) (((rg_v_other (by omega)).trans ((rg_v_other (by omega)).trans (rg_v_self)))) (((rg_v_other (by omega)).trans (rg_v_self))) (((rg_v_other (by omega)).trans ((rg_v_other (by omega)).trans ((rg_v_other (by omega)).trans (eH1))))) ((lw_v (gg 148 3 (by decide) (by decide) (by decide) (by decide))).trans eU) (((rg_v_other (by omega)).trans ((rg_v_other (by omega)).trans ((rg_v_other (by omega)).trans (ePu1))))) (((rg_v_other (by omega)).trans ((rg_v_other (by omega)).trans ((rg_v_other (by omega)).trans (ePf1))))) (rg_v_self) (by omega) (by omega) (by omega) (by omega) g0_z g1_z g2_z g4_z g5_z (by omega) hc_z
          refine ⟨j + 1, F2, le2_z, by omega, ?_, fun i hi_z => ?_, ⟨m134_z, eZ, j4_z⟩, ⟨m134_z, m137_z, eZ, e138_z, j5_z⟩, j6_z, by omega, j8_z, gF_t gg j9_z⟩
          · rcases j2_z with ⟨a, b⟩ | ⟨a, b, d⟩
            · exact Or.inl ⟨by omega, b⟩
            · exact Or.inr ⟨by omega, b, by omega⟩
          · by_cases z : i = 0
            · omega
            · have := j3_z (i - 1) (by omega)
              omega
        · replace b136_z : ¬ pu = (0 : Int32) ∧ ¬ pu.toInt = (0 : Int32).toInt := b136_z
          replace hc_z := rn_aload_n (am_cur_of (i := (153, 1, .aload_n 0, (0, 0, 0), 0)) (by decide +kernel)) g0_z hc_z
          replace hc_z := rn_getR (x := 149) (am_cur_of (i := (154, 3, .getfield 12, (8, 1, 569), 0)) (by decide +kernel)) (by decide +kernel) hc_z
          replace hc_z := rn_aload_n (am_cur_of (i := (157, 1, .aload_n 0, (0, 0, 0), 0)) (by decide +kernel)) g0_z hc_z
          replace hc_z := rn_getR (x := 149) (am_cur_of (i := (158, 3, .getfield 12, (8, 1, 569), 0)) (by decide +kernel)) (by decide +kernel) hc_z
          replace hc_z := rn_getI (v := m134_z) (am_cur_of (i := (161, 3, .getfield 49, (5, 0, 463), 0)) (by decide +kernel)) (by decide +kernel) rg_v_self hc_z
          replace hc_z := rn_aload_n (am_cur_of (i := (164, 1, .aload_n 0, (0, 0, 0), 0)) (by decide +kernel)) g0_z hc_z
          replace hc_z := rn_getM (x := 23) (am_cur_of (i := (165, 3, .getfield 18, (8, 0, 566), 0)) (by decide +kernel)) (show (am_up h127_z 149 0 (.int m134_z)) 148 0 = .ref 23 from D1) hc_z
          replace hc_z := rn_getI (v := pf) (am_cur_of (i := (168, 3, .getfield 104, (1, 7, 277), 0)) (by decide +kernel)) (by decide +kernel) ((rg_v_other (by omega)).trans (ePf1)) hc_z
          replace hc_z := rn_iadd (w := m134_z + pf) (am_cur_of (i := (171, 1, .iadd, (0, 0, 0), 0)) (by decide +kernel)) rfl hc_z
          replace hc_z := rn_aload_n (am_cur_of (i := (172, 1, .aload_n 0, (0, 0, 0), 0)) (by decide +kernel)) g0_z hc_z
          replace hc_z := rn_getM (x := 23) (am_cur_of (i := (173, 3, .getfield 18, (8, 0, 566), 0)) (by decide +kernel)) (show (am_up h127_z 149 0 (.int m134_z)) 148 0 = .ref 23 from D1) hc_z
          replace hc_z := rn_getI (v := Hd) (am_cur_of (i := (176, 3, .getfield 52, (1, 0, 249), 0)) (by decide +kernel)) (by decide +kernel) ((rg_v_other (by omega)).trans (eH1)) hc_z
          obtain ⟨m141_z, e142_z⟩ : ∃ mq : Int32, (if Hd < m134_z + pf then Hd else m134_z + pf) = mq := ⟨_, rfl⟩
          replace hc_z := rn_min (w := m141_z) (am_cur_of (i := (179, 3, .invokestatic 107, (0, 975, 2), 0)) (by decide +kernel)) e142_z hc_z
          replace e142_z := mn_2 e142_z
          replace hc_z := rn_put (am_cur_of (i := (182, 3, .putfield 49, (5, 0, 463), 0)) (by decide +kernel)) (by decide +kernel) hc_z
          replace hc_z := rn_aload_n (am_cur_of (i := (185, 1, .aload_n 0, (0, 0, 0), 0)) (by decide +kernel)) g0_z hc_z
          replace hc_z := rn_getR (x := 149) (am_cur_of (i := (186, 3, .getfield 12, (8, 1, 569), 0)) (by decide +kernel)) (by decide +kernel) hc_z
          replace hc_z := rn_dup (am_cur_of (i := (189, 1, .dup, (0, 0, 0), 0)) (by decide +kernel)) hc_z
          replace hc_z := rn_getI (v := S) (am_cur_of (i := (190, 3, .getfield 59, (5, 1, 470), 0)) (by decide +kernel)) (by decide +kernel) ((rg_v_other (by omega)).trans ((rg_v_other (by omega)).trans (eS1))) hc_z
          replace hc_z := rn_iconst (w := 1) (am_cur_of (i := (193, 1, .iconst 1, (0, 0, 0), 0)) (by decide +kernel)) (by decide) hc_z
          replace hc_z := rn_iadd (w := S + 1) (am_cur_of (i := (194, 1, .iadd, (0, 0, 0), 0)) (by decide +kernel)) rfl hc_z
          replace hc_z := rn_put (am_cur_of (i := (195, 3, .putfield 59, (5, 1, 470), 0)) (by decide +kernel)) (by decide +kernel) hc_z
          replace hc_z := rn_aload_n (am_cur_of (i := (198, 1, .aload_n 0, (0, 0, 0), 0)) (by decide +kernel)) g0_z hc_z
          replace hc_z := rn_aload_n (am_cur_of (i := (199, 1, .aload_n 0, (0, 0, 0), 0)) (by decide +kernel)) g0_z hc_z
          replace hc_z := rn_getI (v := le) (am_cur_of (i := (200, 3, .getfield 46, (8, 6, 581), 0)) (by decide +kernel)) (by decide +kernel) ((rg_v_other (by omega)).trans ((rg_v_other (by omega)).trans ((rg_v_other (by omega)).trans (eLe1)))) hc_z
          replace hc_z := rn_aload_n (am_cur_of (i := (203, 1, .aload_n 0, (0, 0, 0), 0)) (by decide +kernel)) g0_z hc_z
          replace hc_z := rn_getR (x := 149) (am_cur_of (i := (204, 3, .getfield 12, (8, 1, 569), 0)) (by decide +kernel)) (by decide +kernel) hc_z
          replace hc_z := rn_getI (v := m141_z) (am_cur_of (i := (207, 3, .getfield 49, (5, 0, 463), 0)) (by decide +kernel)) (by decide +kernel) ((rg_v_other (by omega)).trans (rg_v_self)) hc_z
          obtain ⟨m143_z, e144_z⟩ : ∃ mq : Int32, (if m141_z < le then m141_z else le) = mq := ⟨_, rfl⟩
          replace hc_z := rn_min (w := m143_z) (am_cur_of (i := (210, 3, .invokestatic 107, (0, 975, 2), 0)) (by decide +kernel)) e144_z hc_z
          replace e144_z := mn_2 e144_z
          replace hc_z := rn_put (am_cur_of (i := (213, 3, .putfield 46, (8, 6, 581), 0)) (by decide +kernel)) (by decide +kernel) hc_z
          replace hc_z := rn_iinc (w := i + 1) (am_cur_of (i := (216, 3, .iinc 5 1, (0, 0, 0), 0)) (by decide +kernel)) g5_z rfl hc_z
          obtain ⟨_, s145_z, s146_z, g5_z, hc_z⟩ := hc_z
          replace g0_z := s145_z 0 _ (by decide) rfl g0_z
          replace g1_z := s145_z 1 _ (by decide) rfl g1_z
          replace g2_z := s145_z 2 _ (by decide) rfl g2_z
          replace g4_z := s145_z 4 _ (by decide) rfl g4_z
          replace g6_z := s145_z 6 _ (by decide) rfl g6_z
          replace g7_z := s145_z 7 _ (by decide) rfl g7_z
          clear s145_z s146_z
          replace hc_z := rn_gotoL (am_cur_of (i := (219, 3, .goto (-167), (26, 0, 0), 0)) (by decide +kernel)) hc_z
          have eZ : m141_z.toInt = secZ 23 h0_z U Hd pu pf mo 0 F S := by
            unfold secZ
            rw [if_neg b136_z.1, ← xe]
            omega
          have gg : gF 148 23 h (am_up (am_up (am_up (am_up h127_z 149 0 (.int m134_z)) 149 0 (.int m141_z)) 149 1 (.int (S + 1))) 148 6 (.int m143_z)) := fun o k a_ b_ c_ d_ => (up_ne (by omega)).trans ((up_ne (by omega)).trans ((up_ne (by omega)).trans ((up_ne (by omega)).trans (fx o k a_ b_))))
          obtain ⟨j, F2, le2_z, j1_z, j2_z, j3_z, j4_z, j5_z, j6_z, j7_z, j8_z, j9_z⟩ := ih_z k (i + 1) m141_z (S + 1) m143_z _ _ ((gg 148 0 (by decide) (by decide) (by decide) (by decide)).trans D) (fun o q a_ b_ => (lw_v (gg o q (by omega) (by omega) (by omega) (by omega))).trans (hC o q a_ b_)) (((rg_v_other (by omega)).trans ((rg_v_other (by omega)).trans ((rg_v_other (by omega)).trans ((rg_v_other (by omega)).trans (el1_z)))))) (((rg_v_other (by omega)).trans ((rg_v_other (by omega)).trans (rg_v_self)))) (((rg_v_other (by omega)).trans (rg_v_self))) (((rg_v_other (by omega)).trans ((rg_v_other (by omega)).trans ((rg_v_other (by omega)).trans ((rg_v_other (by omega)).trans (eH1)))))) ((lw_v (gg 148 3 (by decide) (by decide) (by decide) (by decide))).trans eU) (((rg_v_other (by omega)).trans ((rg_v_other (by omega)).trans ((rg_v_other (by omega)).trans ((rg_v_other (by omega)).trans (ePu1)))))) (((rg_v_other (by omega)).trans ((rg_v_other (by omega)).trans ((rg_v_other (by omega)).trans ((rg_v_other (by omega)).trans (ePf1)))))) (rg_v_self) (by omega) (by omega) (by omega) (by omega) g0_z g1_z g2_z g4_z g5_z (by omega) hc_z
          refine ⟨j + 1, F2, le2_z, by omega, ?_, fun i hi_z => ?_, ⟨m141_z, eZ, j4_z⟩, ⟨m141_z, m143_z, eZ, e144_z, j5_z⟩, j6_z, by omega, j8_z, gF_t gg j9_z⟩
          · rcases j2_z with ⟨a, b⟩ | ⟨a, b, d⟩
            · exact Or.inl ⟨by omega, b⟩
            · exact Or.inr ⟨by omega, b, by omega⟩
          · by_cases z : i = 0
            · omega
            · have := j3_z (i - 1) (by omega)
              omega
      · replace b122_z : lim.toInt ≤ S.toInt := b122_z
        replace hc_z := rn_iconst (w := 0) (am_cur_of (i := (72, 1, .iconst 0, (0, 0, 0), 0)) (by decide +kernel)) (by decide) hc_z
        replace hc_z := rn_iret (am_cur_of (i := (73, 1, .ireturn, (0, 0, 0), 0)) (by decide +kernel)) hc_z
        obtain ⟨e147_z, e148_z⟩ := hc_z
        exact ⟨0, F, le, by omega, Or.inr ⟨by omega, e147_z, by omega⟩, fun i hi_z => absurd hi_z (by omega), rfl, rfl, by rw [e148_z]; exact eF, by rw [e148_z, eS]; omega, by rw [e148_z]; exact eLe, by rw [e148_z]; exact gF_r⟩
theorem gf_75_148_23_0 {n : Nat} {r : Option Value} {h h0_z g h' : am_H} {m lim Hd U pu pf F S le real pt : Int32} (D : h 148 0 = .ref 23) (hL : LW 23 h0_z g) (hC : ∀ o q, 23 + 10 ≤ o → o ≤ 23 + 14 → rg_v h o q = rg_v h0_z o q) (el : rg_v h 148 5 = lim) (eF : rg_v h 149 0 = F) (eS : rg_v h 149 1 = S) (eH : rg_v h 23 0 = Hd) (eU : rg_v h 148 3 = U) (ePu : rg_v h 148 4 = pu) (ePf : rg_v h 23 7 = pf) (eLe : rg_v h 148 6 = le) (eR : rg_v h 148 2 = real) (ePt : rg_v h 149 4 = pt) (H0 : 0 ≤ Hd.toInt) (H9 : Hd.toInt ≤ 9999) (p0_z : 0 ≤ pf.toInt) (p9_z : pf.toInt ≤ 9999) (F0 : 0 ≤ F.toInt) (F9 : F.toInt ≤ 99999) (S0 : 0 ≤ S.toInt) (m0_z : 0 ≤ m.toInt) (S9 : S.toInt + m.toInt < 2147483647) (l0_z : 0 ≤ (leZ real pt (fun q => rg_v h 28 q)).toInt) (l9_z : (leZ real pt (fun q => rg_v h 28 q)).toInt ≤ 999) (hc_z : rn n am_m75 0 (lv_args 0 [.ref 148, .int m, .int 0]) [] h r h') : ∃ (j : Nat) (F2 le2_z : Int32), j ≤ m.toInt.toNat ∧ ((j = m.toInt.toNat ∧ r = some (.int 1)) ∨ (j < m.toInt.toNat ∧ r = some (.int 0) ∧ lim.toInt ≤ S.toInt + j)) ∧ (∀ i, i < j → S.toInt + (i : Int) < lim.toInt) ∧ gR (secZ 23 h0_z U Hd pu pf (leZ real pt (fun q => rg_v h 28 q)) 0) j F S F2 ∧ gL (secZ 23 h0_z U Hd pu pf (leZ real pt (fun q => rg_v h 28 q)) 0) j F S le le2_z ∧ rg_v h' 149 0 = F2 ∧ (rg_v h' 149 1).toInt = S.toInt + j ∧ rg_v h' 148 6 = le2_z ∧ gF 148 23 h h' := by
  have z0_z : (0 : Int32).toInt = 0 := by decide
  have g0_z : am_get (lv_args 0 [.ref 148, .int m, .int 0]) 0 = some (.ref 148) := rfl
  have g1_z : am_get (lv_args 0 [.ref 148, .int m, .int 0]) 1 = some (.int m) := rfl
  have g2_z : am_get (lv_args 0 [.ref 148, .int m, .int 0]) 2 = some (.int 0) := rfl
  replace hc_z := rn_aload_n (am_cur_of (i := (0, 1, .aload_n 0, (0, 0, 0), 0)) (by decide +kernel)) g0_z hc_z
  replace hc_z := rn_getI (v := real) (am_cur_of (i := (1, 3, .getfield 32, (8, 2, 573), 0)) (by decide +kernel)) (by decide +kernel) eR hc_z
  replace hc_z := rn_if (am_cur_of (i := (4, 3, .ifCond .lt 21, (11, 0, 0), 0)) (by decide +kernel)) hc_z
  rcases hc_z with ⟨b149_z, hc_z⟩ | ⟨b149_z, hc_z⟩
  · replace b149_z : real.toInt < (0 : Int32).toInt := b149_z
    replace hc_z := rn_iconst (w := 0) (am_cur_of (i := (25, 1, .iconst 0, (0, 0, 0), 0)) (by decide +kernel)) (by decide) hc_z
    replace hc_z := rn_istore_n (am_cur_of (i := (26, 1, .istore_n 3, (0, 0, 0), 0)) (by decide +kernel)) hc_z
    obtain ⟨_, s150_z, s151_z, g3_z, hc_z⟩ := hc_z
    replace g0_z := s150_z 0 _ (by decide) rfl g0_z
    replace g1_z := s150_z 1 _ (by decide) rfl g1_z
    replace g2_z := s150_z 2 _ (by decide) rfl g2_z
    clear s150_z s151_z
    replace hc_z := rn_iload_n (am_cur_of (i := (27, 1, .iload_n 3, (0, 0, 0), 0)) (by decide +kernel)) g3_z hc_z
    replace hc_z := rn_ifT (am_cur_of (i := (28, 3, .ifCond .eq 18, (22, 0, 0), 0)) (by decide +kernel)) (by decide) hc_z
    replace hc_z := rn_iconst (w := 0) (am_cur_of (i := (46, 1, .iconst 0, (0, 0, 0), 0)) (by decide +kernel)) (by decide) hc_z
    replace hc_z := rn_istore (am_cur_of (i := (47, 2, .istore 4, (0, 0, 0), 0)) (by decide +kernel)) hc_z
    obtain ⟨_, s152_z, s153_z, g4_z, hc_z⟩ := hc_z
    replace g0_z := s152_z 0 _ (by decide) rfl g0_z
    replace g1_z := s152_z 1 _ (by decide) rfl g1_z
    replace g2_z := s152_z 2 _ (by decide) rfl g2_z
    replace g3_z := s152_z 3 _ (by decide) rfl g3_z
    clear s152_z s153_z
    replace hc_z := rn_iconst (w := 0) (am_cur_of (i := (49, 1, .iconst 0, (0, 0, 0), 0)) (by decide +kernel)) (by decide) hc_z
    replace hc_z := rn_istore (am_cur_of (i := (50, 2, .istore 5, (0, 0, 0), 0)) (by decide +kernel)) hc_z
    obtain ⟨_, s154_z, s155_z, g5_z, hc_z⟩ := hc_z
    replace g0_z := s154_z 0 _ (by decide) rfl g0_z
    replace g1_z := s154_z 1 _ (by decide) rfl g1_z
    replace g2_z := s154_z 2 _ (by decide) rfl g2_z
    replace g3_z := s154_z 3 _ (by decide) rfl g3_z
    replace g4_z := s154_z 4 _ (by decide) rfl g4_z
    clear s154_z s155_z
    have em : (0 : Int32) = leZ real pt (fun q => rg_v h 28 q) := by
      unfold leZ
      rw [if_pos (by omega)]
    rw [em] at g4_z
    exact gf_l148_23_0 hL H0 H9 p0_z p9_z l0_z l9_z _ m.toInt.toNat 0 F S le _ _ D hC el eF eS eH eU ePu ePf eLe F0 F9 S0 (by omega) g0_z g1_z g2_z g4_z g5_z (by rw [z0_z]; omega) hc_z
  · replace b149_z : (0 : Int32).toInt ≤ real.toInt := b149_z
    replace hc_z := rn_aload_n (am_cur_of (i := (7, 1, .aload_n 0, (0, 0, 0), 0)) (by decide +kernel)) g0_z hc_z
    replace hc_z := rn_getR (x := 149) (am_cur_of (i := (8, 3, .getfield 12, (8, 1, 569), 0)) (by decide +kernel)) (by decide +kernel) hc_z
    replace hc_z := rn_aload_n (am_cur_of (i := (11, 1, .aload_n 0, (0, 0, 0), 0)) (by decide +kernel)) g0_z hc_z
    replace hc_z := rn_getI (v := real) (am_cur_of (i := (12, 3, .getfield 32, (8, 2, 573), 0)) (by decide +kernel)) (by decide +kernel) eR hc_z
    replace hc_z := rn_callV (M' := am_m76) (o := 149) (ar := [.int real]) (rest := []) (L := lv_args 0 [.ref 149, .int real]) (am_cur_of (i := (15, 3, .invokevirtual 86, (76, 969, 3), 0)) (by decide +kernel)) rfl rfl rfl rfl hc_z
    obtain ⟨r156_z, h157_z, q158_z, hc_z⟩ := hc_z
    obtain ⟨xp, rr, hh, xe⟩ := ip_76_149 ePt q158_z
    replace hh := hh.symm
    subst rr
    subst hh
    replace hc_z : rn _ _ _ _ [.int xp] _ _ _ := hc_z
    replace hc_z := rn_if (am_cur_of (i := (18, 3, .ifCond .ne 7, (11, 0, 0), 0)) (by decide +kernel)) hc_z
    rcases hc_z with ⟨b159_z, hc_z⟩ | ⟨b159_z, hc_z⟩
    · replace b159_z : ¬ xp = (0 : Int32) ∧ ¬ xp.toInt = (0 : Int32).toInt := b159_z
      replace hc_z := rn_iconst (w := 0) (am_cur_of (i := (25, 1, .iconst 0, (0, 0, 0), 0)) (by decide +kernel)) (by decide) hc_z
      replace hc_z := rn_istore_n (am_cur_of (i := (26, 1, .istore_n 3, (0, 0, 0), 0)) (by decide +kernel)) hc_z
      obtain ⟨_, s160_z, s161_z, g3_z, hc_z⟩ := hc_z
      replace g0_z := s160_z 0 _ (by decide) rfl g0_z
      replace g1_z := s160_z 1 _ (by decide) rfl g1_z
      replace g2_z := s160_z 2 _ (by decide) rfl g2_z
      clear s160_z s161_z
      replace hc_z := rn_iload_n (am_cur_of (i := (27, 1, .iload_n 3, (0, 0, 0), 0)) (by decide +kernel)) g3_z hc_z
      replace hc_z := rn_ifT (am_cur_of (i := (28, 3, .ifCond .eq 18, (22, 0, 0), 0)) (by decide +kernel)) (by decide) hc_z
      replace hc_z := rn_iconst (w := 0) (am_cur_of (i := (46, 1, .iconst 0, (0, 0, 0), 0)) (by decide +kernel)) (by decide) hc_z
      replace hc_z := rn_istore (am_cur_of (i := (47, 2, .istore 4, (0, 0, 0), 0)) (by decide +kernel)) hc_z
      obtain ⟨_, s162_z, s163_z, g4_z, hc_z⟩ := hc_z
      replace g0_z := s162_z 0 _ (by decide) rfl g0_z
      replace g1_z := s162_z 1 _ (by decide) rfl g1_z
      replace g2_z := s162_z 2 _ (by decide) rfl g2_z
      replace g3_z := s162_z 3 _ (by decide) rfl g3_z
      clear s162_z s163_z
      replace hc_z := rn_iconst (w := 0) (am_cur_of (i := (49, 1, .iconst 0, (0, 0, 0), 0)) (by decide +kernel)) (by decide) hc_z
      replace hc_z := rn_istore (am_cur_of (i := (50, 2, .istore 5, (0, 0, 0), 0)) (by decide +kernel)) hc_z
      obtain ⟨_, s164_z, s165_z, g5_z, hc_z⟩ := hc_z
      replace g0_z := s164_z 0 _ (by decide) rfl g0_z
      replace g1_z := s164_z 1 _ (by decide) rfl g1_z
      replace g2_z := s164_z 2 _ (by decide) rfl g2_z
      replace g3_z := s164_z 3 _ (by decide) rfl g3_z
      replace g4_z := s164_z 4 _ (by decide) rfl g4_z
      clear s164_z s165_z
      have em : (0 : Int32) = leZ real pt (fun q => rg_v h 28 q) := by
        unfold leZ
        rw [if_neg (by omega), if_pos (by omega)]
      rw [em] at g4_z
      exact gf_l148_23_0 hL H0 H9 p0_z p9_z l0_z l9_z _ m.toInt.toNat 0 F S le _ _ D hC el eF eS eH eU ePu ePf eLe F0 F9 S0 (by omega) g0_z g1_z g2_z g4_z g5_z (by rw [z0_z]; omega) hc_z
    · replace b159_z : xp = (0 : Int32) ∧ xp.toInt = (0 : Int32).toInt := b159_z
      replace hc_z := rn_iconst (w := 1) (am_cur_of (i := (21, 1, .iconst 1, (0, 0, 0), 0)) (by decide +kernel)) (by decide) hc_z
      replace hc_z := rn_goto (am_cur_of (i := (22, 3, .goto 4, (12, 0, 0), 0)) (by decide +kernel)) hc_z
      replace hc_z := rn_istore_n (am_cur_of (i := (26, 1, .istore_n 3, (0, 0, 0), 0)) (by decide +kernel)) hc_z
      obtain ⟨_, s166_z, s167_z, g3_z, hc_z⟩ := hc_z
      replace g0_z := s166_z 0 _ (by decide) rfl g0_z
      replace g1_z := s166_z 1 _ (by decide) rfl g1_z
      replace g2_z := s166_z 2 _ (by decide) rfl g2_z
      clear s166_z s167_z
      replace hc_z := rn_iload_n (am_cur_of (i := (27, 1, .iload_n 3, (0, 0, 0), 0)) (by decide +kernel)) g3_z hc_z
      replace hc_z := rn_ifF (am_cur_of (i := (28, 3, .ifCond .eq 18, (22, 0, 0), 0)) (by decide +kernel)) (by decide) hc_z
      replace hc_z := rn_aload_n (am_cur_of (i := (31, 1, .aload_n 0, (0, 0, 0), 0)) (by decide +kernel)) g0_z hc_z
      replace hc_z := rn_getM (x := 23) (am_cur_of (i := (32, 3, .getfield 18, (8, 0, 566), 0)) (by decide +kernel)) D hc_z
      replace hc_z := rn_getR (x := 28) (am_cur_of (i := (35, 3, .getfield 90, (1, 11, 292), 0)) (by decide +kernel)) (by decide +kernel) hc_z
      replace hc_z := rn_aload_n (am_cur_of (i := (38, 1, .aload_n 0, (0, 0, 0), 0)) (by decide +kernel)) g0_z hc_z
      replace hc_z := rn_getI (v := real) (am_cur_of (i := (39, 3, .getfield 32, (8, 2, 573), 0)) (by decide +kernel)) (by decide +kernel) eR hc_z
      replace hc_z := rn_iaload (N := 6) (q := real.toNatClampNeg) (v := rg_v h 28 real.toNatClampNeg) (am_cur_of (i := (42, 1, .iaload, (0, 0, 0), 0)) (by decide +kernel)) (by decide +kernel) rfl rfl hc_z
      obtain ⟨p168_z, hc_z⟩ := hc_z
      replace hc_z := rn_goto (am_cur_of (i := (43, 3, .goto 4, (23, 0, 0), 0)) (by decide +kernel)) hc_z
      replace hc_z := rn_istore (am_cur_of (i := (47, 2, .istore 4, (0, 0, 0), 0)) (by decide +kernel)) hc_z
      obtain ⟨_, s169_z, s170_z, g4_z, hc_z⟩ := hc_z
      replace g0_z := s169_z 0 _ (by decide) rfl g0_z
      replace g1_z := s169_z 1 _ (by decide) rfl g1_z
      replace g2_z := s169_z 2 _ (by decide) rfl g2_z
      replace g3_z := s169_z 3 _ (by decide) rfl g3_z
      clear s169_z s170_z
      replace hc_z := rn_iconst (w := 0) (am_cur_of (i := (49, 1, .iconst 0, (0, 0, 0), 0)) (by decide +kernel)) (by decide) hc_z
      replace hc_z := rn_istore (am_cur_of (i := (50, 2, .istore 5, (0, 0, 0), 0)) (by decide +kernel)) hc_z
      obtain ⟨_, s171_z, s172_z, g5_z, hc_z⟩ := hc_z
      replace g0_z := s171_z 0 _ (by decide) rfl g0_z
      replace g1_z := s171_z 1 _ (by decide) rfl g1_z
      replace g2_z := s171_z 2 _ (by decide) rfl g2_z
      replace g3_z := s171_z 3 _ (by decide) rfl g3_z
      replace g4_z := s171_z 4 _ (by decide) rfl g4_z
      clear s171_z s172_z
      have em : (rg_v h 28 real.toNatClampNeg : Int32) = leZ real pt (fun q => rg_v h 28 q) := by
        unfold leZ
        rw [if_neg (by omega), if_neg (by omega)]
      rw [em] at g4_z
      exact gf_l148_23_0 hL H0 H9 p0_z p9_z l0_z l9_z _ m.toInt.toNat 0 F S le _ _ D hC el eF eS eH eU ePu ePf eLe F0 F9 S0 (by omega) g0_z g1_z g2_z g4_z g5_z (by rw [z0_z]; omega) hc_z
theorem gf_l148_23_1 {r : Option Value} {h0_z g h' : am_H} {m mo lim Hd U pu pf : Int32} (hL : LW 23 h0_z g) (H0 : 0 ≤ Hd.toInt) (H9 : Hd.toInt ≤ 9999) (p0_z : 0 ≤ pf.toInt) (p9_z : pf.toInt ≤ 9999) (m0_z : 0 ≤ mo.toInt) (m9_z : mo.toInt ≤ 999) : ∀ (f k : Nat) (i F S le : Int32) (ls : am_L) (h : am_H), h 148 0 = .ref 23 → (∀ o q, 23 + 10 ≤ o → o ≤ 23 + 14 → rg_v h o q = rg_v h0_z o q) → rg_v h 148 5 = lim → rg_v h 149 0 = F → rg_v h 149 1 = S → rg_v h 23 0 = Hd → rg_v h 148 3 = U → rg_v h 148 4 = pu → rg_v h 23 7 = pf → rg_v h 148 6 = le → 0 ≤ F.toInt → F.toInt ≤ 99999 → 0 ≤ S.toInt → S.toInt + k < 2147483647 → am_get ls 0 = some (.ref 148) → am_get ls 1 = some (.int m) → am_get ls 2 = some (.int 1) → am_get ls 4 = some (.int mo) → am_get ls 5 = some (.int i) → i.toInt + k = m.toInt → rn f am_m75 26 ls [] h r h' → ∃ (j : Nat) (F2 le2_z : Int32), j ≤ k ∧ ((j = k ∧ r = some (.int 1)) ∨ (j < k ∧ r = some (.int 0) ∧ lim.toInt ≤ S.toInt + j)) ∧ (∀ i, i < j → S.toInt + (i : Int) < lim.toInt) ∧ gR (secZ 23 h0_z U Hd pu pf mo 1) j F S F2 ∧ gL (secZ 23 h0_z U Hd pu pf mo 1) j F S le le2_z ∧ rg_v h' 149 0 = F2 ∧ (rg_v h' 149 1).toInt = S.toInt + j ∧ rg_v h' 148 6 = le2_z ∧ gF 148 23 h h' := by
  intro f
  induction f with
  | zero => intro k i F S le ls h D hC el eF eS eH eU ePu ePf eLe F0 F9 S0 S9 g0_z g1_z g2_z g4_z g5_z ik hc_z; exact absurd hc_z rn_0
  | succ f ih_z =>
    intro k i F S le ls h D hC el eF eS eH eU ePu ePf eLe F0 F9 S0 S9 g0_z g1_z g2_z g4_z g5_z ik hc_z
    have z0_z : (0 : Int32).toInt = 0 := by decide
    have z1_z : (1 : Int32).toInt = 1 := by decide
    have z20_z : (20 : Int32).toInt = 20 := by decide
    have z999_z : (999 : Int32).toInt = 999 := by decide
    replace hc_z := rn_iload (am_cur_of (i := (52, 2, .iload 5, (0, 0, 0), 0)) (by decide +kernel)) g5_z hc_z
    replace hc_z := rn_iload_n (am_cur_of (i := (54, 1, .iload_n 1, (0, 0, 0), 0)) (by decide +kernel)) g1_z hc_z
    replace hc_z := rn_cmp (am_cur_of (i := (55, 3, .if_icmp .ge 167, (108, 0, 0), 0)) (by decide +kernel)) hc_z
    rcases hc_z with ⟨b173_z, hc_z⟩ | ⟨b173_z, hc_z⟩
    · replace b173_z : m.toInt ≤ i.toInt := b173_z
      obtain rfl : k = 0 := by omega
      replace hc_z := rn_iconst (w := 1) (am_cur_of (i := (222, 1, .iconst 1, (0, 0, 0), 0)) (by decide +kernel)) (by decide) hc_z
      replace hc_z := rn_iret (am_cur_of (i := (223, 1, .ireturn, (0, 0, 0), 0)) (by decide +kernel)) hc_z
      obtain ⟨e174_z, e175_z⟩ := hc_z
      exact ⟨0, F, le, Nat.le_refl 0, Or.inl ⟨rfl, e174_z⟩, fun i hi_z => absurd hi_z (by omega), rfl, rfl, by rw [e175_z]; exact eF, by rw [e175_z, eS]; omega, by rw [e175_z]; exact eLe, by rw [e175_z]; exact gF_r⟩
    · replace b173_z : i.toInt < m.toInt := b173_z
      obtain ⟨k, rfl⟩ : ∃ k2_z, k = k2_z + 1 := ⟨k - 1, by omega⟩
      have ci_z := fk_c1 b173_z
      have cs := ab_iadd (x := S) (y := 1) (by omega) (by omega)
      replace hc_z := rn_aload_n (am_cur_of (i := (58, 1, .aload_n 0, (0, 0, 0), 0)) (by decide +kernel)) g0_z hc_z
      replace hc_z := rn_getR (x := 149) (am_cur_of (i := (59, 3, .getfield 12, (8, 1, 569), 0)) (by decide +kernel)) (by decide +kernel) hc_z
      replace hc_z := rn_getI (v := S) (am_cur_of (i := (62, 3, .getfield 59, (5, 1, 470), 0)) (by decide +kernel)) (by decide +kernel) eS hc_z
      replace hc_z := rn_aload_n (am_cur_of (i := (65, 1, .aload_n 0, (0, 0, 0), 0)) (by decide +kernel)) g0_z hc_z
      replace hc_z := rn_getI (v := lim) (am_cur_of (i := (66, 3, .getfield 43, (8, 5, 580), 0)) (by decide +kernel)) (by decide +kernel) el hc_z
      replace hc_z := rn_cmp (am_cur_of (i := (69, 3, .if_icmp .lt 5, (37, 0, 0), 0)) (by decide +kernel)) hc_z
      rcases hc_z with ⟨b176_z, hc_z⟩ | ⟨b176_z, hc_z⟩
      · replace b176_z : S.toInt < lim.toInt := b176_z
        replace hc_z := rn_aload_n (am_cur_of (i := (74, 1, .aload_n 0, (0, 0, 0), 0)) (by decide +kernel)) g0_z hc_z
        replace hc_z := rn_getR (x := 149) (am_cur_of (i := (75, 3, .getfield 12, (8, 1, 569), 0)) (by decide +kernel)) (by decide +kernel) hc_z
        replace hc_z := rn_getI (v := F) (am_cur_of (i := (78, 3, .getfield 49, (5, 0, 463), 0)) (by decide +kernel)) (by decide +kernel) eF hc_z
        replace hc_z := rn_bipush (w := 100) (am_cur_of (i := (81, 2, .bipush 100, (0, 0, 0), 0)) (by decide +kernel)) (by decide) hc_z
        replace hc_z := rn_idiv (w := F / 100) (am_cur_of (i := (83, 1, .idiv, (0, 0, 0), 0)) (by decide +kernel)) rfl hc_z
        obtain ⟨d177_z, hc_z⟩ := hc_z
        replace hc_z := rn_iload_n (am_cur_of (i := (84, 1, .iload_n 2, (0, 0, 0), 0)) (by decide +kernel)) g2_z hc_z
        replace hc_z := rn_ifF (am_cur_of (i := (85, 3, .ifCond .eq 8, (46, 0, 0), 0)) (by decide +kernel)) (by decide) hc_z
        replace hc_z := rn_bipush (w := 20) (am_cur_of (i := (88, 2, .bipush 20, (0, 0, 0), 0)) (by decide +kernel)) (by decide) hc_z
        replace hc_z := rn_goto (am_cur_of (i := (90, 3, .goto 4, (47, 0, 0), 0)) (by decide +kernel)) hc_z
        replace hc_z := rn_iadd (w := (F / 100) + 20) (am_cur_of (i := (94, 1, .iadd, (0, 0, 0), 0)) (by decide +kernel)) rfl hc_z
        replace hc_z := rn_istore (am_cur_of (i := (95, 2, .istore 6, (0, 0, 0), 0)) (by decide +kernel)) hc_z
        obtain ⟨_, s178_z, s179_z, g6_z, hc_z⟩ := hc_z
        replace g0_z := s178_z 0 _ (by decide) rfl g0_z
        replace g1_z := s178_z 1 _ (by decide) rfl g1_z
        replace g2_z := s178_z 2 _ (by decide) rfl g2_z
        replace g4_z := s178_z 4 _ (by decide) rfl g4_z
        replace g5_z := s178_z 5 _ (by decide) rfl g5_z
        clear s178_z s179_z
        replace hc_z := rn_aload_n (am_cur_of (i := (97, 1, .aload_n 0, (0, 0, 0), 0)) (by decide +kernel)) g0_z hc_z
        replace hc_z := rn_iconst (w := 0) (am_cur_of (i := (98, 1, .iconst 0, (0, 0, 0), 0)) (by decide +kernel)) (by decide) hc_z
        replace hc_z := rn_iload_n (am_cur_of (i := (99, 1, .iload_n 2, (0, 0, 0), 0)) (by decide +kernel)) g2_z hc_z
        replace hc_z := rn_ifF (am_cur_of (i := (100, 3, .ifCond .eq 7, (55, 0, 0), 0)) (by decide +kernel)) (by decide) hc_z
        replace hc_z := rn_iconst (w := 1) (am_cur_of (i := (103, 1, .iconst 1, (0, 0, 0), 0)) (by decide +kernel)) (by decide) hc_z
        replace hc_z := rn_goto (am_cur_of (i := (104, 3, .goto 4, (56, 0, 0), 0)) (by decide +kernel)) hc_z
        replace hc_z := rn_iconst (w := 0) (am_cur_of (i := (108, 1, .iconst 0, (0, 0, 0), 0)) (by decide +kernel)) (by decide) hc_z
        replace hc_z := rn_callV (M' := am_m65) (o := 148) (ar := [.int 0, .int 1, .int 0]) (rest := []) (L := lv_args 0 [.ref 148, .int 0, .int 1, .int 0]) (am_cur_of (i := (109, 3, .invokevirtual 94, (65, 973, 3), 0)) (by decide +kernel)) rfl rfl rfl rfl hc_z
        obtain ⟨r180_z, h181_z, q182_z, hc_z⟩ := hc_z
        obtain ⟨wx, rr, -, x2_z, fx⟩ := wo_65_148_23 D (LW_e hC (fun _ _ _ => rfl) hL) eF eS eH eU (by decide) q182_z
        subst rr
        have x3_z := x2_z (by decide)
        rw [show (0 : Int32).toNatClampNeg = 0 by decide, ldX_c hC, lawX_c hC] at x3_z
        have el1_z : rg_v h181_z 148 5 = lim := (lw_v (fx 148 5 (by decide) (by decide))).trans el
        have eF1 : rg_v h181_z 149 0 = F := (lw_v (fx 149 0 (by decide) (by decide))).trans eF
        have eS1 : rg_v h181_z 149 1 = S := (lw_v (fx 149 1 (by decide) (by decide))).trans eS
        have eH1 : rg_v h181_z 23 0 = Hd := (lw_v (fx 23 0 (by decide) (by decide))).trans eH
        have ePu1 : rg_v h181_z 148 4 = pu := (lw_v (fx 148 4 (by decide) (by decide))).trans ePu
        have ePf1 : rg_v h181_z 23 7 = pf := (lw_v (fx 23 7 (by decide) (by decide))).trans ePf
        have eLe1 : rg_v h181_z 148 6 = le := (lw_v (fx 148 6 (by decide) (by decide))).trans eLe
        have D1 : h181_z 148 0 = .ref 23 := (fx 148 0 (by decide) (by decide)).trans D
        replace hc_z : rn _ _ _ _ [.long wx] _ _ _ := hc_z
        replace hc_z := rn_sipush (w := 999) (am_cur_of (i := (112, 3, .sipush 999, (0, 0, 0), 0)) (by decide +kernel)) (by decide) hc_z
        replace hc_z := rn_iload (am_cur_of (i := (115, 2, .iload 6, (0, 0, 0), 0)) (by decide +kernel)) g6_z hc_z
        replace hc_z := rn_callS (M' := am_m68) (ar := [.int ((F / 100) + 20), .int 999, .long wx]) (rest := []) (L := lv_args 0 [.long wx, .int 999, .int ((F / 100) + 20)]) (am_cur_of (i := (117, 3, .invokestatic 80, (68, 935, 3), 0)) (by decide +kernel)) rfl rfl rfl rfl hc_z
        obtain ⟨r183_z, h184_z, q185_z, hc_z⟩ := hc_z
        have dv := dv_100 (F := F) (by omega)
        have dw := ab_iadd (x := F / 100) (y := 20) (by omega) (by omega)
        obtain ⟨xl, rr, hh, xe⟩ := wi_68 x3_z (fun z e => lawX_b (hL 0 (by decide)) (fun q _ => eC_b q) e) (by decide) q185_z
        replace hh := hh.symm
        subst rr
        subst hh
        have eWo : (F / 100 + 20).toInt = F.toInt / 100 + 20 * (1 : Int32).toInt := by
          have y1_z : (1 : Int32).toInt = 1 := by decide
          have y0_z : (0 : Int32).toInt = 0 := by decide
          omega
        rw [eWo, show (999 : Int32).toInt = 999 by decide] at xe
        have bw := bnd_w (q := lawX 23 h0_z 0 (eC (ldX 23 h0_z U F (Hd - F) 1 S) F (Hd - F) 1 S 0)) (wo := F.toInt / 100 + 20 * (1 : Int32).toInt) (mo := 999) (by omega) (by decide)
        rw [← xe] at bw
        have c1_z := ab_iadd (x := xl) (y := mo) (by omega) (by omega)
        have c2_z := ab_isub (x := F) (y := xl + mo) (by omega) (by omega)
        replace hc_z : rn _ _ _ _ [.int xl] _ _ _ := hc_z
        replace hc_z := rn_iload (am_cur_of (i := (120, 2, .iload 4, (0, 0, 0), 0)) (by decide +kernel)) g4_z hc_z
        replace hc_z := rn_iadd (w := xl + mo) (am_cur_of (i := (122, 1, .iadd, (0, 0, 0), 0)) (by decide +kernel)) rfl hc_z
        replace hc_z := rn_istore (am_cur_of (i := (123, 2, .istore 7, (0, 0, 0), 0)) (by decide +kernel)) hc_z
        obtain ⟨_, s186_z, s187_z, g7_z, hc_z⟩ := hc_z
        replace g0_z := s186_z 0 _ (by decide) rfl g0_z
        replace g1_z := s186_z 1 _ (by decide) rfl g1_z
        replace g2_z := s186_z 2 _ (by decide) rfl g2_z
        replace g4_z := s186_z 4 _ (by decide) rfl g4_z
        replace g5_z := s186_z 5 _ (by decide) rfl g5_z
        replace g6_z := s186_z 6 _ (by decide) rfl g6_z
        clear s186_z s187_z
        replace hc_z := rn_aload_n (am_cur_of (i := (125, 1, .aload_n 0, (0, 0, 0), 0)) (by decide +kernel)) g0_z hc_z
        replace hc_z := rn_getR (x := 149) (am_cur_of (i := (126, 3, .getfield 12, (8, 1, 569), 0)) (by decide +kernel)) (by decide +kernel) hc_z
        replace hc_z := rn_aload_n (am_cur_of (i := (129, 1, .aload_n 0, (0, 0, 0), 0)) (by decide +kernel)) g0_z hc_z
        replace hc_z := rn_getR (x := 149) (am_cur_of (i := (130, 3, .getfield 12, (8, 1, 569), 0)) (by decide +kernel)) (by decide +kernel) hc_z
        replace hc_z := rn_getI (v := F) (am_cur_of (i := (133, 3, .getfield 49, (5, 0, 463), 0)) (by decide +kernel)) (by decide +kernel) eF1 hc_z
        replace hc_z := rn_iload (am_cur_of (i := (136, 2, .iload 7, (0, 0, 0), 0)) (by decide +kernel)) g7_z hc_z
        replace hc_z := rn_isub (w := F - (xl + mo)) (am_cur_of (i := (138, 1, .isub, (0, 0, 0), 0)) (by decide +kernel)) rfl hc_z
        replace hc_z := rn_iconst (w := 0) (am_cur_of (i := (139, 1, .iconst 0, (0, 0, 0), 0)) (by decide +kernel)) (by decide) hc_z
        obtain ⟨m188_z, e189_z⟩ : ∃ mq : Int32, (if F - (xl + mo) < 0 then 0 else F - (xl + mo)) = mq := ⟨_, rfl⟩
        replace hc_z := rn_max (w := m188_z) (am_cur_of (i := (140, 3, .invokestatic 98, (0, 974, 1), 0)) (by decide +kernel)) e189_z hc_z
        replace e189_z := mx_0 e189_z
        have c3_z := ab_iadd (x := m188_z) (y := pf) (by omega) (by omega)
        replace hc_z := rn_put (am_cur_of (i := (143, 3, .putfield 49, (5, 0, 463), 0)) (by decide +kernel)) (by decide +kernel) hc_z
        replace hc_z := rn_aload_n (am_cur_of (i := (146, 1, .aload_n 0, (0, 0, 0), 0)) (by decide +kernel)) g0_z hc_z
        replace hc_z := rn_getI (v := pu) (am_cur_of (i := (147, 3, .getfield 37, (8, 4, 577), 0)) (by decide +kernel)) (by decide +kernel) ((rg_v_other (by omega)).trans (ePu1)) hc_z
        replace hc_z := rn_if (am_cur_of (i := (150, 3, .ifCond .eq 35, (91, 0, 0), 0)) (by decide +kernel)) hc_z
        rcases hc_z with ⟨b190_z, hc_z⟩ | ⟨b190_z, hc_z⟩
        · replace b190_z : pu = (0 : Int32) ∧ pu.toInt = (0 : Int32).toInt := b190_z
          replace hc_z := rn_aload_n (am_cur_of (i := (185, 1, .aload_n 0, (0, 0, 0), 0)) (by decide +kernel)) g0_z hc_z
          replace hc_z := rn_getR (x := 149) (am_cur_of (i := (186, 3, .getfield 12, (8, 1, 569), 0)) (by decide +kernel)) (by decide +kernel) hc_z
          replace hc_z := rn_dup (am_cur_of (i := (189, 1, .dup, (0, 0, 0), 0)) (by decide +kernel)) hc_z
          replace hc_z := rn_getI (v := S) (am_cur_of (i := (190, 3, .getfield 59, (5, 1, 470), 0)) (by decide +kernel)) (by decide +kernel) ((rg_v_other (by omega)).trans (eS1)) hc_z
          replace hc_z := rn_iconst (w := 1) (am_cur_of (i := (193, 1, .iconst 1, (0, 0, 0), 0)) (by decide +kernel)) (by decide) hc_z
          replace hc_z := rn_iadd (w := S + 1) (am_cur_of (i := (194, 1, .iadd, (0, 0, 0), 0)) (by decide +kernel)) rfl hc_z
          replace hc_z := rn_put (am_cur_of (i := (195, 3, .putfield 59, (5, 1, 470), 0)) (by decide +kernel)) (by decide +kernel) hc_z
          replace hc_z := rn_aload_n (am_cur_of (i := (198, 1, .aload_n 0, (0, 0, 0), 0)) (by decide +kernel)) g0_z hc_z
          replace hc_z := rn_aload_n (am_cur_of (i := (199, 1, .aload_n 0, (0, 0, 0), 0)) (by decide +kernel)) g0_z hc_z
          replace hc_z := rn_getI (v := le) (am_cur_of (i := (200, 3, .getfield 46, (8, 6, 581), 0)) (by decide +kernel)) (by decide +kernel) ((rg_v_other (by omega)).trans ((rg_v_other (by omega)).trans (eLe1))) hc_z
          replace hc_z := rn_aload_n (am_cur_of (i := (203, 1, .aload_n 0, (0, 0, 0), 0)) (by decide +kernel)) g0_z hc_z
          replace hc_z := rn_getR (x := 149) (am_cur_of (i := (204, 3, .getfield 12, (8, 1, 569), 0)) (by decide +kernel)) (by decide +kernel) hc_z
          replace hc_z := rn_getI (v := m188_z) (am_cur_of (i := (207, 3, .getfield 49, (5, 0, 463), 0)) (by decide +kernel)) (by decide +kernel) ((rg_v_other (by omega)).trans (rg_v_self)) hc_z
          obtain ⟨m191_z, e192_z⟩ : ∃ mq : Int32, (if m188_z < le then m188_z else le) = mq := ⟨_, rfl⟩
          replace hc_z := rn_min (w := m191_z) (am_cur_of (i := (210, 3, .invokestatic 107, (0, 975, 2), 0)) (by decide +kernel)) e192_z hc_z
          replace e192_z := mn_2 e192_z
          replace hc_z := rn_put (am_cur_of (i := (213, 3, .putfield 46, (8, 6, 581), 0)) (by decide +kernel)) (by decide +kernel) hc_z
          replace hc_z := rn_iinc (w := i + 1) (am_cur_of (i := (216, 3, .iinc 5 1, (0, 0, 0), 0)) (by decide +kernel)) g5_z rfl hc_z
          obtain ⟨_, s193_z, s194_z, g5_z, hc_z⟩ := hc_z
          replace g0_z := s193_z 0 _ (by decide) rfl g0_z
          replace g1_z := s193_z 1 _ (by decide) rfl g1_z
          replace g2_z := s193_z 2 _ (by decide) rfl g2_z
          replace g4_z := s193_z 4 _ (by decide) rfl g4_z
          replace g6_z := s193_z 6 _ (by decide) rfl g6_z
          replace g7_z := s193_z 7 _ (by decide) rfl g7_z
          clear s193_z s194_z
          replace hc_z := rn_gotoL (am_cur_of (i := (219, 3, .goto (-167), (26, 0, 0), 0)) (by decide +kernel)) hc_z
          have eZ : m188_z.toInt = secZ 23 h0_z U Hd pu pf mo 1 F S := by
            unfold secZ
            rw [if_pos b190_z.1, ← xe]
            omega
          have gg : gF 148 23 h (am_up (am_up (am_up h181_z 149 0 (.int m188_z)) 149 1 (.int (S + 1))) 148 6 (.int m191_z)) := fun o k a_ b_ c_ d_ => (up_ne (by omega)).trans ((up_ne (by omega)).trans ((up_ne (by omega)).trans (fx o k a_ b_)))
          obtain ⟨j, F2, le2_z, j1_z, j2_z, j3_z, j4_z, j5_z, j6_z, j7_z, j8_z, j9_z⟩ := ih_z k (i + 1) m188_z (S + 1) m191_z _ _ ((gg 148 0 (by decide) (by decide) (by decide) (by decide)).trans D) (fun o q a_ b_ => (lw_v (gg o q (by omega) (by omega) (by omega) (by omega))).trans (hC o q a_ b_)) (((rg_v_other (by omega)).trans ((rg_v_other (by omega)).trans ((rg_v_other (by omega)).trans (el1_z))))) (((rg_v_other (by omega)).trans ((rg_v_other (by omega)).trans (rg_v_self)))) (((rg_v_other (by omega)).trans (rg_v_self))) (((rg_v_other (by omega)).trans ((rg_v_other (by omega)).trans ((rg_v_other (by omega)).trans (eH1))))) ((lw_v (gg 148 3 (by decide) (by decide) (by decide) (by decide))).trans eU) (((rg_v_other (by omega)).trans ((rg_v_other (by omega)).trans ((rg_v_other (by omega)).trans (ePu1))))) (((rg_v_other (by omega)).trans ((rg_v_other (by omega)).trans ((rg_v_other (by omega)).trans (ePf1))))) (rg_v_self) (by omega) (by omega) (by omega) (by omega) g0_z g1_z g2_z g4_z g5_z (by omega) hc_z
          refine ⟨j + 1, F2, le2_z, by omega, ?_, fun i hi_z => ?_, ⟨m188_z, eZ, j4_z⟩, ⟨m188_z, m191_z, eZ, e192_z, j5_z⟩, j6_z, by omega, j8_z, gF_t gg j9_z⟩
          · rcases j2_z with ⟨a, b⟩ | ⟨a, b, d⟩
            · exact Or.inl ⟨by omega, b⟩
            · exact Or.inr ⟨by omega, b, by omega⟩
          · by_cases z : i = 0
            · omega
            · have := j3_z (i - 1) (by omega)
              omega
        · replace b190_z : ¬ pu = (0 : Int32) ∧ ¬ pu.toInt = (0 : Int32).toInt := b190_z
          replace hc_z := rn_aload_n (am_cur_of (i := (153, 1, .aload_n 0, (0, 0, 0), 0)) (by decide +kernel)) g0_z hc_z
          replace hc_z := rn_getR (x := 149) (am_cur_of (i := (154, 3, .getfield 12, (8, 1, 569), 0)) (by decide +kernel)) (by decide +kernel) hc_z
          replace hc_z := rn_aload_n (am_cur_of (i := (157, 1, .aload_n 0, (0, 0, 0), 0)) (by decide +kernel)) g0_z hc_z
          replace hc_z := rn_getR (x := 149) (am_cur_of (i := (158, 3, .getfield 12, (8, 1, 569), 0)) (by decide +kernel)) (by decide +kernel) hc_z
          replace hc_z := rn_getI (v := m188_z) (am_cur_of (i := (161, 3, .getfield 49, (5, 0, 463), 0)) (by decide +kernel)) (by decide +kernel) rg_v_self hc_z
          replace hc_z := rn_aload_n (am_cur_of (i := (164, 1, .aload_n 0, (0, 0, 0), 0)) (by decide +kernel)) g0_z hc_z
          replace hc_z := rn_getM (x := 23) (am_cur_of (i := (165, 3, .getfield 18, (8, 0, 566), 0)) (by decide +kernel)) (show (am_up h181_z 149 0 (.int m188_z)) 148 0 = .ref 23 from D1) hc_z
          replace hc_z := rn_getI (v := pf) (am_cur_of (i := (168, 3, .getfield 104, (1, 7, 277), 0)) (by decide +kernel)) (by decide +kernel) ((rg_v_other (by omega)).trans (ePf1)) hc_z
          replace hc_z := rn_iadd (w := m188_z + pf) (am_cur_of (i := (171, 1, .iadd, (0, 0, 0), 0)) (by decide +kernel)) rfl hc_z
          replace hc_z := rn_aload_n (am_cur_of (i := (172, 1, .aload_n 0, (0, 0, 0), 0)) (by decide +kernel)) g0_z hc_z
          replace hc_z := rn_getM (x := 23) (am_cur_of (i := (173, 3, .getfield 18, (8, 0, 566), 0)) (by decide +kernel)) (show (am_up h181_z 149 0 (.int m188_z)) 148 0 = .ref 23 from D1) hc_z
          replace hc_z := rn_getI (v := Hd) (am_cur_of (i := (176, 3, .getfield 52, (1, 0, 249), 0)) (by decide +kernel)) (by decide +kernel) ((rg_v_other (by omega)).trans (eH1)) hc_z
          obtain ⟨m195_z, e196_z⟩ : ∃ mq : Int32, (if Hd < m188_z + pf then Hd else m188_z + pf) = mq := ⟨_, rfl⟩
          replace hc_z := rn_min (w := m195_z) (am_cur_of (i := (179, 3, .invokestatic 107, (0, 975, 2), 0)) (by decide +kernel)) e196_z hc_z
          replace e196_z := mn_2 e196_z
          replace hc_z := rn_put (am_cur_of (i := (182, 3, .putfield 49, (5, 0, 463), 0)) (by decide +kernel)) (by decide +kernel) hc_z
          replace hc_z := rn_aload_n (am_cur_of (i := (185, 1, .aload_n 0, (0, 0, 0), 0)) (by decide +kernel)) g0_z hc_z
          replace hc_z := rn_getR (x := 149) (am_cur_of (i := (186, 3, .getfield 12, (8, 1, 569), 0)) (by decide +kernel)) (by decide +kernel) hc_z
          replace hc_z := rn_dup (am_cur_of (i := (189, 1, .dup, (0, 0, 0), 0)) (by decide +kernel)) hc_z
          replace hc_z := rn_getI (v := S) (am_cur_of (i := (190, 3, .getfield 59, (5, 1, 470), 0)) (by decide +kernel)) (by decide +kernel) ((rg_v_other (by omega)).trans ((rg_v_other (by omega)).trans (eS1))) hc_z
          replace hc_z := rn_iconst (w := 1) (am_cur_of (i := (193, 1, .iconst 1, (0, 0, 0), 0)) (by decide +kernel)) (by decide) hc_z
          replace hc_z := rn_iadd (w := S + 1) (am_cur_of (i := (194, 1, .iadd, (0, 0, 0), 0)) (by decide +kernel)) rfl hc_z
          replace hc_z := rn_put (am_cur_of (i := (195, 3, .putfield 59, (5, 1, 470), 0)) (by decide +kernel)) (by decide +kernel) hc_z
          replace hc_z := rn_aload_n (am_cur_of (i := (198, 1, .aload_n 0, (0, 0, 0), 0)) (by decide +kernel)) g0_z hc_z
          replace hc_z := rn_aload_n (am_cur_of (i := (199, 1, .aload_n 0, (0, 0, 0), 0)) (by decide +kernel)) g0_z hc_z
          replace hc_z := rn_getI (v := le) (am_cur_of (i := (200, 3, .getfield 46, (8, 6, 581), 0)) (by decide +kernel)) (by decide +kernel) ((rg_v_other (by omega)).trans ((rg_v_other (by omega)).trans ((rg_v_other (by omega)).trans (eLe1)))) hc_z
          replace hc_z := rn_aload_n (am_cur_of (i := (203, 1, .aload_n 0, (0, 0, 0), 0)) (by decide +kernel)) g0_z hc_z
          replace hc_z := rn_getR (x := 149) (am_cur_of (i := (204, 3, .getfield 12, (8, 1, 569), 0)) (by decide +kernel)) (by decide +kernel) hc_z
          replace hc_z := rn_getI (v := m195_z) (am_cur_of (i := (207, 3, .getfield 49, (5, 0, 463), 0)) (by decide +kernel)) (by decide +kernel) ((rg_v_other (by omega)).trans (rg_v_self)) hc_z
          obtain ⟨m197_z, e198_z⟩ : ∃ mq : Int32, (if m195_z < le then m195_z else le) = mq := ⟨_, rfl⟩
          replace hc_z := rn_min (w := m197_z) (am_cur_of (i := (210, 3, .invokestatic 107, (0, 975, 2), 0)) (by decide +kernel)) e198_z hc_z
          replace e198_z := mn_2 e198_z
          replace hc_z := rn_put (am_cur_of (i := (213, 3, .putfield 46, (8, 6, 581), 0)) (by decide +kernel)) (by decide +kernel) hc_z
          replace hc_z := rn_iinc (w := i + 1) (am_cur_of (i := (216, 3, .iinc 5 1, (0, 0, 0), 0)) (by decide +kernel)) g5_z rfl hc_z
          obtain ⟨_, s199_z, s200_z, g5_z, hc_z⟩ := hc_z
          replace g0_z := s199_z 0 _ (by decide) rfl g0_z
          replace g1_z := s199_z 1 _ (by decide) rfl g1_z
          replace g2_z := s199_z 2 _ (by decide) rfl g2_z
          replace g4_z := s199_z 4 _ (by decide) rfl g4_z
          replace g6_z := s199_z 6 _ (by decide) rfl g6_z
          replace g7_z := s199_z 7 _ (by decide) rfl g7_z
          clear s199_z s200_z
          replace hc_z := rn_gotoL (am_cur_of (i := (219, 3, .goto (-167), (26, 0, 0), 0)) (by decide +kernel)) hc_z
          have eZ : m195_z.toInt = secZ 23 h0_z U Hd pu pf mo 1 F S := by
            unfold secZ
            rw [if_neg b190_z.1, ← xe]
            omega
          have gg : gF 148 23 h (am_up (am_up (am_up (am_up h181_z 149 0 (.int m188_z)) 149 0 (.int m195_z)) 149 1 (.int (S + 1))) 148 6 (.int m197_z)) := fun o k a_ b_ c_ d_ => (up_ne (by omega)).trans ((up_ne (by omega)).trans ((up_ne (by omega)).trans ((up_ne (by omega)).trans (fx o k a_ b_))))
          obtain ⟨j, F2, le2_z, j1_z, j2_z, j3_z, j4_z, j5_z, j6_z, j7_z, j8_z, j9_z⟩ := ih_z k (i + 1) m195_z (S + 1) m197_z _ _ ((gg 148 0 (by decide) (by decide) (by decide) (by decide)).trans D) (fun o q a_ b_ => (lw_v (gg o q (by omega) (by omega) (by omega) (by omega))).trans (hC o q a_ b_)) (((rg_v_other (by omega)).trans ((rg_v_other (by omega)).trans ((rg_v_other (by omega)).trans ((rg_v_other (by omega)).trans (el1_z)))))) (((rg_v_other (by omega)).trans ((rg_v_other (by omega)).trans (rg_v_self)))) (((rg_v_other (by omega)).trans (rg_v_self))) (((rg_v_other (by omega)).trans ((rg_v_other (by omega)).trans ((rg_v_other (by omega)).trans ((rg_v_other (by omega)).trans (eH1)))))) ((lw_v (gg 148 3 (by decide) (by decide) (by decide) (by decide))).trans eU) (((rg_v_other (by omega)).trans ((rg_v_other (by omega)).trans ((rg_v_other (by omega)).trans ((rg_v_other (by omega)).trans (ePu1)))))) (((rg_v_other (by omega)).trans ((rg_v_other (by omega)).trans ((rg_v_other (by omega)).trans ((rg_v_other (by omega)).trans (ePf1)))))) (rg_v_self) (by omega) (by omega) (by omega) (by omega) g0_z g1_z g2_z g4_z g5_z (by omega) hc_z
          refine ⟨j + 1, F2, le2_z, by omega, ?_, fun i hi_z => ?_, ⟨m195_z, eZ, j4_z⟩, ⟨m195_z, m197_z, eZ, e198_z, j5_z⟩, j6_z, by omega, j8_z, gF_t gg j9_z⟩
          · rcases j2_z with ⟨a, b⟩ | ⟨a, b, d⟩
            · exact Or.inl ⟨by omega, b⟩
            · exact Or.inr ⟨by omega, b, by omega⟩
          · by_cases z : i = 0
            · omega
            · have := j3_z (i - 1) (by omega)
              omega
      · replace b176_z : lim.toInt ≤ S.toInt := b176_z
        replace hc_z := rn_iconst (w := 0) (am_cur_of (i := (72, 1, .iconst 0, (0, 0, 0), 0)) (by decide +kernel)) (by decide) hc_z
        replace hc_z := rn_iret (am_cur_of (i := (73, 1, .ireturn, (0, 0, 0), 0)) (by decide +kernel)) hc_z
        obtain ⟨e201_z, e202_z⟩ := hc_z
        exact ⟨0, F, le, by omega, Or.inr ⟨by omega, e201_z, by omega⟩, fun i hi_z => absurd hi_z (by omega), rfl, rfl, by rw [e202_z]; exact eF, by rw [e202_z, eS]; omega, by rw [e202_z]; exact eLe, by rw [e202_z]; exact gF_r⟩
theorem gf_75_148_23_1 {n : Nat} {r : Option Value} {h h0_z g h' : am_H} {m lim Hd U pu pf F S le real pt : Int32} (D : h 148 0 = .ref 23) (hL : LW 23 h0_z g) (hC : ∀ o q, 23 + 10 ≤ o → o ≤ 23 + 14 → rg_v h o q = rg_v h0_z o q) (el : rg_v h 148 5 = lim) (eF : rg_v h 149 0 = F) (eS : rg_v h 149 1 = S) (eH : rg_v h 23 0 = Hd) (eU : rg_v h 148 3 = U) (ePu : rg_v h 148 4 = pu) (ePf : rg_v h 23 7 = pf) (eLe : rg_v h 148 6 = le) (eR : rg_v h 148 2 = real) (ePt : rg_v h 149 4 = pt) (H0 : 0 ≤ Hd.toInt) (H9 : Hd.toInt ≤ 9999) (p0_z : 0 ≤ pf.toInt) (p9_z : pf.toInt ≤ 9999) (F0 : 0 ≤ F.toInt) (F9 : F.toInt ≤ 99999) (S0 : 0 ≤ S.toInt) (m0_z : 0 ≤ m.toInt) (S9 : S.toInt + m.toInt < 2147483647) (l0_z : 0 ≤ (leZ real pt (fun q => rg_v h 28 q)).toInt) (l9_z : (leZ real pt (fun q => rg_v h 28 q)).toInt ≤ 999) (hc_z : rn n am_m75 0 (lv_args 0 [.ref 148, .int m, .int 1]) [] h r h') : ∃ (j : Nat) (F2 le2_z : Int32), j ≤ m.toInt.toNat ∧ ((j = m.toInt.toNat ∧ r = some (.int 1)) ∨ (j < m.toInt.toNat ∧ r = some (.int 0) ∧ lim.toInt ≤ S.toInt + j)) ∧ (∀ i, i < j → S.toInt + (i : Int) < lim.toInt) ∧ gR (secZ 23 h0_z U Hd pu pf (leZ real pt (fun q => rg_v h 28 q)) 1) j F S F2 ∧ gL (secZ 23 h0_z U Hd pu pf (leZ real pt (fun q => rg_v h 28 q)) 1) j F S le le2_z ∧ rg_v h' 149 0 = F2 ∧ (rg_v h' 149 1).toInt = S.toInt + j ∧ rg_v h' 148 6 = le2_z ∧ gF 148 23 h h' := by
  have z0_z : (0 : Int32).toInt = 0 := by decide
  have g0_z : am_get (lv_args 0 [.ref 148, .int m, .int 1]) 0 = some (.ref 148) := rfl
  have g1_z : am_get (lv_args 0 [.ref 148, .int m, .int 1]) 1 = some (.int m) := rfl
  have g2_z : am_get (lv_args 0 [.ref 148, .int m, .int 1]) 2 = some (.int 1) := rfl
  replace hc_z := rn_aload_n (am_cur_of (i := (0, 1, .aload_n 0, (0, 0, 0), 0)) (by decide +kernel)) g0_z hc_z
  replace hc_z := rn_getI (v := real) (am_cur_of (i := (1, 3, .getfield 32, (8, 2, 573), 0)) (by decide +kernel)) (by decide +kernel) eR hc_z
  replace hc_z := rn_if (am_cur_of (i := (4, 3, .ifCond .lt 21, (11, 0, 0), 0)) (by decide +kernel)) hc_z
  rcases hc_z with ⟨b203_z, hc_z⟩ | ⟨b203_z, hc_z⟩
  · replace b203_z : real.toInt < (0 : Int32).toInt := b203_z
    replace hc_z := rn_iconst (w := 0) (am_cur_of (i := (25, 1, .iconst 0, (0, 0, 0), 0)) (by decide +kernel)) (by decide) hc_z
    replace hc_z := rn_istore_n (am_cur_of (i := (26, 1, .istore_n 3, (0, 0, 0), 0)) (by decide +kernel)) hc_z
    obtain ⟨_, s204_z, s205_z, g3_z, hc_z⟩ := hc_z
    replace g0_z := s204_z 0 _ (by decide) rfl g0_z
    replace g1_z := s204_z 1 _ (by decide) rfl g1_z
    replace g2_z := s204_z 2 _ (by decide) rfl g2_z
    clear s204_z s205_z
    replace hc_z := rn_iload_n (am_cur_of (i := (27, 1, .iload_n 3, (0, 0, 0), 0)) (by decide +kernel)) g3_z hc_z
    replace hc_z := rn_ifT (am_cur_of (i := (28, 3, .ifCond .eq 18, (22, 0, 0), 0)) (by decide +kernel)) (by decide) hc_z
    replace hc_z := rn_iconst (w := 0) (am_cur_of (i := (46, 1, .iconst 0, (0, 0, 0), 0)) (by decide +kernel)) (by decide) hc_z
    replace hc_z := rn_istore (am_cur_of (i := (47, 2, .istore 4, (0, 0, 0), 0)) (by decide +kernel)) hc_z
    obtain ⟨_, s206_z, s207_z, g4_z, hc_z⟩ := hc_z
    replace g0_z := s206_z 0 _ (by decide) rfl g0_z
    replace g1_z := s206_z 1 _ (by decide) rfl g1_z
    replace g2_z := s206_z 2 _ (by decide) rfl g2_z
    replace g3_z := s206_z 3 _ (by decide) rfl g3_z
    clear s206_z s207_z
    replace hc_z := rn_iconst (w := 0) (am_cur_of (i := (49, 1, .iconst 0, (0, 0, 0), 0)) (by decide +kernel)) (by decide) hc_z
    replace hc_z := rn_istore (am_cur_of (i := (50, 2, .istore 5, (0, 0, 0), 0)) (by decide +kernel)) hc_z
    obtain ⟨_, s208_z, s209_z, g5_z, hc_z⟩ := hc_z
    replace g0_z := s208_z 0 _ (by decide) rfl g0_z
    replace g1_z := s208_z 1 _ (by decide) rfl g1_z
    replace g2_z := s208_z 2 _ (by decide) rfl g2_z
    replace g3_z := s208_z 3 _ (by decide) rfl g3_z
    replace g4_z := s208_z 4 _ (by decide) rfl g4_z
    clear s208_z s209_z
    have em : (0 : Int32) = leZ real pt (fun q => rg_v h 28 q) := by
      unfold leZ
      rw [if_pos (by omega)]
    rw [em] at g4_z
    exact gf_l148_23_1 hL H0 H9 p0_z p9_z l0_z l9_z _ m.toInt.toNat 0 F S le _ _ D hC el eF eS eH eU ePu ePf eLe F0 F9 S0 (by omega) g0_z g1_z g2_z g4_z g5_z (by rw [z0_z]; omega) hc_z
  · replace b203_z : (0 : Int32).toInt ≤ real.toInt := b203_z
    replace hc_z := rn_aload_n (am_cur_of (i := (7, 1, .aload_n 0, (0, 0, 0), 0)) (by decide +kernel)) g0_z hc_z
    replace hc_z := rn_getR (x := 149) (am_cur_of (i := (8, 3, .getfield 12, (8, 1, 569), 0)) (by decide +kernel)) (by decide +kernel) hc_z
    replace hc_z := rn_aload_n (am_cur_of (i := (11, 1, .aload_n 0, (0, 0, 0), 0)) (by decide +kernel)) g0_z hc_z
    replace hc_z := rn_getI (v := real) (am_cur_of (i := (12, 3, .getfield 32, (8, 2, 573), 0)) (by decide +kernel)) (by decide +kernel) eR hc_z
    replace hc_z := rn_callV (M' := am_m76) (o := 149) (ar := [.int real]) (rest := []) (L := lv_args 0 [.ref 149, .int real]) (am_cur_of (i := (15, 3, .invokevirtual 86, (76, 969, 3), 0)) (by decide +kernel)) rfl rfl rfl rfl hc_z
    obtain ⟨r210_z, h211_z, q212_z, hc_z⟩ := hc_z
    obtain ⟨xp, rr, hh, xe⟩ := ip_76_149 ePt q212_z
    replace hh := hh.symm
    subst rr
    subst hh
    replace hc_z : rn _ _ _ _ [.int xp] _ _ _ := hc_z
    replace hc_z := rn_if (am_cur_of (i := (18, 3, .ifCond .ne 7, (11, 0, 0), 0)) (by decide +kernel)) hc_z
    rcases hc_z with ⟨b213_z, hc_z⟩ | ⟨b213_z, hc_z⟩
    · replace b213_z : ¬ xp = (0 : Int32) ∧ ¬ xp.toInt = (0 : Int32).toInt := b213_z
      replace hc_z := rn_iconst (w := 0) (am_cur_of (i := (25, 1, .iconst 0, (0, 0, 0), 0)) (by decide +kernel)) (by decide) hc_z
      replace hc_z := rn_istore_n (am_cur_of (i := (26, 1, .istore_n 3, (0, 0, 0), 0)) (by decide +kernel)) hc_z
      obtain ⟨_, s214_z, s215_z, g3_z, hc_z⟩ := hc_z
      replace g0_z := s214_z 0 _ (by decide) rfl g0_z
      replace g1_z := s214_z 1 _ (by decide) rfl g1_z
      replace g2_z := s214_z 2 _ (by decide) rfl g2_z
      clear s214_z s215_z
      replace hc_z := rn_iload_n (am_cur_of (i := (27, 1, .iload_n 3, (0, 0, 0), 0)) (by decide +kernel)) g3_z hc_z
      replace hc_z := rn_ifT (am_cur_of (i := (28, 3, .ifCond .eq 18, (22, 0, 0), 0)) (by decide +kernel)) (by decide) hc_z
      replace hc_z := rn_iconst (w := 0) (am_cur_of (i := (46, 1, .iconst 0, (0, 0, 0), 0)) (by decide +kernel)) (by decide) hc_z
      replace hc_z := rn_istore (am_cur_of (i := (47, 2, .istore 4, (0, 0, 0), 0)) (by decide +kernel)) hc_z
      obtain ⟨_, s216_z, s217_z, g4_z, hc_z⟩ := hc_z
      replace g0_z := s216_z 0 _ (by decide) rfl g0_z
      replace g1_z := s216_z 1 _ (by decide) rfl g1_z
      replace g2_z := s216_z 2 _ (by decide) rfl g2_z
      replace g3_z := s216_z 3 _ (by decide) rfl g3_z
      clear s216_z s217_z
      replace hc_z := rn_iconst (w := 0) (am_cur_of (i := (49, 1, .iconst 0, (0, 0, 0), 0)) (by decide +kernel)) (by decide) hc_z
      replace hc_z := rn_istore (am_cur_of (i := (50, 2, .istore 5, (0, 0, 0), 0)) (by decide +kernel)) hc_z
      obtain ⟨_, s218_z, s219_z, g5_z, hc_z⟩ := hc_z
      replace g0_z := s218_z 0 _ (by decide) rfl g0_z
      replace g1_z := s218_z 1 _ (by decide) rfl g1_z
      replace g2_z := s218_z 2 _ (by decide) rfl g2_z
      replace g3_z := s218_z 3 _ (by decide) rfl g3_z
      replace g4_z := s218_z 4 _ (by decide) rfl g4_z
      clear s218_z s219_z
      have em : (0 : Int32) = leZ real pt (fun q => rg_v h 28 q) := by
        unfold leZ
        rw [if_neg (by omega), if_pos (by omega)]
      rw [em] at g4_z
      exact gf_l148_23_1 hL H0 H9 p0_z p9_z l0_z l9_z _ m.toInt.toNat 0 F S le _ _ D hC el eF eS eH eU ePu ePf eLe F0 F9 S0 (by omega) g0_z g1_z g2_z g4_z g5_z (by rw [z0_z]; omega) hc_z
    · replace b213_z : xp = (0 : Int32) ∧ xp.toInt = (0 : Int32).toInt := b213_z
      replace hc_z := rn_iconst (w := 1) (am_cur_of (i := (21, 1, .iconst 1, (0, 0, 0), 0)) (by decide +kernel)) (by decide) hc_z
      replace hc_z := rn_goto (am_cur_of (i := (22, 3, .goto 4, (12, 0, 0), 0)) (by decide +kernel)) hc_z
      replace hc_z := rn_istore_n (am_cur_of (i := (26, 1, .istore_n 3, (0, 0, 0), 0)) (by decide +kernel)) hc_z
      obtain ⟨_, s220_z, s221_z, g3_z, hc_z⟩ := hc_z
      replace g0_z := s220_z 0 _ (by decide) rfl g0_z
      replace g1_z := s220_z 1 _ (by decide) rfl g1_z
      replace g2_z := s220_z 2 _ (by decide) rfl g2_z
      clear s220_z s221_z
      replace hc_z := rn_iload_n (am_cur_of (i := (27, 1, .iload_n 3, (0, 0, 0), 0)) (by decide +kernel)) g3_z hc_z
      replace hc_z := rn_ifF (am_cur_of (i := (28, 3, .ifCond .eq 18, (22, 0, 0), 0)) (by decide +kernel)) (by decide) hc_z
      replace hc_z := rn_aload_n (am_cur_of (i := (31, 1, .aload_n 0, (0, 0, 0), 0)) (by decide +kernel)) g0_z hc_z
      replace hc_z := rn_getM (x := 23) (am_cur_of (i := (32, 3, .getfield 18, (8, 0, 566), 0)) (by decide +kernel)) D hc_z
      replace hc_z := rn_getR (x := 28) (am_cur_of (i := (35, 3, .getfield 90, (1, 11, 292), 0)) (by decide +kernel)) (by decide +kernel) hc_z
      replace hc_z := rn_aload_n (am_cur_of (i := (38, 1, .aload_n 0, (0, 0, 0), 0)) (by decide +kernel)) g0_z hc_z
      replace hc_z := rn_getI (v := real) (am_cur_of (i := (39, 3, .getfield 32, (8, 2, 573), 0)) (by decide +kernel)) (by decide +kernel) eR hc_z
      replace hc_z := rn_iaload (N := 6) (q := real.toNatClampNeg) (v := rg_v h 28 real.toNatClampNeg) (am_cur_of (i := (42, 1, .iaload, (0, 0, 0), 0)) (by decide +kernel)) (by decide +kernel) rfl rfl hc_z
      obtain ⟨p222_z, hc_z⟩ := hc_z
      replace hc_z := rn_goto (am_cur_of (i := (43, 3, .goto 4, (23, 0, 0), 0)) (by decide +kernel)) hc_z
      replace hc_z := rn_istore (am_cur_of (i := (47, 2, .istore 4, (0, 0, 0), 0)) (by decide +kernel)) hc_z
      obtain ⟨_, s223_z, s224_z, g4_z, hc_z⟩ := hc_z
      replace g0_z := s223_z 0 _ (by decide) rfl g0_z
      replace g1_z := s223_z 1 _ (by decide) rfl g1_z
      replace g2_z := s223_z 2 _ (by decide) rfl g2_z
      replace g3_z := s223_z 3 _ (by decide) rfl g3_z
      clear s223_z s224_z
      replace hc_z := rn_iconst (w := 0) (am_cur_of (i := (49, 1, .iconst 0, (0, 0, 0), 0)) (by decide +kernel)) (by decide) hc_z
      replace hc_z := rn_istore (am_cur_of (i := (50, 2, .istore 5, (0, 0, 0), 0)) (by decide +kernel)) hc_z
      obtain ⟨_, s225_z, s226_z, g5_z, hc_z⟩ := hc_z
      replace g0_z := s225_z 0 _ (by decide) rfl g0_z
      replace g1_z := s225_z 1 _ (by decide) rfl g1_z
      replace g2_z := s225_z 2 _ (by decide) rfl g2_z
      replace g3_z := s225_z 3 _ (by decide) rfl g3_z
      replace g4_z := s225_z 4 _ (by decide) rfl g4_z
      clear s225_z s226_z
      have em : (rg_v h 28 real.toNatClampNeg : Int32) = leZ real pt (fun q => rg_v h 28 q) := by
        unfold leZ
        rw [if_neg (by omega), if_neg (by omega)]
      rw [em] at g4_z
      exact gf_l148_23_1 hL H0 H9 p0_z p9_z l0_z l9_z _ m.toInt.toNat 0 F S le _ _ D hC el eF eS eH eU ePu ePf eLe F0 F9 S0 (by omega) g0_z g1_z g2_z g4_z g5_z (by rw [z0_z]; omega) hc_z
