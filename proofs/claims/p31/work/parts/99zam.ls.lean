set_option maxHeartbeats 400000
/-! ===== lasts AND firm OF THE CLASS (wip/r/gen99sq.py) ===== -/
/-- what a trial of the class rests on -/
def sC (p : Nat) (h0_z : am_H) (Hd pf real pt lim pu U : Int32) (lo : Nat → Int32) (h : am_H) : Prop := h 148 0 = .ref p ∧ (∀ o q, p + 10 ≤ o → o ≤ p + 14 → rg_v h o q = rg_v h0_z o q) ∧ rg_v h 148 5 = lim ∧ rg_v h p 0 = Hd ∧ rg_v h 148 3 = U ∧ rg_v h 148 4 = pu ∧ rg_v h p 7 = pf ∧ rg_v h 148 2 = real ∧ rg_v h 149 4 = pt ∧ ∀ q, rg_v h (p + 5) q = lo q
theorem sC_k {p : Nat} {h0_z h h' : am_H} {Hd pf real pt lim pu U : Int32} {lo : Nat → Int32} (hp_z : p = 2 ∨ p = 23) (e : ∀ o k, ¬ o = p + 15 → ¬ o = p + 16 → ¬ (o = 149 ∧ k ≤ 3) → ¬ (150 ≤ o ∧ o ≤ 152) → ¬ (o = 148 ∧ k = 6) → h' o k = h o k) (c : sC p h0_z Hd pf real pt lim pu U lo h) : sC p h0_z Hd pf real pt lim pu U lo h' := by
  obtain ⟨c0_z, c1_z, c2_z, c3_z, c4_z, c5_z, c6_z, c7_z, c8_z, c9_z⟩ := c
  exact ⟨(e 148 0 (by omega) (by omega) (by omega) (by omega) (by omega)).trans c0_z, fun o q a b => (lw_v (e o q (by omega) (by omega) (by omega) (by omega) (by omega))).trans (c1_z o q a b), (lw_v (e 148 5 (by omega) (by omega) (by omega) (by omega) (by omega))).trans c2_z, (lw_v (e p 0 (by omega) (by omega) (by omega) (by omega) (by omega))).trans c3_z, (lw_v (e 148 3 (by omega) (by omega) (by omega) (by omega) (by omega))).trans c4_z, (lw_v (e 148 4 (by omega) (by omega) (by omega) (by omega) (by omega))).trans c5_z, (lw_v (e p 7 (by omega) (by omega) (by omega) (by omega) (by omega))).trans c6_z, (lw_v (e 148 2 (by omega) (by omega) (by omega) (by omega) (by omega))).trans c7_z, (lw_v (e 149 4 (by omega) (by omega) (by omega) (by omega) (by omega))).trans c8_z, fun q => (lw_v (e (p + 5) q (by omega) (by omega) (by omega) (by omega) (by omega))).trans (c9_z q)⟩
/-- how many seconds it stays so full -/
def lA (Z : Int32 → Int32 → Int) (bd : Int) : Nat → Int32 → Int32 → Nat → Prop
  | 0, _, _, n => n = 0
  | k + 1, F, S, n => (F.toInt < bd ∧ n = 0) ∨ (bd ≤ F.toInt ∧ ∃ F1 n1_z, F1.toInt = Z F S ∧ lA Z bd k F1 (S + 1) n1_z ∧ n = n1_z + 1)
theorem lA_u {Z : Int32 → Int32 → Int} {bd : Int} : ∀ (k : Nat) (F S : Int32) (a b : Nat), lA Z bd k F S a → lA Z bd k F S b → a = b
  | 0, _, _, _, _, x, y => x.trans y.symm
  | k + 1, F, S, a, b, x, y => by
    rcases x with ⟨x1_z, x2_z⟩ | ⟨x1_z, F1, n1_z, x2_z, x3_z, x4_z⟩
    · rcases y with ⟨y1_z, y2_z⟩ | ⟨y1_z, -⟩
      · rw [x2_z, y2_z]
      · omega
    · rcases y with ⟨y1_z, -⟩ | ⟨y1_z, F2, n2_z, y2_z, y3_z, y4_z⟩
      · omega
      · have e : F1 = F2 := Int32.toInt_inj.mp (x2_z.trans y2_z.symm)
        subst e
        rw [x4_z, y4_z, lA_u k F1 (S + 1) n1_z n2_z x3_z y3_z]
theorem lA_r {Z : Int32 → Int32 → Int} {bd : Int} : ∀ (k : Nat) (F S : Int32) (a : Nat), lA Z bd k F S a → a ≤ k
  | 0, _, _, _, x => by
    have e : _ = 0 := x
    omega
  | k + 1, F, S, a, x => by
    rcases x with ⟨-, x2_z⟩ | ⟨-, F1, n1_z, -, x3_z, x4_z⟩
    · omega
    · have := lA_r k F1 (S + 1) n1_z x3_z
      omega
/-- what a call of the class rests on -/
def dC (p : Nat) (h0_z : am_H) (Hd pf real pt s1_z : Int32) (lo : Nat → Int32) (h : am_H) : Prop := h 0 2 = .ref p ∧ (∀ o q, p + 10 ≤ o → o ≤ p + 14 → rg_v h o q = rg_v h0_z o q) ∧ rg_v h p 0 = Hd ∧ rg_v h p 7 = pf ∧ rg_v h p 18 = real ∧ rg_v h 48 4 = pt ∧ rg_v h 48 1 = s1_z ∧ ∀ q, rg_v h (p + 5) q = lo q
theorem dC_k {p : Nat} {h0_z h h' : am_H} {Hd pf real pt s1_z : Int32} {lo : Nat → Int32} (hp_z : p = 2 ∨ p = 23) (e : ∀ o k, ¬ o = p + 15 → ¬ o = p + 16 → ¬ (148 ≤ o ∧ o ≤ 152) → h' o k = h o k) (c : dC p h0_z Hd pf real pt s1_z lo h) : dC p h0_z Hd pf real pt s1_z lo h' := by
  obtain ⟨c0_z, c1_z, c2_z, c3_z, c4_z, c5_z, c6_z, c7_z⟩ := c
  exact ⟨(e 0 2 (by omega) (by omega) (by omega)).trans c0_z, fun o q a b => (lw_v (e o q (by omega) (by omega) (by omega))).trans (c1_z o q a b), (lw_v (e p 0 (by omega) (by omega) (by omega))).trans c2_z, (lw_v (e p 7 (by omega) (by omega) (by omega))).trans c3_z, (lw_v (e p 18 (by omega) (by omega) (by omega))).trans c4_z, (lw_v (e 48 4 (by omega) (by omega) (by omega))).trans c5_z, (lw_v (e 48 1 (by omega) (by omega) (by omega))).trans c6_z, fun q => (lw_v (e (p + 5) q (by omega) (by omega) (by omega))).trans (c7_z q)⟩
/-- the least one that lasts -/
def fA (Q : Int32 → Nat → Prop) (sec : Int) : Nat → Int32 → Int32 → Prop
  | 0, _, x => x = -2
  | k + 1, f, x => ∃ n : Nat, Q f n ∧ ((sec ≤ (n : Int) ∧ x = f) ∨ ((n : Int) < sec ∧ fA Q sec k (f + 1) x))
theorem fA_u {Q : Int32 → Nat → Prop} {sec : Int} (u : ∀ f a b, Q f a → Q f b → a = b) : ∀ (k : Nat) (f x y : Int32), fA Q sec k f x → fA Q sec k f y → x = y
  | 0, _, _, _, a, b => a.trans b.symm
  | k + 1, f, x, y, a, b => by
    obtain ⟨n, q, a⟩ := a
    obtain ⟨n2_z, q2_z, b⟩ := b
    have e := u f n n2_z q q2_z
    subst e
    rcases a with ⟨a1_z, a2_z⟩ | ⟨a1_z, a2_z⟩
    · rcases b with ⟨b1_z, b2_z⟩ | ⟨b1_z, b2_z⟩
      · rw [a2_z, b2_z]
      · omega
    · rcases b with ⟨b1_z, b2_z⟩ | ⟨b1_z, b2_z⟩
      · omega
      · exact fA_u u k (f + 1) x y a2_z b2_z
theorem sl_62 {n : Nat} {h h' : am_H} {r : Option Value} {x : Int32} {y : Int32} {z : Int32}  (hc_z : rn n am_m62 0 (lv_args 0 [.int x, .int y, .int z]) [] h r h') : ((x.toInt < y.toInt) ∧ r = some (.int 0) ∧ h' = h) ∨ ((y.toInt ≤ x.toInt) ∧ (z.toInt < x.toInt) ∧ r = some (.int 0) ∧ h' = h) ∨ ((y.toInt ≤ x.toInt) ∧ (x.toInt ≤ z.toInt) ∧ r = some (.int 1) ∧ h' = h) := by
  have g0_z : am_get (lv_args 0 [.int x, .int y, .int z]) 0 = some (.int x) := rfl
  have g1_z : am_get (lv_args 0 [.int x, .int y, .int z]) 1 = some (.int y) := rfl
  have g2_z : am_get (lv_args 0 [.int x, .int y, .int z]) 2 = some (.int z) := rfl
  replace hc_z := rn_iload_n (am_cur_of (i := (0, 1, .iload_n 0, (0, 0, 0), 0)) (by decide +kernel)) g0_z hc_z
  replace hc_z := rn_iload_n (am_cur_of (i := (1, 1, .iload_n 1, (0, 0, 0), 0)) (by decide +kernel)) g1_z hc_z
  replace hc_z := rn_cmp (am_cur_of (i := (2, 3, .if_icmp .lt 12, (8, 0, 0), 0)) (by decide +kernel)) hc_z
  rcases hc_z with ⟨b1_z, hc_z⟩ | ⟨b1_z, hc_z⟩
  · replace b1_z : x.toInt < y.toInt := b1_z
    replace hc_z := rn_iconst (w := 0) (am_cur_of (i := (14, 1, .iconst 0, (0, 0, 0), 0)) (by decide +kernel)) (by decide) hc_z
    replace hc_z := rn_iret (am_cur_of (i := (15, 1, .ireturn, (0, 0, 0), 0)) (by decide +kernel)) hc_z
    obtain ⟨e2_z, e3_z⟩ := hc_z
    exact Or.inl ⟨b1_z, e2_z, e3_z⟩
  · replace b1_z : y.toInt ≤ x.toInt := b1_z
    replace hc_z := rn_iload_n (am_cur_of (i := (5, 1, .iload_n 0, (0, 0, 0), 0)) (by decide +kernel)) g0_z hc_z
    replace hc_z := rn_iload_n (am_cur_of (i := (6, 1, .iload_n 2, (0, 0, 0), 0)) (by decide +kernel)) g2_z hc_z
    replace hc_z := rn_cmp (am_cur_of (i := (7, 3, .if_icmp .gt 7, (8, 0, 0), 0)) (by decide +kernel)) hc_z
    rcases hc_z with ⟨b4_z, hc_z⟩ | ⟨b4_z, hc_z⟩
    · replace b4_z : z.toInt < x.toInt := b4_z
      replace hc_z := rn_iconst (w := 0) (am_cur_of (i := (14, 1, .iconst 0, (0, 0, 0), 0)) (by decide +kernel)) (by decide) hc_z
      replace hc_z := rn_iret (am_cur_of (i := (15, 1, .ireturn, (0, 0, 0), 0)) (by decide +kernel)) hc_z
      obtain ⟨e5_z, e6_z⟩ := hc_z
      exact Or.inr (Or.inl ⟨b1_z, b4_z, e5_z, e6_z⟩)
    · replace b4_z : x.toInt ≤ z.toInt := b4_z
      replace hc_z := rn_iconst (w := 1) (am_cur_of (i := (10, 1, .iconst 1, (0, 0, 0), 0)) (by decide +kernel)) (by decide) hc_z
      replace hc_z := rn_goto (am_cur_of (i := (11, 3, .goto 4, (9, 0, 0), 0)) (by decide +kernel)) hc_z
      replace hc_z := rn_iret (am_cur_of (i := (15, 1, .ireturn, (0, 0, 0), 0)) (by decide +kernel)) hc_z
      obtain ⟨e7_z, e8_z⟩ := hc_z
      exact Or.inr (Or.inr (⟨b1_z, b4_z, e7_z, e8_z⟩))
theorem gz_75_2_0 {n : Nat} {r : Option Value} {h h' : am_H} {m F S : Int32} {h0_z g : am_H} {Hd pf real pt lim pu U : Int32} {lo : Nat → Int32} (hL : LW 2 h0_z g) (C : sC 2 h0_z Hd pf real pt lim pu U lo h) (eF : rg_v h 149 0 = F) (eS : rg_v h 149 1 = S) (H0 : 0 ≤ Hd.toInt) (H9 : Hd.toInt ≤ 9999) (p0_z : 0 ≤ pf.toInt) (p9_z : pf.toInt ≤ 9999) (l0_z : 0 ≤ (leZ real pt lo).toInt) (l9_z : (leZ real pt lo).toInt ≤ 999) (F0 : 0 ≤ F.toInt) (F9 : F.toInt ≤ 99999) (S0 : 0 ≤ S.toInt) (m0_z : 0 ≤ m.toInt) (S9 : S.toInt + m.toInt < 2147483647) (L9 : S.toInt + m.toInt ≤ lim.toInt) (hc_z : rn n am_m75 0 (lv_args 0 [.ref 148, .int m, .int 0]) [] h r h') : ∃ F2 : Int32, r = some (.int 1) ∧ gR (secZ 2 h0_z U Hd pu pf (leZ real pt lo) 0) m.toInt.toNat F S F2 ∧ rg_v h' 149 0 = F2 ∧ (rg_v h' 149 1).toInt = S.toInt + m.toInt ∧ gF 148 2 h h' ∧ sC 2 h0_z Hd pf real pt lim pu U lo h' := by
  have CC := C
  obtain ⟨c0_z, c1_z, c2_z, c3_z, c4_z, c5_z, c6_z, c7_z, c8_z, c9_z⟩ := C
  have eLo : (fun q => rg_v h 7 q) = lo := funext (fun q => c9_z q)
  obtain ⟨j, F2, le2_z, j1_z, j2_z, j3_z, j4_z, j5_z, j6_z, j7_z, j8_z, j9_z⟩ := gf_75_148_2_0 (le := rg_v h 148 6) c0_z hL c1_z c2_z eF eS c3_z c4_z c5_z c6_z rfl c7_z c8_z H0 H9 p0_z p9_z F0 F9 S0 m0_z S9 (by rw [eLo]; exact l0_z) (by rw [eLo]; exact l9_z) hc_z
  have em : j = m.toInt.toNat ∧ r = some (.int 1) := by
    rcases j2_z with j2_z | ⟨jl, -, jb⟩
    · exact j2_z
    · exfalso
      omega
  rw [em.1, eLo] at j4_z
  exact ⟨F2, em.2, j4_z, j6_z, by rw [j7_z, em.1]; omega, j9_z, sC_k (by decide) (fun o k a b c d e => j9_z o k a b (by omega) e) CC⟩
theorem gz_75_2_1 {n : Nat} {r : Option Value} {h h' : am_H} {m F S : Int32} {h0_z g : am_H} {Hd pf real pt lim pu U : Int32} {lo : Nat → Int32} (hL : LW 2 h0_z g) (C : sC 2 h0_z Hd pf real pt lim pu U lo h) (eF : rg_v h 149 0 = F) (eS : rg_v h 149 1 = S) (H0 : 0 ≤ Hd.toInt) (H9 : Hd.toInt ≤ 9999) (p0_z : 0 ≤ pf.toInt) (p9_z : pf.toInt ≤ 9999) (l0_z : 0 ≤ (leZ real pt lo).toInt) (l9_z : (leZ real pt lo).toInt ≤ 999) (F0 : 0 ≤ F.toInt) (F9 : F.toInt ≤ 99999) (S0 : 0 ≤ S.toInt) (m0_z : 0 ≤ m.toInt) (S9 : S.toInt + m.toInt < 2147483647) (L9 : S.toInt + m.toInt ≤ lim.toInt) (hc_z : rn n am_m75 0 (lv_args 0 [.ref 148, .int m, .int 1]) [] h r h') : ∃ F2 : Int32, r = some (.int 1) ∧ gR (secZ 2 h0_z U Hd pu pf (leZ real pt lo) 1) m.toInt.toNat F S F2 ∧ rg_v h' 149 0 = F2 ∧ (rg_v h' 149 1).toInt = S.toInt + m.toInt ∧ gF 148 2 h h' ∧ sC 2 h0_z Hd pf real pt lim pu U lo h' := by
  have CC := C
  obtain ⟨c0_z, c1_z, c2_z, c3_z, c4_z, c5_z, c6_z, c7_z, c8_z, c9_z⟩ := C
  have eLo : (fun q => rg_v h 7 q) = lo := funext (fun q => c9_z q)
  obtain ⟨j, F2, le2_z, j1_z, j2_z, j3_z, j4_z, j5_z, j6_z, j7_z, j8_z, j9_z⟩ := gf_75_148_2_1 (le := rg_v h 148 6) c0_z hL c1_z c2_z eF eS c3_z c4_z c5_z c6_z rfl c7_z c8_z H0 H9 p0_z p9_z F0 F9 S0 m0_z S9 (by rw [eLo]; exact l0_z) (by rw [eLo]; exact l9_z) hc_z
  have em : j = m.toInt.toNat ∧ r = some (.int 1) := by
    rcases j2_z with j2_z | ⟨jl, -, jb⟩
    · exact j2_z
    · exfalso
      omega
  rw [em.1, eLo] at j4_z
  exact ⟨F2, em.2, j4_z, j6_z, by rw [j7_z, em.1]; omega, j9_z, sC_k (by decide) (fun o k a b c d e => j9_z o k a b (by omega) e) CC⟩
theorem sa_l2 {r : Option Value} {h' : am_H} {bd mo : Int32} {h0_z g : am_H} {Hd pf real pt lim pu U : Int32} {lo : Nat → Int32} (hL : LW 2 h0_z g) (H0 : 0 ≤ Hd.toInt) (H9 : Hd.toInt ≤ 9999) (p0_z : 0 ≤ pf.toInt) (p9_z : pf.toInt ≤ 9999) (l0_z : 0 ≤ (leZ real pt lo).toInt) (l9_z : (leZ real pt lo).toInt ≤ 999) : ∀ (f k : Nat) (i F S : Int32) (ls : am_L) (h : am_H), sC 2 h0_z Hd pf real pt lim pu U lo h → rg_v h 149 0 = F → rg_v h 149 1 = S → 0 ≤ F.toInt → F.toInt ≤ 9999 → 0 ≤ S.toInt → S.toInt + k < 2147483647 → S.toInt + k ≤ lim.toInt → am_get ls 0 = some (.ref 0) → am_get ls 2 = some (.int bd) → am_get ls 3 = some (.int mo) → am_get ls 4 = some (.int i) → i.toInt + k = mo.toInt → rn f am_m105 14 ls [] h r h' → ∃ (n : Nat) (x : Int32), lA (secZ 2 h0_z U Hd pu pf (leZ real pt lo) 0) bd.toInt k F S n ∧ r = some (.int x) ∧ x.toInt = i.toInt + n ∧ ∀ o k, ¬ o = 17 → ¬ o = 18 → ¬ (148 ≤ o ∧ o ≤ 152) → h' o k = h o k := by
  intro f
  induction f with
  | zero => intro k i F S ls h C eF eS F0 F9 S0 S9 L9 g0_z g2_z g3_z g4_z ik hc_z; exact absurd hc_z rn_0
  | succ f ih_z =>
    intro k i F S ls h C eF eS F0 F9 S0 S9 L9 g0_z g2_z g3_z g4_z ik hc_z
    have z0_z : (0 : Int32).toInt = 0 := by decide
    have z1_z : (1 : Int32).toInt = 1 := by decide
    replace hc_z := rn_iload (am_cur_of (i := (29, 2, .iload 4, (0, 0, 0), 0)) (by decide +kernel)) g4_z hc_z
    replace hc_z := rn_iload_n (am_cur_of (i := (31, 1, .iload_n 3, (0, 0, 0), 0)) (by decide +kernel)) g3_z hc_z
    replace hc_z := rn_cmp (am_cur_of (i := (32, 3, .if_icmp .ge 33, (31, 0, 0), 0)) (by decide +kernel)) hc_z
    rcases hc_z with ⟨b9_z, hc_z⟩ | ⟨b9_z, hc_z⟩
    · replace b9_z : mo.toInt ≤ i.toInt := b9_z
      obtain rfl : k = 0 := by omega
      replace hc_z := rn_iload (am_cur_of (i := (65, 2, .iload 4, (0, 0, 0), 0)) (by decide +kernel)) g4_z hc_z
      replace hc_z := rn_iret (am_cur_of (i := (67, 1, .ireturn, (0, 0, 0), 0)) (by decide +kernel)) hc_z
      obtain ⟨e10_z, e11_z⟩ := hc_z
      exact ⟨0, i, rfl, e10_z, by omega, fun o k _ _ _ => by rw [e11_z]⟩
    · replace b9_z : i.toInt < mo.toInt := b9_z
      obtain ⟨k, rfl⟩ : ∃ k2_z, k = k2_z + 1 := ⟨k - 1, by omega⟩
      have ci_z := fk_c1 b9_z
      have cs := ab_iadd (x := S) (y := 1) (by omega) (by omega)
      replace hc_z := rn_aload_n (am_cur_of (i := (35, 1, .aload_n 0, (0, 0, 0), 0)) (by decide +kernel)) g0_z hc_z
      replace hc_z := rn_getR (x := 148) (am_cur_of (i := (36, 3, .getfield 64, (0, 11, 672), 0)) (by decide +kernel)) (by decide +kernel) hc_z
      replace hc_z := rn_getR (x := 149) (am_cur_of (i := (39, 3, .getfield 216, (8, 1, 572), 0)) (by decide +kernel)) (by decide +kernel) hc_z
      replace hc_z := rn_getI (v := F) (am_cur_of (i := (42, 3, .getfield 222, (5, 0, 466), 0)) (by decide +kernel)) (by decide +kernel) eF hc_z
      replace hc_z := rn_iload_n (am_cur_of (i := (45, 1, .iload_n 2, (0, 0, 0), 0)) (by decide +kernel)) g2_z hc_z
      replace hc_z := rn_cmp (am_cur_of (i := (46, 3, .if_icmp .lt 19, (31, 0, 0), 0)) (by decide +kernel)) hc_z
      rcases hc_z with ⟨b12_z, hc_z⟩ | ⟨b12_z, hc_z⟩
      · replace b12_z : F.toInt < bd.toInt := b12_z
        replace hc_z := rn_iload (am_cur_of (i := (65, 2, .iload 4, (0, 0, 0), 0)) (by decide +kernel)) g4_z hc_z
        replace hc_z := rn_iret (am_cur_of (i := (67, 1, .ireturn, (0, 0, 0), 0)) (by decide +kernel)) hc_z
        obtain ⟨e13_z, e14_z⟩ := hc_z
        exact ⟨0, i, Or.inl ⟨by omega, rfl⟩, e13_z, by omega, fun o k _ _ _ => by rw [e14_z]⟩
      · replace b12_z : bd.toInt ≤ F.toInt := b12_z
        replace hc_z := rn_aload_n (am_cur_of (i := (49, 1, .aload_n 0, (0, 0, 0), 0)) (by decide +kernel)) g0_z hc_z
        replace hc_z := rn_getR (x := 148) (am_cur_of (i := (50, 3, .getfield 64, (0, 11, 672), 0)) (by decide +kernel)) (by decide +kernel) hc_z
        replace hc_z := rn_iconst (w := 1) (am_cur_of (i := (53, 1, .iconst 1, (0, 0, 0), 0)) (by decide +kernel)) (by decide) hc_z
        replace hc_z := rn_iconst (w := 0) (am_cur_of (i := (54, 1, .iconst 0, (0, 0, 0), 0)) (by decide +kernel)) (by decide) hc_z
        replace hc_z := rn_callV (M' := am_m75) (o := 148) (ar := [.int 0, .int 1]) (rest := []) (L := lv_args 0 [.ref 148, .int 1, .int 0]) (am_cur_of (i := (55, 3, .invokevirtual 225, (75, 1007, 3), 0)) (by decide +kernel)) rfl rfl rfl rfl hc_z
        obtain ⟨r15_z, h16_z, q17_z, hc_z⟩ := hc_z
        obtain ⟨F2, rr, j4_z, j6_z, j7_z, j9_z, C2⟩ := gz_75_2_0 hL C eF eS H0 H9 p0_z p9_z l0_z l9_z F0 (by omega) S0 (by omega) (by omega) (by omega) q17_z
        subst rr
        rw [show (1 : Int32).toInt.toNat = 1 by decide] at j4_z
        obtain ⟨F1, f1_z, f2_z⟩ := j4_z
        have f3_z : F2 = F1 := f2_z
        subst f3_z
        have zr := secZ_r (p := 2) (h0_z := h0_z) (U := U) (pu := pu) (S := S) (o := 0) H0 H9 p0_z l0_z F0 F9 (by decide)
        rw [← f1_z] at zr
        have eS2 : rg_v h16_z 149 1 = S + 1 := Int32.toInt_inj.mp (by rw [j7_z, cs])
        replace hc_z : rn _ _ _ _ [.int 1] _ _ _ := hc_z
        replace hc_z := rn_pop (am_cur_of (i := (58, 1, .pop, (0, 0, 0), 0)) (by decide +kernel)) hc_z
        replace hc_z := rn_iinc (w := i + 1) (am_cur_of (i := (59, 3, .iinc 4 1, (0, 0, 0), 0)) (by decide +kernel)) g4_z rfl hc_z
        obtain ⟨_, s18_z, s19_z, g4_z, hc_z⟩ := hc_z
        replace g0_z := s18_z 0 _ (by decide) rfl g0_z
        replace g2_z := s18_z 2 _ (by decide) rfl g2_z
        replace g3_z := s18_z 3 _ (by decide) rfl g3_z
        clear s18_z s19_z
        replace hc_z := rn_gotoL (am_cur_of (i := (62, 3, .goto (-33), (14, 0, 0), 0)) (by decide +kernel)) hc_z
        obtain ⟨n, x, q1_z, q2_z, q3_z, q4_z⟩ := ih_z k (i + 1) F2 (S + 1) _ _ C2 j6_z eS2 zr.1 zr.2 (by omega) (by omega) (by omega) g0_z g2_z g3_z g4_z (by omega) hc_z
        exact ⟨n + 1, x, Or.inr ⟨by omega, F2, n, f1_z, q1_z, rfl⟩, q2_z, by omega, fun o k a b c => (q4_z o k a b c).trans (j9_z o k a b (by omega) (by omega))⟩
theorem sa_105_2 {n : Nat} {r : Option Value} {h0_z g : am_H} {Hd pf real pt s1_z : Int32} {lo : Nat → Int32} {h h' : am_H} {fr bd mo : Int32} (hL : LW 2 h0_z g) (H0 : 0 ≤ Hd.toInt) (H9 : Hd.toInt ≤ 9999) (p0_z : 0 ≤ pf.toInt) (p9_z : pf.toInt ≤ 9999) (l0_z : 0 ≤ (leZ real pt lo).toInt) (l9_z : (leZ real pt lo).toInt ≤ 999) (S0 : 0 ≤ s1_z.toInt) (S9 : s1_z.toInt ≤ 99999) (C0 : dC 2 h0_z Hd pf real pt s1_z lo h) (F0 : 0 ≤ fr.toInt) (F9 : fr.toInt ≤ 9999) (m0_z : 0 ≤ mo.toInt) (m9_z : mo.toInt ≤ 9999) (hc_z : rn n am_m105 0 (lv_args 0 [.ref 0, .int fr, .int bd, .int mo]) [] h r h') : ∃ (n : Nat) (x : Int32), lA (secZ 2 h0_z 0 Hd 0 pf (leZ real pt lo) 0) bd.toInt mo.toInt.toNat fr s1_z n ∧ r = some (.int x) ∧ x.toInt = n ∧ ∀ o k, ¬ o = 17 → ¬ o = 18 → ¬ (148 ≤ o ∧ o ≤ 152) → h' o k = h o k := by
  have z0_z : (0 : Int32).toInt = 0 := by decide
  have z2147483647_z : (2147483647 : Int32).toInt = 2147483647 := by decide
  obtain ⟨d0_z, d1_z, d2_z, d3_z, d4_z, d5_z, d6_z, d7_z⟩ := C0
  have g0_z : am_get (lv_args 0 [.ref 0, .int fr, .int bd, .int mo]) 0 = some (.ref 0) := rfl
  have g1_z : am_get (lv_args 0 [.ref 0, .int fr, .int bd, .int mo]) 1 = some (.int fr) := rfl
  have g2_z : am_get (lv_args 0 [.ref 0, .int fr, .int bd, .int mo]) 2 = some (.int bd) := rfl
  have g3_z : am_get (lv_args 0 [.ref 0, .int fr, .int bd, .int mo]) 3 = some (.int mo) := rfl
  replace hc_z := rn_aload_n (am_cur_of (i := (0, 1, .aload_n 0, (0, 0, 0), 0)) (by decide +kernel)) g0_z hc_z
  replace hc_z := rn_getR (x := 148) (am_cur_of (i := (1, 3, .getfield 64, (0, 11, 672), 0)) (by decide +kernel)) (by decide +kernel) hc_z
  replace hc_z := rn_aload_n (am_cur_of (i := (4, 1, .aload_n 0, (0, 0, 0), 0)) (by decide +kernel)) g0_z hc_z
  replace hc_z := rn_getM (x := 2) (am_cur_of (i := (5, 3, .getfield 18, (0, 2, 663), 0)) (by decide +kernel)) d0_z hc_z
  replace hc_z := rn_aload_n (am_cur_of (i := (8, 1, .aload_n 0, (0, 0, 0), 0)) (by decide +kernel)) g0_z hc_z
  replace hc_z := rn_getR (x := 48) (am_cur_of (i := (9, 3, .getfield 37, (0, 5, 666), 0)) (by decide +kernel)) (by decide +kernel) hc_z
  replace hc_z := rn_callV (M' := am_m63) (o := 148) (ar := [.ref 48, .ref 2]) (rest := []) (L := lv_args 0 [.ref 148, .ref 2, .ref 48]) (am_cur_of (i := (12, 3, .invokevirtual 146, (63, 912, 3), 0)) (by decide +kernel)) rfl rfl rfl rfl hc_z
  obtain ⟨r20_z, h21_z, q22_z, hc_z⟩ := hc_z
  have vo := rn_void rfl q22_z
  subst vo
  obtain ⟨b1_z, b5_z, b2_z, b3_z, b4_z, bS, bf⟩ := se_63_2 q22_z
  have C1 : sC 2 h0_z Hd pf real pt 2147483647 0 0 lo h21_z := ⟨b1_z, fun o q a_ b_ => (lw_v (bf o q (by omega))).trans (d1_z o q a_ b_), b5_z, (lw_v (bf 2 0 (by decide))).trans d2_z, b3_z, b4_z, (lw_v (bf 2 7 (by decide))).trans d3_z, b2_z.trans d4_z, (bS 4 (by decide)).trans d5_z, fun q => (lw_v (bf 7 q (by omega))).trans (d7_z q)⟩
  have eS : rg_v h21_z 149 1 = s1_z := (bS 1 (by decide)).trans d6_z
  replace hc_z : rn _ _ _ _ [] _ _ _ := hc_z
  replace hc_z := rn_aload_n (am_cur_of (i := (15, 1, .aload_n 0, (0, 0, 0), 0)) (by decide +kernel)) g0_z hc_z
  replace hc_z := rn_getR (x := 148) (am_cur_of (i := (16, 3, .getfield 64, (0, 11, 672), 0)) (by decide +kernel)) (by decide +kernel) hc_z
  replace hc_z := rn_getR (x := 149) (am_cur_of (i := (19, 3, .getfield 216, (8, 1, 572), 0)) (by decide +kernel)) (by decide +kernel) hc_z
  replace hc_z := rn_iload_n (am_cur_of (i := (22, 1, .iload_n 1, (0, 0, 0), 0)) (by decide +kernel)) g1_z hc_z
  replace hc_z := rn_put (am_cur_of (i := (23, 3, .putfield 222, (5, 0, 466), 0)) (by decide +kernel)) (by decide +kernel) hc_z
  replace hc_z := rn_iconst (w := 0) (am_cur_of (i := (26, 1, .iconst 0, (0, 0, 0), 0)) (by decide +kernel)) (by decide) hc_z
  replace hc_z := rn_istore (am_cur_of (i := (27, 2, .istore 4, (0, 0, 0), 0)) (by decide +kernel)) hc_z
  obtain ⟨_, s23_z, s24_z, g4_z, hc_z⟩ := hc_z
  replace g0_z := s23_z 0 _ (by decide) rfl g0_z
  replace g1_z := s23_z 1 _ (by decide) rfl g1_z
  replace g2_z := s23_z 2 _ (by decide) rfl g2_z
  replace g3_z := s23_z 3 _ (by decide) rfl g3_z
  clear s23_z s24_z
  have C2 : sC 2 h0_z Hd pf real pt 2147483647 0 0 lo (am_up h21_z 149 0 (.int fr)) := sC_k (by decide) (fun o k a b c d e => up_ne (by omega)) C1
  obtain ⟨n, x, q1_z, q2_z, q3_z, q4_z⟩ := sa_l2 hL H0 H9 p0_z p9_z l0_z l9_z _ mo.toInt.toNat 0 fr s1_z _ _ C2 rg_v_self ((rg_v_other (by omega)).trans eS) F0 F9 S0 (by omega) (by omega) g0_z g2_z g3_z g4_z (by omega) hc_z
  exact ⟨n, x, q1_z, q2_z, by omega, fun o k a b c => (q4_z o k a b c).trans ((up_ne (by omega)).trans (bf o k c))⟩
theorem la_104_2 {n : Nat} {r : Option Value} {h0_z g : am_H} {Hd pf real pt s1_z : Int32} {lo : Nat → Int32} {h h' : am_H} {fr bd : Int32} (hL : LW 2 h0_z g) (H0 : 0 ≤ Hd.toInt) (H9 : Hd.toInt ≤ 9999) (p0_z : 0 ≤ pf.toInt) (p9_z : pf.toInt ≤ 9999) (l0_z : 0 ≤ (leZ real pt lo).toInt) (l9_z : (leZ real pt lo).toInt ≤ 999) (S0 : 0 ≤ s1_z.toInt) (S9 : s1_z.toInt ≤ 99999) (C0 : dC 2 h0_z Hd pf real pt s1_z lo h) (hc_z : rn n am_m104 0 (lv_args 0 [.ref 0, .int fr, .int bd]) [] h r h') : (¬ (0 ≤ fr.toInt ∧ fr.toInt ≤ Hd.toInt ∧ 0 ≤ bd.toInt ∧ bd.toInt ≤ 9999) ∧ r = some (.int (-1))) ∨ ((0 ≤ fr.toInt ∧ fr.toInt ≤ Hd.toInt ∧ 0 ≤ bd.toInt ∧ bd.toInt ≤ 9999) ∧ ∃ (n : Nat) (x : Int32), lA (secZ 2 h0_z 0 Hd 0 pf (leZ real pt lo) 0) bd.toInt 3600 fr s1_z n ∧ r = some (.int x) ∧ x.toInt = n) := by
  have z0_z : (0 : Int32).toInt = 0 := by decide
  have z3600_z : (3600 : Int32).toInt = 3600 := by decide
  have z9999_z : (9999 : Int32).toInt = 9999 := by decide
  have CC := C0
  obtain ⟨d0_z, d1_z, d2_z, d3_z, d4_z, d5_z, d6_z, d7_z⟩ := C0
  have g0_z : am_get (lv_args 0 [.ref 0, .int fr, .int bd]) 0 = some (.ref 0) := rfl
  have g1_z : am_get (lv_args 0 [.ref 0, .int fr, .int bd]) 1 = some (.int fr) := rfl
  have g2_z : am_get (lv_args 0 [.ref 0, .int fr, .int bd]) 2 = some (.int bd) := rfl
  replace hc_z := rn_iload_n (am_cur_of (i := (0, 1, .iload_n 1, (0, 0, 0), 0)) (by decide +kernel)) g1_z hc_z
  replace hc_z := rn_iconst (w := 0) (am_cur_of (i := (1, 1, .iconst 0, (0, 0, 0), 0)) (by decide +kernel)) (by decide) hc_z
  replace hc_z := rn_aload_n (am_cur_of (i := (2, 1, .aload_n 0, (0, 0, 0), 0)) (by decide +kernel)) g0_z hc_z
  replace hc_z := rn_getM (x := 2) (am_cur_of (i := (3, 3, .getfield 18, (0, 2, 663), 0)) (by decide +kernel)) d0_z hc_z
  replace hc_z := rn_getI (v := Hd) (am_cur_of (i := (6, 3, .getfield 273, (1, 0, 251), 0)) (by decide +kernel)) (by decide +kernel) d2_z hc_z
  replace hc_z := rn_callS (M' := am_m62) (ar := [.int Hd, .int 0, .int fr]) (rest := []) (L := lv_args 0 [.int fr, .int 0, .int Hd]) (am_cur_of (i := (9, 3, .invokestatic 172, (62, 908, 3), 0)) (by decide +kernel)) rfl rfl rfl rfl hc_z
  obtain ⟨r25_z, h26_z, q27_z, hc_z⟩ := hc_z
  rcases sl_62 q27_z with ⟨b28_z, rfl, y29_z⟩ | ⟨b30_z, b31_z, rfl, y32_z⟩ | ⟨b33_z, b34_z, rfl, y35_z⟩
  · replace y29_z := y29_z.symm
    subst y29_z
    replace b28_z : fr.toInt < (0 : Int32).toInt := b28_z
    replace hc_z : rn _ _ _ _ [.int 0] _ _ _ := hc_z
    replace hc_z := rn_ifT (am_cur_of (i := (12, 3, .ifCond .eq 14, (12, 0, 0), 0)) (by decide +kernel)) (by decide) hc_z
    replace hc_z := rn_iconst (w := (-1)) (am_cur_of (i := (26, 1, .iconst (-1), (0, 0, 0), 0)) (by decide +kernel)) (by decide) hc_z
    replace hc_z := rn_iret (am_cur_of (i := (27, 1, .ireturn, (0, 0, 0), 0)) (by decide +kernel)) hc_z
    obtain ⟨e36_z, e37_z⟩ := hc_z
    exact Or.inl ⟨by omega, e36_z⟩
  · replace y32_z := y32_z.symm
    subst y32_z
    replace b30_z : (0 : Int32).toInt ≤ fr.toInt := b30_z
    replace b31_z : Hd.toInt < fr.toInt := b31_z
    replace hc_z : rn _ _ _ _ [.int 0] _ _ _ := hc_z
    replace hc_z := rn_ifT (am_cur_of (i := (12, 3, .ifCond .eq 14, (12, 0, 0), 0)) (by decide +kernel)) (by decide) hc_z
    replace hc_z := rn_iconst (w := (-1)) (am_cur_of (i := (26, 1, .iconst (-1), (0, 0, 0), 0)) (by decide +kernel)) (by decide) hc_z
    replace hc_z := rn_iret (am_cur_of (i := (27, 1, .ireturn, (0, 0, 0), 0)) (by decide +kernel)) hc_z
    obtain ⟨e38_z, e39_z⟩ := hc_z
    exact Or.inl ⟨by omega, e38_z⟩
  · replace y35_z := y35_z.symm
    subst y35_z
    replace b33_z : (0 : Int32).toInt ≤ fr.toInt := b33_z
    replace b34_z : fr.toInt ≤ Hd.toInt := b34_z
    replace hc_z : rn _ _ _ _ [.int 1] _ _ _ := hc_z
    replace hc_z := rn_ifF (am_cur_of (i := (12, 3, .ifCond .eq 14, (12, 0, 0), 0)) (by decide +kernel)) (by decide) hc_z
    replace hc_z := rn_iload_n (am_cur_of (i := (15, 1, .iload_n 2, (0, 0, 0), 0)) (by decide +kernel)) g2_z hc_z
    replace hc_z := rn_iconst (w := 0) (am_cur_of (i := (16, 1, .iconst 0, (0, 0, 0), 0)) (by decide +kernel)) (by decide) hc_z
    replace hc_z := rn_sipush (w := 9999) (am_cur_of (i := (17, 3, .sipush 9999, (0, 0, 0), 0)) (by decide +kernel)) (by decide) hc_z
    replace hc_z := rn_callS (M' := am_m62) (ar := [.int 9999, .int 0, .int bd]) (rest := []) (L := lv_args 0 [.int bd, .int 0, .int 9999]) (am_cur_of (i := (20, 3, .invokestatic 172, (62, 908, 3), 0)) (by decide +kernel)) rfl rfl rfl rfl hc_z
    obtain ⟨r40_z, h41_z, q42_z, hc_z⟩ := hc_z
    rcases sl_62 q42_z with ⟨b43_z, rfl, y44_z⟩ | ⟨b45_z, b46_z, rfl, y47_z⟩ | ⟨b48_z, b49_z, rfl, y50_z⟩
    · replace y44_z := y44_z.symm
      subst y44_z
      replace b43_z : bd.toInt < (0 : Int32).toInt := b43_z
      replace hc_z : rn _ _ _ _ [.int 0] _ _ _ := hc_z
      replace hc_z := rn_ifF (am_cur_of (i := (23, 3, .ifCond .ne 5, (14, 0, 0), 0)) (by decide +kernel)) (by decide) hc_z
      replace hc_z := rn_iconst (w := (-1)) (am_cur_of (i := (26, 1, .iconst (-1), (0, 0, 0), 0)) (by decide +kernel)) (by decide) hc_z
      replace hc_z := rn_iret (am_cur_of (i := (27, 1, .ireturn, (0, 0, 0), 0)) (by decide +kernel)) hc_z
      obtain ⟨e51_z, e52_z⟩ := hc_z
      exact Or.inl ⟨by omega, e51_z⟩
    · replace y47_z := y47_z.symm
      subst y47_z
      replace b45_z : (0 : Int32).toInt ≤ bd.toInt := b45_z
      replace b46_z : (9999 : Int32).toInt < bd.toInt := b46_z
      replace hc_z : rn _ _ _ _ [.int 0] _ _ _ := hc_z
      replace hc_z := rn_ifF (am_cur_of (i := (23, 3, .ifCond .ne 5, (14, 0, 0), 0)) (by decide +kernel)) (by decide) hc_z
      replace hc_z := rn_iconst (w := (-1)) (am_cur_of (i := (26, 1, .iconst (-1), (0, 0, 0), 0)) (by decide +kernel)) (by decide) hc_z
      replace hc_z := rn_iret (am_cur_of (i := (27, 1, .ireturn, (0, 0, 0), 0)) (by decide +kernel)) hc_z
      obtain ⟨e53_z, e54_z⟩ := hc_z
      exact Or.inl ⟨by omega, e53_z⟩
    · replace y50_z := y50_z.symm
      subst y50_z
      replace b48_z : (0 : Int32).toInt ≤ bd.toInt := b48_z
      replace b49_z : bd.toInt ≤ (9999 : Int32).toInt := b49_z
      replace hc_z : rn _ _ _ _ [.int 1] _ _ _ := hc_z
      replace hc_z := rn_ifT (am_cur_of (i := (23, 3, .ifCond .ne 5, (14, 0, 0), 0)) (by decide +kernel)) (by decide) hc_z
      replace hc_z := rn_aload_n (am_cur_of (i := (28, 1, .aload_n 0, (0, 0, 0), 0)) (by decide +kernel)) g0_z hc_z
      replace hc_z := rn_iload_n (am_cur_of (i := (29, 1, .iload_n 1, (0, 0, 0), 0)) (by decide +kernel)) g1_z hc_z
      replace hc_z := rn_iload_n (am_cur_of (i := (30, 1, .iload_n 2, (0, 0, 0), 0)) (by decide +kernel)) g2_z hc_z
      replace hc_z := rn_sipush (w := 3600) (am_cur_of (i := (31, 3, .sipush 3600, (0, 0, 0), 0)) (by decide +kernel)) (by decide) hc_z
      replace hc_z := rn_callV (M' := am_m105) (o := 0) (ar := [.int 3600, .int bd, .int fr]) (rest := []) (L := lv_args 0 [.ref 0, .int fr, .int bd, .int 3600]) (am_cur_of (i := (34, 3, .invokevirtual 276, (105, 1104, 3), 0)) (by decide +kernel)) rfl rfl rfl rfl hc_z
      obtain ⟨r55_z, h56_z, q57_z, hc_z⟩ := hc_z
      obtain ⟨n, x, q1_z, rr, q3_z, -⟩ := sa_105_2 hL H0 H9 p0_z p9_z l0_z l9_z S0 S9 CC (by omega) (by omega) (by decide) (by decide) q57_z
      subst rr
      rw [show (3600 : Int32).toInt.toNat = 3600 by decide] at q1_z
      replace hc_z : rn _ _ _ _ [.int x] _ _ _ := hc_z
      replace hc_z := rn_iret (am_cur_of (i := (37, 1, .ireturn, (0, 0, 0), 0)) (by decide +kernel)) hc_z
      obtain ⟨e58_z, e59_z⟩ := hc_z
      exact Or.inr ⟨by omega, n, x, q1_z, e58_z, q3_z⟩
theorem fi_l2 {r : Option Value} {h0_z g : am_H} {Hd pf real pt s1_z : Int32} {lo : Nat → Int32} {h' : am_H} {bd sc : Int32} (hL : LW 2 h0_z g) (H0 : 0 ≤ Hd.toInt) (H9 : Hd.toInt ≤ 9999) (p0_z : 0 ≤ pf.toInt) (p9_z : pf.toInt ≤ 9999) (l0_z : 0 ≤ (leZ real pt lo).toInt) (l9_z : (leZ real pt lo).toInt ≤ 999) (S0 : 0 ≤ s1_z.toInt) (S9 : s1_z.toInt ≤ 99999) (c0_z : 0 ≤ sc.toInt) (c9_z : sc.toInt ≤ 60) : ∀ (f k : Nat) (i : Int32) (ls : am_L) (h : am_H), dC 2 h0_z Hd pf real pt s1_z lo h → 0 ≤ i.toInt → i.toInt + k = Hd.toInt + 1 → am_get ls 0 = some (.ref 0) → am_get ls 1 = some (.int sc) → am_get ls 2 = some (.int bd) → am_get ls 3 = some (.int i) → rn f am_m106 14 ls [] h r h' → ∃ x : Int32, fA (fun f n => lA (secZ 2 h0_z 0 Hd 0 pf (leZ real pt lo) 0) bd.toInt sc.toInt.toNat f s1_z n) sc.toInt k i x ∧ r = some (.int x) := by
  intro f
  induction f with
  | zero => intro k i ls h C0 i0_z ik g0_z g1_z g2_z g3_z hc_z; exact absurd hc_z rn_0
  | succ f ih_z =>
    intro k i ls h C0 i0_z ik g0_z g1_z g2_z g3_z hc_z
    have CC := C0
    obtain ⟨d0_z, d1_z, d2_z, d3_z, d4_z, d5_z, d6_z, d7_z⟩ := C0
    have z0_z : (0 : Int32).toInt = 0 := by decide
    have z1_z : (1 : Int32).toInt = 1 := by decide
    replace hc_z := rn_iload_n (am_cur_of (i := (25, 1, .iload_n 3, (0, 0, 0), 0)) (by decide +kernel)) g3_z hc_z
    replace hc_z := rn_aload_n (am_cur_of (i := (26, 1, .aload_n 0, (0, 0, 0), 0)) (by decide +kernel)) g0_z hc_z
    replace hc_z := rn_getM (x := 2) (am_cur_of (i := (27, 3, .getfield 18, (0, 2, 663), 0)) (by decide +kernel)) d0_z hc_z
    replace hc_z := rn_getI (v := Hd) (am_cur_of (i := (30, 3, .getfield 273, (1, 0, 251), 0)) (by decide +kernel)) (by decide +kernel) d2_z hc_z
    replace hc_z := rn_cmp (am_cur_of (i := (33, 3, .if_icmp .gt 22, (30, 0, 0), 0)) (by decide +kernel)) hc_z
    rcases hc_z with ⟨b60_z, hc_z⟩ | ⟨b60_z, hc_z⟩
    · replace b60_z : Hd.toInt < i.toInt := b60_z
      obtain rfl : k = 0 := by omega
      replace hc_z := rn_bipush (w := (-2)) (am_cur_of (i := (55, 2, .bipush (-2), (0, 0, 0), 0)) (by decide +kernel)) (by decide) hc_z
      replace hc_z := rn_iret (am_cur_of (i := (57, 1, .ireturn, (0, 0, 0), 0)) (by decide +kernel)) hc_z
      obtain ⟨e61_z, e62_z⟩ := hc_z
      exact ⟨-2, rfl, e61_z⟩
    · replace b60_z : i.toInt ≤ Hd.toInt := b60_z
      obtain ⟨k, rfl⟩ : ∃ k2_z, k = k2_z + 1 := ⟨k - 1, by omega⟩
      have ci_z := rt_c1 (x := i) (by omega) (by omega)
      replace hc_z := rn_aload_n (am_cur_of (i := (36, 1, .aload_n 0, (0, 0, 0), 0)) (by decide +kernel)) g0_z hc_z
      replace hc_z := rn_iload_n (am_cur_of (i := (37, 1, .iload_n 3, (0, 0, 0), 0)) (by decide +kernel)) g3_z hc_z
      replace hc_z := rn_iload_n (am_cur_of (i := (38, 1, .iload_n 2, (0, 0, 0), 0)) (by decide +kernel)) g2_z hc_z
      replace hc_z := rn_iload_n (am_cur_of (i := (39, 1, .iload_n 1, (0, 0, 0), 0)) (by decide +kernel)) g1_z hc_z
      replace hc_z := rn_callV (M' := am_m105) (o := 0) (ar := [.int sc, .int bd, .int i]) (rest := []) (L := lv_args 0 [.ref 0, .int i, .int bd, .int sc]) (am_cur_of (i := (40, 3, .invokevirtual 276, (105, 1104, 3), 0)) (by decide +kernel)) rfl rfl rfl rfl hc_z
      obtain ⟨r63_z, h64_z, q65_z, hc_z⟩ := hc_z
      obtain ⟨n, x, q1_z, rr, q3_z, q4_z⟩ := sa_105_2 hL H0 H9 p0_z p9_z l0_z l9_z S0 S9 CC (by omega) (by omega) c0_z (by omega) q65_z
      subst rr
      have C2 : dC 2 h0_z Hd pf real pt s1_z lo h64_z := dC_k (by decide) q4_z CC
      replace hc_z : rn _ _ _ _ [.int x] _ _ _ := hc_z
      replace hc_z := rn_iload_n (am_cur_of (i := (43, 1, .iload_n 1, (0, 0, 0), 0)) (by decide +kernel)) g1_z hc_z
      replace hc_z := rn_cmp (am_cur_of (i := (44, 3, .if_icmp .lt 5, (28, 0, 0), 0)) (by decide +kernel)) hc_z
      rcases hc_z with ⟨b66_z, hc_z⟩ | ⟨b66_z, hc_z⟩
      · replace b66_z : x.toInt < sc.toInt := b66_z
        replace hc_z := rn_iinc (w := i + 1) (am_cur_of (i := (49, 3, .iinc 3 1, (0, 0, 0), 0)) (by decide +kernel)) g3_z rfl hc_z
        obtain ⟨_, s67_z, s68_z, g3_z, hc_z⟩ := hc_z
        replace g0_z := s67_z 0 _ (by decide) rfl g0_z
        replace g1_z := s67_z 1 _ (by decide) rfl g1_z
        replace g2_z := s67_z 2 _ (by decide) rfl g2_z
        clear s67_z s68_z
        replace hc_z := rn_gotoL (am_cur_of (i := (52, 3, .goto (-27), (14, 0, 0), 0)) (by decide +kernel)) hc_z
        obtain ⟨y, u1_z, u2_z⟩ := ih_z k (i + 1) _ _ C2 (by omega) (by omega) g0_z g1_z g2_z g3_z hc_z
        exact ⟨y, ⟨n, q1_z, Or.inr ⟨by omega, u1_z⟩⟩, u2_z⟩
      · replace b66_z : sc.toInt ≤ x.toInt := b66_z
        replace hc_z := rn_iload_n (am_cur_of (i := (47, 1, .iload_n 3, (0, 0, 0), 0)) (by decide +kernel)) g3_z hc_z
        replace hc_z := rn_iret (am_cur_of (i := (48, 1, .ireturn, (0, 0, 0), 0)) (by decide +kernel)) hc_z
        obtain ⟨e69_z, e70_z⟩ := hc_z
        exact ⟨i, ⟨n, q1_z, Or.inl ⟨by omega, rfl⟩⟩, e69_z⟩
theorem fi_106_2 {n : Nat} {r : Option Value} {h0_z g : am_H} {Hd pf real pt s1_z : Int32} {lo : Nat → Int32} {h h' : am_H} {sc bd : Int32} (hL : LW 2 h0_z g) (H0 : 0 ≤ Hd.toInt) (H9 : Hd.toInt ≤ 9999) (p0_z : 0 ≤ pf.toInt) (p9_z : pf.toInt ≤ 9999) (l0_z : 0 ≤ (leZ real pt lo).toInt) (l9_z : (leZ real pt lo).toInt ≤ 999) (S0 : 0 ≤ s1_z.toInt) (S9 : s1_z.toInt ≤ 99999) (C0 : dC 2 h0_z Hd pf real pt s1_z lo h) (hc_z : rn n am_m106 0 (lv_args 0 [.ref 0, .int sc, .int bd]) [] h r h') : (¬ (0 ≤ sc.toInt ∧ sc.toInt ≤ 60 ∧ 0 ≤ bd.toInt ∧ bd.toInt ≤ 9999) ∧ r = some (.int (-1))) ∨ ((0 ≤ sc.toInt ∧ sc.toInt ≤ 60 ∧ 0 ≤ bd.toInt ∧ bd.toInt ≤ 9999) ∧ ∃ x : Int32, fA (fun f n => lA (secZ 2 h0_z 0 Hd 0 pf (leZ real pt lo) 0) bd.toInt sc.toInt.toNat f s1_z n) sc.toInt (Hd.toInt.toNat + 1) 0 x ∧ r = some (.int x)) := by
  have z0_z : (0 : Int32).toInt = 0 := by decide
  have z60_z : (60 : Int32).toInt = 60 := by decide
  have z9999_z : (9999 : Int32).toInt = 9999 := by decide
  have g0_z : am_get (lv_args 0 [.ref 0, .int sc, .int bd]) 0 = some (.ref 0) := rfl
  have g1_z : am_get (lv_args 0 [.ref 0, .int sc, .int bd]) 1 = some (.int sc) := rfl
  have g2_z : am_get (lv_args 0 [.ref 0, .int sc, .int bd]) 2 = some (.int bd) := rfl
  replace hc_z := rn_iload_n (am_cur_of (i := (0, 1, .iload_n 1, (0, 0, 0), 0)) (by decide +kernel)) g1_z hc_z
  replace hc_z := rn_iconst (w := 0) (am_cur_of (i := (1, 1, .iconst 0, (0, 0, 0), 0)) (by decide +kernel)) (by decide) hc_z
  replace hc_z := rn_bipush (w := 60) (am_cur_of (i := (2, 2, .bipush 60, (0, 0, 0), 0)) (by decide +kernel)) (by decide) hc_z
  replace hc_z := rn_callS (M' := am_m62) (ar := [.int 60, .int 0, .int sc]) (rest := []) (L := lv_args 0 [.int sc, .int 0, .int 60]) (am_cur_of (i := (4, 3, .invokestatic 172, (62, 908, 3), 0)) (by decide +kernel)) rfl rfl rfl rfl hc_z
  obtain ⟨r71_z, h72_z, q73_z, hc_z⟩ := hc_z
  rcases sl_62 q73_z with ⟨b74_z, rfl, y75_z⟩ | ⟨b76_z, b77_z, rfl, y78_z⟩ | ⟨b79_z, b80_z, rfl, y81_z⟩
  · replace y75_z := y75_z.symm
    subst y75_z
    replace b74_z : sc.toInt < (0 : Int32).toInt := b74_z
    replace hc_z : rn _ _ _ _ [.int 0] _ _ _ := hc_z
    replace hc_z := rn_ifT (am_cur_of (i := (7, 3, .ifCond .eq 14, (10, 0, 0), 0)) (by decide +kernel)) (by decide) hc_z
    replace hc_z := rn_iconst (w := (-1)) (am_cur_of (i := (21, 1, .iconst (-1), (0, 0, 0), 0)) (by decide +kernel)) (by decide) hc_z
    replace hc_z := rn_iret (am_cur_of (i := (22, 1, .ireturn, (0, 0, 0), 0)) (by decide +kernel)) hc_z
    obtain ⟨e82_z, e83_z⟩ := hc_z
    exact Or.inl ⟨by omega, e82_z⟩
  · replace y78_z := y78_z.symm
    subst y78_z
    replace b76_z : (0 : Int32).toInt ≤ sc.toInt := b76_z
    replace b77_z : (60 : Int32).toInt < sc.toInt := b77_z
    replace hc_z : rn _ _ _ _ [.int 0] _ _ _ := hc_z
    replace hc_z := rn_ifT (am_cur_of (i := (7, 3, .ifCond .eq 14, (10, 0, 0), 0)) (by decide +kernel)) (by decide) hc_z
    replace hc_z := rn_iconst (w := (-1)) (am_cur_of (i := (21, 1, .iconst (-1), (0, 0, 0), 0)) (by decide +kernel)) (by decide) hc_z
    replace hc_z := rn_iret (am_cur_of (i := (22, 1, .ireturn, (0, 0, 0), 0)) (by decide +kernel)) hc_z
    obtain ⟨e84_z, e85_z⟩ := hc_z
    exact Or.inl ⟨by omega, e84_z⟩
  · replace y81_z := y81_z.symm
    subst y81_z
    replace b79_z : (0 : Int32).toInt ≤ sc.toInt := b79_z
    replace b80_z : sc.toInt ≤ (60 : Int32).toInt := b80_z
    replace hc_z : rn _ _ _ _ [.int 1] _ _ _ := hc_z
    replace hc_z := rn_ifF (am_cur_of (i := (7, 3, .ifCond .eq 14, (10, 0, 0), 0)) (by decide +kernel)) (by decide) hc_z
    replace hc_z := rn_iload_n (am_cur_of (i := (10, 1, .iload_n 2, (0, 0, 0), 0)) (by decide +kernel)) g2_z hc_z
    replace hc_z := rn_iconst (w := 0) (am_cur_of (i := (11, 1, .iconst 0, (0, 0, 0), 0)) (by decide +kernel)) (by decide) hc_z
    replace hc_z := rn_sipush (w := 9999) (am_cur_of (i := (12, 3, .sipush 9999, (0, 0, 0), 0)) (by decide +kernel)) (by decide) hc_z
    replace hc_z := rn_callS (M' := am_m62) (ar := [.int 9999, .int 0, .int bd]) (rest := []) (L := lv_args 0 [.int bd, .int 0, .int 9999]) (am_cur_of (i := (15, 3, .invokestatic 172, (62, 908, 3), 0)) (by decide +kernel)) rfl rfl rfl rfl hc_z
    obtain ⟨r86_z, h87_z, q88_z, hc_z⟩ := hc_z
    rcases sl_62 q88_z with ⟨b89_z, rfl, y90_z⟩ | ⟨b91_z, b92_z, rfl, y93_z⟩ | ⟨b94_z, b95_z, rfl, y96_z⟩
    · replace y90_z := y90_z.symm
      subst y90_z
      replace b89_z : bd.toInt < (0 : Int32).toInt := b89_z
      replace hc_z : rn _ _ _ _ [.int 0] _ _ _ := hc_z
      replace hc_z := rn_ifF (am_cur_of (i := (18, 3, .ifCond .ne 5, (12, 0, 0), 0)) (by decide +kernel)) (by decide) hc_z
      replace hc_z := rn_iconst (w := (-1)) (am_cur_of (i := (21, 1, .iconst (-1), (0, 0, 0), 0)) (by decide +kernel)) (by decide) hc_z
      replace hc_z := rn_iret (am_cur_of (i := (22, 1, .ireturn, (0, 0, 0), 0)) (by decide +kernel)) hc_z
      obtain ⟨e97_z, e98_z⟩ := hc_z
      exact Or.inl ⟨by omega, e97_z⟩
    · replace y93_z := y93_z.symm
      subst y93_z
      replace b91_z : (0 : Int32).toInt ≤ bd.toInt := b91_z
      replace b92_z : (9999 : Int32).toInt < bd.toInt := b92_z
      replace hc_z : rn _ _ _ _ [.int 0] _ _ _ := hc_z
      replace hc_z := rn_ifF (am_cur_of (i := (18, 3, .ifCond .ne 5, (12, 0, 0), 0)) (by decide +kernel)) (by decide) hc_z
      replace hc_z := rn_iconst (w := (-1)) (am_cur_of (i := (21, 1, .iconst (-1), (0, 0, 0), 0)) (by decide +kernel)) (by decide) hc_z
      replace hc_z := rn_iret (am_cur_of (i := (22, 1, .ireturn, (0, 0, 0), 0)) (by decide +kernel)) hc_z
      obtain ⟨e99_z, e100_z⟩ := hc_z
      exact Or.inl ⟨by omega, e99_z⟩
    · replace y96_z := y96_z.symm
      subst y96_z
      replace b94_z : (0 : Int32).toInt ≤ bd.toInt := b94_z
      replace b95_z : bd.toInt ≤ (9999 : Int32).toInt := b95_z
      replace hc_z : rn _ _ _ _ [.int 1] _ _ _ := hc_z
      replace hc_z := rn_ifT (am_cur_of (i := (18, 3, .ifCond .ne 5, (12, 0, 0), 0)) (by decide +kernel)) (by decide) hc_z
      replace hc_z := rn_iconst (w := 0) (am_cur_of (i := (23, 1, .iconst 0, (0, 0, 0), 0)) (by decide +kernel)) (by decide) hc_z
      replace hc_z := rn_istore_n (am_cur_of (i := (24, 1, .istore_n 3, (0, 0, 0), 0)) (by decide +kernel)) hc_z
      obtain ⟨_, s101_z, s102_z, g3_z, hc_z⟩ := hc_z
      replace g0_z := s101_z 0 _ (by decide) rfl g0_z
      replace g1_z := s101_z 1 _ (by decide) rfl g1_z
      replace g2_z := s101_z 2 _ (by decide) rfl g2_z
      clear s101_z s102_z
      obtain ⟨x, q1_z, q2_z⟩ := fi_l2 (sc := sc) (bd := bd) hL H0 H9 p0_z p9_z l0_z l9_z S0 S9 (by omega) (by omega) _ (Hd.toInt.toNat + 1) 0 _ _ C0 (by decide) (by omega) g0_z g1_z g2_z g3_z hc_z
      exact Or.inr ⟨by omega, x, q1_z, q2_z⟩
theorem gz_75_23_0 {n : Nat} {r : Option Value} {h h' : am_H} {m F S : Int32} {h0_z g : am_H} {Hd pf real pt lim pu U : Int32} {lo : Nat → Int32} (hL : LW 23 h0_z g) (C : sC 23 h0_z Hd pf real pt lim pu U lo h) (eF : rg_v h 149 0 = F) (eS : rg_v h 149 1 = S) (H0 : 0 ≤ Hd.toInt) (H9 : Hd.toInt ≤ 9999) (p0_z : 0 ≤ pf.toInt) (p9_z : pf.toInt ≤ 9999) (l0_z : 0 ≤ (leZ real pt lo).toInt) (l9_z : (leZ real pt lo).toInt ≤ 999) (F0 : 0 ≤ F.toInt) (F9 : F.toInt ≤ 99999) (S0 : 0 ≤ S.toInt) (m0_z : 0 ≤ m.toInt) (S9 : S.toInt + m.toInt < 2147483647) (L9 : S.toInt + m.toInt ≤ lim.toInt) (hc_z : rn n am_m75 0 (lv_args 0 [.ref 148, .int m, .int 0]) [] h r h') : ∃ F2 : Int32, r = some (.int 1) ∧ gR (secZ 23 h0_z U Hd pu pf (leZ real pt lo) 0) m.toInt.toNat F S F2 ∧ rg_v h' 149 0 = F2 ∧ (rg_v h' 149 1).toInt = S.toInt + m.toInt ∧ gF 148 23 h h' ∧ sC 23 h0_z Hd pf real pt lim pu U lo h' := by
  have CC := C
  obtain ⟨c0_z, c1_z, c2_z, c3_z, c4_z, c5_z, c6_z, c7_z, c8_z, c9_z⟩ := C
  have eLo : (fun q => rg_v h 28 q) = lo := funext (fun q => c9_z q)
  obtain ⟨j, F2, le2_z, j1_z, j2_z, j3_z, j4_z, j5_z, j6_z, j7_z, j8_z, j9_z⟩ := gf_75_148_23_0 (le := rg_v h 148 6) c0_z hL c1_z c2_z eF eS c3_z c4_z c5_z c6_z rfl c7_z c8_z H0 H9 p0_z p9_z F0 F9 S0 m0_z S9 (by rw [eLo]; exact l0_z) (by rw [eLo]; exact l9_z) hc_z
  have em : j = m.toInt.toNat ∧ r = some (.int 1) := by
    rcases j2_z with j2_z | ⟨jl, -, jb⟩
    · exact j2_z
    · exfalso
      omega
  rw [em.1, eLo] at j4_z
  exact ⟨F2, em.2, j4_z, j6_z, by rw [j7_z, em.1]; omega, j9_z, sC_k (by decide) (fun o k a b c d e => j9_z o k a b (by omega) e) CC⟩
theorem gz_75_23_1 {n : Nat} {r : Option Value} {h h' : am_H} {m F S : Int32} {h0_z g : am_H} {Hd pf real pt lim pu U : Int32} {lo : Nat → Int32} (hL : LW 23 h0_z g) (C : sC 23 h0_z Hd pf real pt lim pu U lo h) (eF : rg_v h 149 0 = F) (eS : rg_v h 149 1 = S) (H0 : 0 ≤ Hd.toInt) (H9 : Hd.toInt ≤ 9999) (p0_z : 0 ≤ pf.toInt) (p9_z : pf.toInt ≤ 9999) (l0_z : 0 ≤ (leZ real pt lo).toInt) (l9_z : (leZ real pt lo).toInt ≤ 999) (F0 : 0 ≤ F.toInt) (F9 : F.toInt ≤ 99999) (S0 : 0 ≤ S.toInt) (m0_z : 0 ≤ m.toInt) (S9 : S.toInt + m.toInt < 2147483647) (L9 : S.toInt + m.toInt ≤ lim.toInt) (hc_z : rn n am_m75 0 (lv_args 0 [.ref 148, .int m, .int 1]) [] h r h') : ∃ F2 : Int32, r = some (.int 1) ∧ gR (secZ 23 h0_z U Hd pu pf (leZ real pt lo) 1) m.toInt.toNat F S F2 ∧ rg_v h' 149 0 = F2 ∧ (rg_v h' 149 1).toInt = S.toInt + m.toInt ∧ gF 148 23 h h' ∧ sC 23 h0_z Hd pf real pt lim pu U lo h' := by
  have CC := C
  obtain ⟨c0_z, c1_z, c2_z, c3_z, c4_z, c5_z, c6_z, c7_z, c8_z, c9_z⟩ := C
  have eLo : (fun q => rg_v h 28 q) = lo := funext (fun q => c9_z q)
  obtain ⟨j, F2, le2_z, j1_z, j2_z, j3_z, j4_z, j5_z, j6_z, j7_z, j8_z, j9_z⟩ := gf_75_148_23_1 (le := rg_v h 148 6) c0_z hL c1_z c2_z eF eS c3_z c4_z c5_z c6_z rfl c7_z c8_z H0 H9 p0_z p9_z F0 F9 S0 m0_z S9 (by rw [eLo]; exact l0_z) (by rw [eLo]; exact l9_z) hc_z
  have em : j = m.toInt.toNat ∧ r = some (.int 1) := by
    rcases j2_z with j2_z | ⟨jl, -, jb⟩
    · exact j2_z
    · exfalso
      omega
  rw [em.1, eLo] at j4_z
  exact ⟨F2, em.2, j4_z, j6_z, by rw [j7_z, em.1]; omega, j9_z, sC_k (by decide) (fun o k a b c d e => j9_z o k a b (by omega) e) CC⟩
theorem sa_l23 {r : Option Value} {h' : am_H} {bd mo : Int32} {h0_z g : am_H} {Hd pf real pt lim pu U : Int32} {lo : Nat → Int32} (hL : LW 23 h0_z g) (H0 : 0 ≤ Hd.toInt) (H9 : Hd.toInt ≤ 9999) (p0_z : 0 ≤ pf.toInt) (p9_z : pf.toInt ≤ 9999) (l0_z : 0 ≤ (leZ real pt lo).toInt) (l9_z : (leZ real pt lo).toInt ≤ 999) : ∀ (f k : Nat) (i F S : Int32) (ls : am_L) (h : am_H), sC 23 h0_z Hd pf real pt lim pu U lo h → rg_v h 149 0 = F → rg_v h 149 1 = S → 0 ≤ F.toInt → F.toInt ≤ 9999 → 0 ≤ S.toInt → S.toInt + k < 2147483647 → S.toInt + k ≤ lim.toInt → am_get ls 0 = some (.ref 0) → am_get ls 2 = some (.int bd) → am_get ls 3 = some (.int mo) → am_get ls 4 = some (.int i) → i.toInt + k = mo.toInt → rn f am_m105 14 ls [] h r h' → ∃ (n : Nat) (x : Int32), lA (secZ 23 h0_z U Hd pu pf (leZ real pt lo) 0) bd.toInt k F S n ∧ r = some (.int x) ∧ x.toInt = i.toInt + n ∧ ∀ o k, ¬ o = 38 → ¬ o = 39 → ¬ (148 ≤ o ∧ o ≤ 152) → h' o k = h o k := by
  intro f
  induction f with
  | zero => intro k i F S ls h C eF eS F0 F9 S0 S9 L9 g0_z g2_z g3_z g4_z ik hc_z; exact absurd hc_z rn_0
  | succ f ih_z =>
    intro k i F S ls h C eF eS F0 F9 S0 S9 L9 g0_z g2_z g3_z g4_z ik hc_z
    have z0_z : (0 : Int32).toInt = 0 := by decide
    have z1_z : (1 : Int32).toInt = 1 := by decide
    replace hc_z := rn_iload (am_cur_of (i := (29, 2, .iload 4, (0, 0, 0), 0)) (by decide +kernel)) g4_z hc_z
    replace hc_z := rn_iload_n (am_cur_of (i := (31, 1, .iload_n 3, (0, 0, 0), 0)) (by decide +kernel)) g3_z hc_z
    replace hc_z := rn_cmp (am_cur_of (i := (32, 3, .if_icmp .ge 33, (31, 0, 0), 0)) (by decide +kernel)) hc_z
    rcases hc_z with ⟨b103_z, hc_z⟩ | ⟨b103_z, hc_z⟩
    · replace b103_z : mo.toInt ≤ i.toInt := b103_z
      obtain rfl : k = 0 := by omega
      replace hc_z := rn_iload (am_cur_of (i := (65, 2, .iload 4, (0, 0, 0), 0)) (by decide +kernel)) g4_z hc_z
      replace hc_z := rn_iret (am_cur_of (i := (67, 1, .ireturn, (0, 0, 0), 0)) (by decide +kernel)) hc_z
      obtain ⟨e104_z, e105_z⟩ := hc_z
      exact ⟨0, i, rfl, e104_z, by omega, fun o k _ _ _ => by rw [e105_z]⟩
    · replace b103_z : i.toInt < mo.toInt := b103_z
      obtain ⟨k, rfl⟩ : ∃ k2_z, k = k2_z + 1 := ⟨k - 1, by omega⟩
      have ci_z := fk_c1 b103_z
      have cs := ab_iadd (x := S) (y := 1) (by omega) (by omega)
      replace hc_z := rn_aload_n (am_cur_of (i := (35, 1, .aload_n 0, (0, 0, 0), 0)) (by decide +kernel)) g0_z hc_z
      replace hc_z := rn_getR (x := 148) (am_cur_of (i := (36, 3, .getfield 64, (0, 11, 672), 0)) (by decide +kernel)) (by decide +kernel) hc_z
      replace hc_z := rn_getR (x := 149) (am_cur_of (i := (39, 3, .getfield 216, (8, 1, 572), 0)) (by decide +kernel)) (by decide +kernel) hc_z
      replace hc_z := rn_getI (v := F) (am_cur_of (i := (42, 3, .getfield 222, (5, 0, 466), 0)) (by decide +kernel)) (by decide +kernel) eF hc_z
      replace hc_z := rn_iload_n (am_cur_of (i := (45, 1, .iload_n 2, (0, 0, 0), 0)) (by decide +kernel)) g2_z hc_z
      replace hc_z := rn_cmp (am_cur_of (i := (46, 3, .if_icmp .lt 19, (31, 0, 0), 0)) (by decide +kernel)) hc_z
      rcases hc_z with ⟨b106_z, hc_z⟩ | ⟨b106_z, hc_z⟩
      · replace b106_z : F.toInt < bd.toInt := b106_z
        replace hc_z := rn_iload (am_cur_of (i := (65, 2, .iload 4, (0, 0, 0), 0)) (by decide +kernel)) g4_z hc_z
        replace hc_z := rn_iret (am_cur_of (i := (67, 1, .ireturn, (0, 0, 0), 0)) (by decide +kernel)) hc_z
        obtain ⟨e107_z, e108_z⟩ := hc_z
        exact ⟨0, i, Or.inl ⟨by omega, rfl⟩, e107_z, by omega, fun o k _ _ _ => by rw [e108_z]⟩
      · replace b106_z : bd.toInt ≤ F.toInt := b106_z
        replace hc_z := rn_aload_n (am_cur_of (i := (49, 1, .aload_n 0, (0, 0, 0), 0)) (by decide +kernel)) g0_z hc_z
        replace hc_z := rn_getR (x := 148) (am_cur_of (i := (50, 3, .getfield 64, (0, 11, 672), 0)) (by decide +kernel)) (by decide +kernel) hc_z
        replace hc_z := rn_iconst (w := 1) (am_cur_of (i := (53, 1, .iconst 1, (0, 0, 0), 0)) (by decide +kernel)) (by decide) hc_z
        replace hc_z := rn_iconst (w := 0) (am_cur_of (i := (54, 1, .iconst 0, (0, 0, 0), 0)) (by decide +kernel)) (by decide) hc_z
        replace hc_z := rn_callV (M' := am_m75) (o := 148) (ar := [.int 0, .int 1]) (rest := []) (L := lv_args 0 [.ref 148, .int 1, .int 0]) (am_cur_of (i := (55, 3, .invokevirtual 225, (75, 1007, 3), 0)) (by decide +kernel)) rfl rfl rfl rfl hc_z
        obtain ⟨r109_z, h110_z, q111_z, hc_z⟩ := hc_z
        obtain ⟨F2, rr, j4_z, j6_z, j7_z, j9_z, C2⟩ := gz_75_23_0 hL C eF eS H0 H9 p0_z p9_z l0_z l9_z F0 (by omega) S0 (by omega) (by omega) (by omega) q111_z
        subst rr
        rw [show (1 : Int32).toInt.toNat = 1 by decide] at j4_z
        obtain ⟨F1, f1_z, f2_z⟩ := j4_z
        have f3_z : F2 = F1 := f2_z
        subst f3_z
        have zr := secZ_r (p := 23) (h0_z := h0_z) (U := U) (pu := pu) (S := S) (o := 0) H0 H9 p0_z l0_z F0 F9 (by decide)
        rw [← f1_z] at zr
        have eS2 : rg_v h110_z 149 1 = S + 1 := Int32.toInt_inj.mp (by rw [j7_z, cs])
        replace hc_z : rn _ _ _ _ [.int 1] _ _ _ := hc_z
        replace hc_z := rn_pop (am_cur_of (i := (58, 1, .pop, (0, 0, 0), 0)) (by decide +kernel)) hc_z
        replace hc_z := rn_iinc (w := i + 1) (am_cur_of (i := (59, 3, .iinc 4 1, (0, 0, 0), 0)) (by decide +kernel)) g4_z rfl hc_z
        obtain ⟨_, s112_z, s113_z, g4_z, hc_z⟩ := hc_z
        replace g0_z := s112_z 0 _ (by decide) rfl g0_z
        replace g2_z := s112_z 2 _ (by decide) rfl g2_z
        replace g3_z := s112_z 3 _ (by decide) rfl g3_z
        clear s112_z s113_z
        replace hc_z := rn_gotoL (am_cur_of (i := (62, 3, .goto (-33), (14, 0, 0), 0)) (by decide +kernel)) hc_z
        obtain ⟨n, x, q1_z, q2_z, q3_z, q4_z⟩ := ih_z k (i + 1) F2 (S + 1) _ _ C2 j6_z eS2 zr.1 zr.2 (by omega) (by omega) (by omega) g0_z g2_z g3_z g4_z (by omega) hc_z
        exact ⟨n + 1, x, Or.inr ⟨by omega, F2, n, f1_z, q1_z, rfl⟩, q2_z, by omega, fun o k a b c => (q4_z o k a b c).trans (j9_z o k a b (by omega) (by omega))⟩
theorem sa_105_23 {n : Nat} {r : Option Value} {h0_z g : am_H} {Hd pf real pt s1_z : Int32} {lo : Nat → Int32} {h h' : am_H} {fr bd mo : Int32} (hL : LW 23 h0_z g) (H0 : 0 ≤ Hd.toInt) (H9 : Hd.toInt ≤ 9999) (p0_z : 0 ≤ pf.toInt) (p9_z : pf.toInt ≤ 9999) (l0_z : 0 ≤ (leZ real pt lo).toInt) (l9_z : (leZ real pt lo).toInt ≤ 999) (S0 : 0 ≤ s1_z.toInt) (S9 : s1_z.toInt ≤ 99999) (C0 : dC 23 h0_z Hd pf real pt s1_z lo h) (F0 : 0 ≤ fr.toInt) (F9 : fr.toInt ≤ 9999) (m0_z : 0 ≤ mo.toInt) (m9_z : mo.toInt ≤ 9999) (hc_z : rn n am_m105 0 (lv_args 0 [.ref 0, .int fr, .int bd, .int mo]) [] h r h') : ∃ (n : Nat) (x : Int32), lA (secZ 23 h0_z 0 Hd 0 pf (leZ real pt lo) 0) bd.toInt mo.toInt.toNat fr s1_z n ∧ r = some (.int x) ∧ x.toInt = n ∧ ∀ o k, ¬ o = 38 → ¬ o = 39 → ¬ (148 ≤ o ∧ o ≤ 152) → h' o k = h o k := by
  have z0_z : (0 : Int32).toInt = 0 := by decide
  have z2147483647_z : (2147483647 : Int32).toInt = 2147483647 := by decide
  obtain ⟨d0_z, d1_z, d2_z, d3_z, d4_z, d5_z, d6_z, d7_z⟩ := C0
  have g0_z : am_get (lv_args 0 [.ref 0, .int fr, .int bd, .int mo]) 0 = some (.ref 0) := rfl
  have g1_z : am_get (lv_args 0 [.ref 0, .int fr, .int bd, .int mo]) 1 = some (.int fr) := rfl
  have g2_z : am_get (lv_args 0 [.ref 0, .int fr, .int bd, .int mo]) 2 = some (.int bd) := rfl
  have g3_z : am_get (lv_args 0 [.ref 0, .int fr, .int bd, .int mo]) 3 = some (.int mo) := rfl
  replace hc_z := rn_aload_n (am_cur_of (i := (0, 1, .aload_n 0, (0, 0, 0), 0)) (by decide +kernel)) g0_z hc_z
  replace hc_z := rn_getR (x := 148) (am_cur_of (i := (1, 3, .getfield 64, (0, 11, 672), 0)) (by decide +kernel)) (by decide +kernel) hc_z
  replace hc_z := rn_aload_n (am_cur_of (i := (4, 1, .aload_n 0, (0, 0, 0), 0)) (by decide +kernel)) g0_z hc_z
  replace hc_z := rn_getM (x := 23) (am_cur_of (i := (5, 3, .getfield 18, (0, 2, 663), 0)) (by decide +kernel)) d0_z hc_z
  replace hc_z := rn_aload_n (am_cur_of (i := (8, 1, .aload_n 0, (0, 0, 0), 0)) (by decide +kernel)) g0_z hc_z
  replace hc_z := rn_getR (x := 48) (am_cur_of (i := (9, 3, .getfield 37, (0, 5, 666), 0)) (by decide +kernel)) (by decide +kernel) hc_z
  replace hc_z := rn_callV (M' := am_m63) (o := 148) (ar := [.ref 48, .ref 23]) (rest := []) (L := lv_args 0 [.ref 148, .ref 23, .ref 48]) (am_cur_of (i := (12, 3, .invokevirtual 146, (63, 912, 3), 0)) (by decide +kernel)) rfl rfl rfl rfl hc_z
  obtain ⟨r114_z, h115_z, q116_z, hc_z⟩ := hc_z
  have vo := rn_void rfl q116_z
  subst vo
  obtain ⟨b1_z, b5_z, b2_z, b3_z, b4_z, bS, bf⟩ := se_63_23 q116_z
  have C1 : sC 23 h0_z Hd pf real pt 2147483647 0 0 lo h115_z := ⟨b1_z, fun o q a_ b_ => (lw_v (bf o q (by omega))).trans (d1_z o q a_ b_), b5_z, (lw_v (bf 23 0 (by decide))).trans d2_z, b3_z, b4_z, (lw_v (bf 23 7 (by decide))).trans d3_z, b2_z.trans d4_z, (bS 4 (by decide)).trans d5_z, fun q => (lw_v (bf 28 q (by omega))).trans (d7_z q)⟩
  have eS : rg_v h115_z 149 1 = s1_z := (bS 1 (by decide)).trans d6_z
  replace hc_z : rn _ _ _ _ [] _ _ _ := hc_z
  replace hc_z := rn_aload_n (am_cur_of (i := (15, 1, .aload_n 0, (0, 0, 0), 0)) (by decide +kernel)) g0_z hc_z
  replace hc_z := rn_getR (x := 148) (am_cur_of (i := (16, 3, .getfield 64, (0, 11, 672), 0)) (by decide +kernel)) (by decide +kernel) hc_z
  replace hc_z := rn_getR (x := 149) (am_cur_of (i := (19, 3, .getfield 216, (8, 1, 572), 0)) (by decide +kernel)) (by decide +kernel) hc_z
  replace hc_z := rn_iload_n (am_cur_of (i := (22, 1, .iload_n 1, (0, 0, 0), 0)) (by decide +kernel)) g1_z hc_z
  replace hc_z := rn_put (am_cur_of (i := (23, 3, .putfield 222, (5, 0, 466), 0)) (by decide +kernel)) (by decide +kernel) hc_z
  replace hc_z := rn_iconst (w := 0) (am_cur_of (i := (26, 1, .iconst 0, (0, 0, 0), 0)) (by decide +kernel)) (by decide) hc_z
  replace hc_z := rn_istore (am_cur_of (i := (27, 2, .istore 4, (0, 0, 0), 0)) (by decide +kernel)) hc_z
  obtain ⟨_, s117_z, s118_z, g4_z, hc_z⟩ := hc_z
  replace g0_z := s117_z 0 _ (by decide) rfl g0_z
  replace g1_z := s117_z 1 _ (by decide) rfl g1_z
  replace g2_z := s117_z 2 _ (by decide) rfl g2_z
  replace g3_z := s117_z 3 _ (by decide) rfl g3_z
  clear s117_z s118_z
  have C2 : sC 23 h0_z Hd pf real pt 2147483647 0 0 lo (am_up h115_z 149 0 (.int fr)) := sC_k (by decide) (fun o k a b c d e => up_ne (by omega)) C1
  obtain ⟨n, x, q1_z, q2_z, q3_z, q4_z⟩ := sa_l23 hL H0 H9 p0_z p9_z l0_z l9_z _ mo.toInt.toNat 0 fr s1_z _ _ C2 rg_v_self ((rg_v_other (by omega)).trans eS) F0 F9 S0 (by omega) (by omega) g0_z g2_z g3_z g4_z (by omega) hc_z
  exact ⟨n, x, q1_z, q2_z, by omega, fun o k a b c => (q4_z o k a b c).trans ((up_ne (by omega)).trans (bf o k c))⟩
theorem la_104_23 {n : Nat} {r : Option Value} {h0_z g : am_H} {Hd pf real pt s1_z : Int32} {lo : Nat → Int32} {h h' : am_H} {fr bd : Int32} (hL : LW 23 h0_z g) (H0 : 0 ≤ Hd.toInt) (H9 : Hd.toInt ≤ 9999) (p0_z : 0 ≤ pf.toInt) (p9_z : pf.toInt ≤ 9999) (l0_z : 0 ≤ (leZ real pt lo).toInt) (l9_z : (leZ real pt lo).toInt ≤ 999) (S0 : 0 ≤ s1_z.toInt) (S9 : s1_z.toInt ≤ 99999) (C0 : dC 23 h0_z Hd pf real pt s1_z lo h) (hc_z : rn n am_m104 0 (lv_args 0 [.ref 0, .int fr, .int bd]) [] h r h') : (¬ (0 ≤ fr.toInt ∧ fr.toInt ≤ Hd.toInt ∧ 0 ≤ bd.toInt ∧ bd.toInt ≤ 9999) ∧ r = some (.int (-1))) ∨ ((0 ≤ fr.toInt ∧ fr.toInt ≤ Hd.toInt ∧ 0 ≤ bd.toInt ∧ bd.toInt ≤ 9999) ∧ ∃ (n : Nat) (x : Int32), lA (secZ 23 h0_z 0 Hd 0 pf (leZ real pt lo) 0) bd.toInt 3600 fr s1_z n ∧ r = some (.int x) ∧ x.toInt = n) := by
  have z0_z : (0 : Int32).toInt = 0 := by decide
  have z3600_z : (3600 : Int32).toInt = 3600 := by decide
  have z9999_z : (9999 : Int32).toInt = 9999 := by decide
  have CC := C0
  obtain ⟨d0_z, d1_z, d2_z, d3_z, d4_z, d5_z, d6_z, d7_z⟩ := C0
  have g0_z : am_get (lv_args 0 [.ref 0, .int fr, .int bd]) 0 = some (.ref 0) := rfl
  have g1_z : am_get (lv_args 0 [.ref 0, .int fr, .int bd]) 1 = some (.int fr) := rfl
  have g2_z : am_get (lv_args 0 [.ref 0, .int fr, .int bd]) 2 = some (.int bd) := rfl
  replace hc_z := rn_iload_n (am_cur_of (i := (0, 1, .iload_n 1, (0, 0, 0), 0)) (by decide +kernel)) g1_z hc_z
  replace hc_z := rn_iconst (w := 0) (am_cur_of (i := (1, 1, .iconst 0, (0, 0, 0), 0)) (by decide +kernel)) (by decide) hc_z
  replace hc_z := rn_aload_n (am_cur_of (i := (2, 1, .aload_n 0, (0, 0, 0), 0)) (by decide +kernel)) g0_z hc_z
  replace hc_z := rn_getM (x := 23) (am_cur_of (i := (3, 3, .getfield 18, (0, 2, 663), 0)) (by decide +kernel)) d0_z hc_z
  replace hc_z := rn_getI (v := Hd) (am_cur_of (i := (6, 3, .getfield 273, (1, 0, 251), 0)) (by decide +kernel)) (by decide +kernel) d2_z hc_z
  replace hc_z := rn_callS (M' := am_m62) (ar := [.int Hd, .int 0, .int fr]) (rest := []) (L := lv_args 0 [.int fr, .int 0, .int Hd]) (am_cur_of (i := (9, 3, .invokestatic 172, (62, 908, 3), 0)) (by decide +kernel)) rfl rfl rfl rfl hc_z
  obtain ⟨r119_z, h120_z, q121_z, hc_z⟩ := hc_z
  rcases sl_62 q121_z with ⟨b122_z, rfl, y123_z⟩ | ⟨b124_z, b125_z, rfl, y126_z⟩ | ⟨b127_z, b128_z, rfl, y129_z⟩
  · replace y123_z := y123_z.symm
    subst y123_z
    replace b122_z : fr.toInt < (0 : Int32).toInt := b122_z
    replace hc_z : rn _ _ _ _ [.int 0] _ _ _ := hc_z
    replace hc_z := rn_ifT (am_cur_of (i := (12, 3, .ifCond .eq 14, (12, 0, 0), 0)) (by decide +kernel)) (by decide) hc_z
    replace hc_z := rn_iconst (w := (-1)) (am_cur_of (i := (26, 1, .iconst (-1), (0, 0, 0), 0)) (by decide +kernel)) (by decide) hc_z
    replace hc_z := rn_iret (am_cur_of (i := (27, 1, .ireturn, (0, 0, 0), 0)) (by decide +kernel)) hc_z
    obtain ⟨e130_z, e131_z⟩ := hc_z
    exact Or.inl ⟨by omega, e130_z⟩
  · replace y126_z := y126_z.symm
    subst y126_z
    replace b124_z : (0 : Int32).toInt ≤ fr.toInt := b124_z
    replace b125_z : Hd.toInt < fr.toInt := b125_z
    replace hc_z : rn _ _ _ _ [.int 0] _ _ _ := hc_z
    replace hc_z := rn_ifT (am_cur_of (i := (12, 3, .ifCond .eq 14, (12, 0, 0), 0)) (by decide +kernel)) (by decide) hc_z
    replace hc_z := rn_iconst (w := (-1)) (am_cur_of (i := (26, 1, .iconst (-1), (0, 0, 0), 0)) (by decide +kernel)) (by decide) hc_z
    replace hc_z := rn_iret (am_cur_of (i := (27, 1, .ireturn, (0, 0, 0), 0)) (by decide +kernel)) hc_z
    obtain ⟨e132_z, e133_z⟩ := hc_z
    exact Or.inl ⟨by omega, e132_z⟩
  · replace y129_z := y129_z.symm
    subst y129_z
    replace b127_z : (0 : Int32).toInt ≤ fr.toInt := b127_z
    replace b128_z : fr.toInt ≤ Hd.toInt := b128_z
    replace hc_z : rn _ _ _ _ [.int 1] _ _ _ := hc_z
    replace hc_z := rn_ifF (am_cur_of (i := (12, 3, .ifCond .eq 14, (12, 0, 0), 0)) (by decide +kernel)) (by decide) hc_z
    replace hc_z := rn_iload_n (am_cur_of (i := (15, 1, .iload_n 2, (0, 0, 0), 0)) (by decide +kernel)) g2_z hc_z
    replace hc_z := rn_iconst (w := 0) (am_cur_of (i := (16, 1, .iconst 0, (0, 0, 0), 0)) (by decide +kernel)) (by decide) hc_z
    replace hc_z := rn_sipush (w := 9999) (am_cur_of (i := (17, 3, .sipush 9999, (0, 0, 0), 0)) (by decide +kernel)) (by decide) hc_z
    replace hc_z := rn_callS (M' := am_m62) (ar := [.int 9999, .int 0, .int bd]) (rest := []) (L := lv_args 0 [.int bd, .int 0, .int 9999]) (am_cur_of (i := (20, 3, .invokestatic 172, (62, 908, 3), 0)) (by decide +kernel)) rfl rfl rfl rfl hc_z
    obtain ⟨r134_z, h135_z, q136_z, hc_z⟩ := hc_z
    rcases sl_62 q136_z with ⟨b137_z, rfl, y138_z⟩ | ⟨b139_z, b140_z, rfl, y141_z⟩ | ⟨b142_z, b143_z, rfl, y144_z⟩
    · replace y138_z := y138_z.symm
      subst y138_z
      replace b137_z : bd.toInt < (0 : Int32).toInt := b137_z
      replace hc_z : rn _ _ _ _ [.int 0] _ _ _ := hc_z
      replace hc_z := rn_ifF (am_cur_of (i := (23, 3, .ifCond .ne 5, (14, 0, 0), 0)) (by decide +kernel)) (by decide) hc_z
      replace hc_z := rn_iconst (w := (-1)) (am_cur_of (i := (26, 1, .iconst (-1), (0, 0, 0), 0)) (by decide +kernel)) (by decide) hc_z
      replace hc_z := rn_iret (am_cur_of (i := (27, 1, .ireturn, (0, 0, 0), 0)) (by decide +kernel)) hc_z
      obtain ⟨e145_z, e146_z⟩ := hc_z
      exact Or.inl ⟨by omega, e145_z⟩
    · replace y141_z := y141_z.symm
      subst y141_z
      replace b139_z : (0 : Int32).toInt ≤ bd.toInt := b139_z
      replace b140_z : (9999 : Int32).toInt < bd.toInt := b140_z
      replace hc_z : rn _ _ _ _ [.int 0] _ _ _ := hc_z
      replace hc_z := rn_ifF (am_cur_of (i := (23, 3, .ifCond .ne 5, (14, 0, 0), 0)) (by decide +kernel)) (by decide) hc_z
      replace hc_z := rn_iconst (w := (-1)) (am_cur_of (i := (26, 1, .iconst (-1), (0, 0, 0), 0)) (by decide +kernel)) (by decide) hc_z
      replace hc_z := rn_iret (am_cur_of (i := (27, 1, .ireturn, (0, 0, 0), 0)) (by decide +kernel)) hc_z
      obtain ⟨e147_z, e148_z⟩ := hc_z
      exact Or.inl ⟨by omega, e147_z⟩
    · replace y144_z := y144_z.symm
      subst y144_z
      replace b142_z : (0 : Int32).toInt ≤ bd.toInt := b142_z
      replace b143_z : bd.toInt ≤ (9999 : Int32).toInt := b143_z
      replace hc_z : rn _ _ _ _ [.int 1] _ _ _ := hc_z
      replace hc_z := rn_ifT (am_cur_of (i := (23, 3, .ifCond .ne 5, (14, 0, 0), 0)) (by decide +kernel)) (by decide) hc_z
      replace hc_z := rn_aload_n (am_cur_of (i := (28, 1, .aload_n 0, (0, 0, 0), 0)) (by decide +kernel)) g0_z hc_z
      replace hc_z := rn_iload_n (am_cur_of (i := (29, 1, .iload_n 1, (0, 0, 0), 0)) (by decide +kernel)) g1_z hc_z
      replace hc_z := rn_iload_n (am_cur_of (i := (30, 1, .iload_n 2, (0, 0, 0), 0)) (by decide +kernel)) g2_z hc_z
      replace hc_z := rn_sipush (w := 3600) (am_cur_of (i := (31, 3, .sipush 3600, (0, 0, 0), 0)) (by decide +kernel)) (by decide) hc_z
      replace hc_z := rn_callV (M' := am_m105) (o := 0) (ar := [.int 3600, .int bd, .int fr]) (rest := []) (L := lv_args 0 [.ref 0, .int fr, .int bd, .int 3600]) (am_cur_of (i := (34, 3, .invokevirtual 276, (105, 1104, 3), 0)) (by decide +kernel)) rfl rfl rfl rfl hc_z
      obtain ⟨r149_z, h150_z, q151_z, hc_z⟩ := hc_z
      obtain ⟨n, x, q1_z, rr, q3_z, -⟩ := sa_105_23 hL H0 H9 p0_z p9_z l0_z l9_z S0 S9 CC (by omega) (by omega) (by decide) (by decide) q151_z
      subst rr
      rw [show (3600 : Int32).toInt.toNat = 3600 by decide] at q1_z
      replace hc_z : rn _ _ _ _ [.int x] _ _ _ := hc_z
      replace hc_z := rn_iret (am_cur_of (i := (37, 1, .ireturn, (0, 0, 0), 0)) (by decide +kernel)) hc_z
      obtain ⟨e152_z, e153_z⟩ := hc_z
      exact Or.inr ⟨by omega, n, x, q1_z, e152_z, q3_z⟩
theorem fi_l23 {r : Option Value} {h0_z g : am_H} {Hd pf real pt s1_z : Int32} {lo : Nat → Int32} {h' : am_H} {bd sc : Int32} (hL : LW 23 h0_z g) (H0 : 0 ≤ Hd.toInt) (H9 : Hd.toInt ≤ 9999) (p0_z : 0 ≤ pf.toInt) (p9_z : pf.toInt ≤ 9999) (l0_z : 0 ≤ (leZ real pt lo).toInt) (l9_z : (leZ real pt lo).toInt ≤ 999) (S0 : 0 ≤ s1_z.toInt) (S9 : s1_z.toInt ≤ 99999) (c0_z : 0 ≤ sc.toInt) (c9_z : sc.toInt ≤ 60) : ∀ (f k : Nat) (i : Int32) (ls : am_L) (h : am_H), dC 23 h0_z Hd pf real pt s1_z lo h → 0 ≤ i.toInt → i.toInt + k = Hd.toInt + 1 → am_get ls 0 = some (.ref 0) → am_get ls 1 = some (.int sc) → am_get ls 2 = some (.int bd) → am_get ls 3 = some (.int i) → rn f am_m106 14 ls [] h r h' → ∃ x : Int32, fA (fun f n => lA (secZ 23 h0_z 0 Hd 0 pf (leZ real pt lo) 0) bd.toInt sc.toInt.toNat f s1_z n) sc.toInt k i x ∧ r = some (.int x) := by
  intro f
  induction f with
  | zero => intro k i ls h C0 i0_z ik g0_z g1_z g2_z g3_z hc_z; exact absurd hc_z rn_0
  | succ f ih_z =>
    intro k i ls h C0 i0_z ik g0_z g1_z g2_z g3_z hc_z
    have CC := C0
    obtain ⟨d0_z, d1_z, d2_z, d3_z, d4_z, d5_z, d6_z, d7_z⟩ := C0
    have z0_z : (0 : Int32).toInt = 0 := by decide
    have z1_z : (1 : Int32).toInt = 1 := by decide
    replace hc_z := rn_iload_n (am_cur_of (i := (25, 1, .iload_n 3, (0, 0, 0), 0)) (by decide +kernel)) g3_z hc_z
    replace hc_z := rn_aload_n (am_cur_of (i := (26, 1, .aload_n 0, (0, 0, 0), 0)) (by decide +kernel)) g0_z hc_z
    replace hc_z := rn_getM (x := 23) (am_cur_of (i := (27, 3, .getfield 18, (0, 2, 663), 0)) (by decide +kernel)) d0_z hc_z
    replace hc_z := rn_getI (v := Hd) (am_cur_of (i := (30, 3, .getfield 273, (1, 0, 251), 0)) (by decide +kernel)) (by decide +kernel) d2_z hc_z
    replace hc_z := rn_cmp (am_cur_of (i := (33, 3, .if_icmp .gt 22, (30, 0, 0), 0)) (by decide +kernel)) hc_z
    rcases hc_z with ⟨b154_z, hc_z⟩ | ⟨b154_z, hc_z⟩
    · replace b154_z : Hd.toInt < i.toInt := b154_z
      obtain rfl : k = 0 := by omega
      replace hc_z := rn_bipush (w := (-2)) (am_cur_of (i := (55, 2, .bipush (-2), (0, 0, 0), 0)) (by decide +kernel)) (by decide) hc_z
      replace hc_z := rn_iret (am_cur_of (i := (57, 1, .ireturn, (0, 0, 0), 0)) (by decide +kernel)) hc_z
      obtain ⟨e155_z, e156_z⟩ := hc_z
      exact ⟨-2, rfl, e155_z⟩
    · replace b154_z : i.toInt ≤ Hd.toInt := b154_z
      obtain ⟨k, rfl⟩ : ∃ k2_z, k = k2_z + 1 := ⟨k - 1, by omega⟩
      have ci_z := rt_c1 (x := i) (by omega) (by omega)
      replace hc_z := rn_aload_n (am_cur_of (i := (36, 1, .aload_n 0, (0, 0, 0), 0)) (by decide +kernel)) g0_z hc_z
      replace hc_z := rn_iload_n (am_cur_of (i := (37, 1, .iload_n 3, (0, 0, 0), 0)) (by decide +kernel)) g3_z hc_z
      replace hc_z := rn_iload_n (am_cur_of (i := (38, 1, .iload_n 2, (0, 0, 0), 0)) (by decide +kernel)) g2_z hc_z
      replace hc_z := rn_iload_n (am_cur_of (i := (39, 1, .iload_n 1, (0, 0, 0), 0)) (by decide +kernel)) g1_z hc_z
      replace hc_z := rn_callV (M' := am_m105) (o := 0) (ar := [.int sc, .int bd, .int i]) (rest := []) (L := lv_args 0 [.ref 0, .int i, .int bd, .int sc]) (am_cur_of (i := (40, 3, .invokevirtual 276, (105, 1104, 3), 0)) (by decide +kernel)) rfl rfl rfl rfl hc_z
      obtain ⟨r157_z, h158_z, q159_z, hc_z⟩ := hc_z
      obtain ⟨n, x, q1_z, rr, q3_z, q4_z⟩ := sa_105_23 hL H0 H9 p0_z p9_z l0_z l9_z S0 S9 CC (by omega) (by omega) c0_z (by omega) q159_z
      subst rr
      have C2 : dC 23 h0_z Hd pf real pt s1_z lo h158_z := dC_k (by decide) q4_z CC
      replace hc_z : rn _ _ _ _ [.int x] _ _ _ := hc_z
      replace hc_z := rn_iload_n (am_cur_of (i := (43, 1, .iload_n 1, (0, 0, 0), 0)) (by decide +kernel)) g1_z hc_z
      replace hc_z := rn_cmp (am_cur_of (i := (44, 3, .if_icmp .lt 5, (28, 0, 0), 0)) (by decide +kernel)) hc_z
      rcases hc_z with ⟨b160_z, hc_z⟩ | ⟨b160_z, hc_z⟩
      · replace b160_z : x.toInt < sc.toInt := b160_z
        replace hc_z := rn_iinc (w := i + 1) (am_cur_of (i := (49, 3, .iinc 3 1, (0, 0, 0), 0)) (by decide +kernel)) g3_z rfl hc_z
        obtain ⟨_, s161_z, s162_z, g3_z, hc_z⟩ := hc_z
        replace g0_z := s161_z 0 _ (by decide) rfl g0_z
        replace g1_z := s161_z 1 _ (by decide) rfl g1_z
        replace g2_z := s161_z 2 _ (by decide) rfl g2_z
        clear s161_z s162_z
        replace hc_z := rn_gotoL (am_cur_of (i := (52, 3, .goto (-27), (14, 0, 0), 0)) (by decide +kernel)) hc_z
        obtain ⟨y, u1_z, u2_z⟩ := ih_z k (i + 1) _ _ C2 (by omega) (by omega) g0_z g1_z g2_z g3_z hc_z
        exact ⟨y, ⟨n, q1_z, Or.inr ⟨by omega, u1_z⟩⟩, u2_z⟩
      · replace b160_z : sc.toInt ≤ x.toInt := b160_z
        replace hc_z := rn_iload_n (am_cur_of (i := (47, 1, .iload_n 3, (0, 0, 0), 0)) (by decide +kernel)) g3_z hc_z
        replace hc_z := rn_iret (am_cur_of (i := (48, 1, .ireturn, (0, 0, 0), 0)) (by decide +kernel)) hc_z
        obtain ⟨e163_z, e164_z⟩ := hc_z
        exact ⟨i, ⟨n, q1_z, Or.inl ⟨by omega, rfl⟩⟩, e163_z⟩
theorem fi_106_23 {n : Nat} {r : Option Value} {h0_z g : am_H} {Hd pf real pt s1_z : Int32} {lo : Nat → Int32} {h h' : am_H} {sc bd : Int32} (hL : LW 23 h0_z g) (H0 : 0 ≤ Hd.toInt) (H9 : Hd.toInt ≤ 9999) (p0_z : 0 ≤ pf.toInt) (p9_z : pf.toInt ≤ 9999) (l0_z : 0 ≤ (leZ real pt lo).toInt) (l9_z : (leZ real pt lo).toInt ≤ 999) (S0 : 0 ≤ s1_z.toInt) (S9 : s1_z.toInt ≤ 99999) (C0 : dC 23 h0_z Hd pf real pt s1_z lo h) (hc_z : rn n am_m106 0 (lv_args 0 [.ref 0, .int sc, .int bd]) [] h r h') : (¬ (0 ≤ sc.toInt ∧ sc.toInt ≤ 60 ∧ 0 ≤ bd.toInt ∧ bd.toInt ≤ 9999) ∧ r = some (.int (-1))) ∨ ((0 ≤ sc.toInt ∧ sc.toInt ≤ 60 ∧ 0 ≤ bd.toInt ∧ bd.toInt ≤ 9999) ∧ ∃ x : Int32, fA (fun f n => lA (secZ 23 h0_z 0 Hd 0 pf (leZ real pt lo) 0) bd.toInt sc.toInt.toNat f s1_z n) sc.toInt (Hd.toInt.toNat + 1) 0 x ∧ r = some (.int x)) := by
  have z0_z : (0 : Int32).toInt = 0 := by decide
  have z60_z : (60 : Int32).toInt = 60 := by decide
  have z9999_z : (9999 : Int32).toInt = 9999 := by decide
  have g0_z : am_get (lv_args 0 [.ref 0, .int sc, .int bd]) 0 = some (.ref 0) := rfl
  have g1_z : am_get (lv_args 0 [.ref 0, .int sc, .int bd]) 1 = some (.int sc) := rfl
  have g2_z : am_get (lv_args 0 [.ref 0, .int sc, .int bd]) 2 = some (.int bd) := rfl
  replace hc_z := rn_iload_n (am_cur_of (i := (0, 1, .iload_n 1, (0, 0, 0), 0)) (by decide +kernel)) g1_z hc_z
  replace hc_z := rn_iconst (w := 0) (am_cur_of (i := (1, 1, .iconst 0, (0, 0, 0), 0)) (by decide +kernel)) (by decide) hc_z
  replace hc_z := rn_bipush (w := 60) (am_cur_of (i := (2, 2, .bipush 60, (0, 0, 0), 0)) (by decide +kernel)) (by decide) hc_z
  replace hc_z := rn_callS (M' := am_m62) (ar := [.int 60, .int 0, .int sc]) (rest := []) (L := lv_args 0 [.int sc, .int 0, .int 60]) (am_cur_of (i := (4, 3, .invokestatic 172, (62, 908, 3), 0)) (by decide +kernel)) rfl rfl rfl rfl hc_z
  obtain ⟨r165_z, h166_z, q167_z, hc_z⟩ := hc_z
  rcases sl_62 q167_z with ⟨b168_z, rfl, y169_z⟩ | ⟨b170_z, b171_z, rfl, y172_z⟩ | ⟨b173_z, b174_z, rfl, y175_z⟩
  · replace y169_z := y169_z.symm
    subst y169_z
    replace b168_z : sc.toInt < (0 : Int32).toInt := b168_z
    replace hc_z : rn _ _ _ _ [.int 0] _ _ _ := hc_z
    replace hc_z := rn_ifT (am_cur_of (i := (7, 3, .ifCond .eq 14, (10, 0, 0), 0)) (by decide +kernel)) (by decide) hc_z
    replace hc_z := rn_iconst (w := (-1)) (am_cur_of (i := (21, 1, .iconst (-1), (0, 0, 0), 0)) (by decide +kernel)) (by decide) hc_z
    replace hc_z := rn_iret (am_cur_of (i := (22, 1, .ireturn, (0, 0, 0), 0)) (by decide +kernel)) hc_z
    obtain ⟨e176_z, e177_z⟩ := hc_z
    exact Or.inl ⟨by omega, e176_z⟩
  · replace y172_z := y172_z.symm
    subst y172_z
    replace b170_z : (0 : Int32).toInt ≤ sc.toInt := b170_z
    replace b171_z : (60 : Int32).toInt < sc.toInt := b171_z
    replace hc_z : rn _ _ _ _ [.int 0] _ _ _ := hc_z
    replace hc_z := rn_ifT (am_cur_of (i := (7, 3, .ifCond .eq 14, (10, 0, 0), 0)) (by decide +kernel)) (by decide) hc_z
    replace hc_z := rn_iconst (w := (-1)) (am_cur_of (i := (21, 1, .iconst (-1), (0, 0, 0), 0)) (by decide +kernel)) (by decide) hc_z
    replace hc_z := rn_iret (am_cur_of (i := (22, 1, .ireturn, (0, 0, 0), 0)) (by decide +kernel)) hc_z
    obtain ⟨e178_z, e179_z⟩ := hc_z
    exact Or.inl ⟨by omega, e178_z⟩
  · replace y175_z := y175_z.symm
    subst y175_z
    replace b173_z : (0 : Int32).toInt ≤ sc.toInt := b173_z
    replace b174_z : sc.toInt ≤ (60 : Int32).toInt := b174_z
    replace hc_z : rn _ _ _ _ [.int 1] _ _ _ := hc_z
    replace hc_z := rn_ifF (am_cur_of (i := (7, 3, .ifCond .eq 14, (10, 0, 0), 0)) (by decide +kernel)) (by decide) hc_z
    replace hc_z := rn_iload_n (am_cur_of (i := (10, 1, .iload_n 2, (0, 0, 0), 0)) (by decide +kernel)) g2_z hc_z
    replace hc_z := rn_iconst (w := 0) (am_cur_of (i := (11, 1, .iconst 0, (0, 0, 0), 0)) (by decide +kernel)) (by decide) hc_z
    replace hc_z := rn_sipush (w := 9999) (am_cur_of (i := (12, 3, .sipush 9999, (0, 0, 0), 0)) (by decide +kernel)) (by decide) hc_z
    replace hc_z := rn_callS (M' := am_m62) (ar := [.int 9999, .int 0, .int bd]) (rest := []) (L := lv_args 0 [.int bd, .int 0, .int 9999]) (am_cur_of (i := (15, 3, .invokestatic 172, (62, 908, 3), 0)) (by decide +kernel)) rfl rfl rfl rfl hc_z
    obtain ⟨r180_z, h181_z, q182_z, hc_z⟩ := hc_z
    rcases sl_62 q182_z with ⟨b183_z, rfl, y184_z⟩ | ⟨b185_z, b186_z, rfl, y187_z⟩ | ⟨b188_z, b189_z, rfl, y190_z⟩
    · replace y184_z := y184_z.symm
      subst y184_z
      replace b183_z : bd.toInt < (0 : Int32).toInt := b183_z
      replace hc_z : rn _ _ _ _ [.int 0] _ _ _ := hc_z
      replace hc_z := rn_ifF (am_cur_of (i := (18, 3, .ifCond .ne 5, (12, 0, 0), 0)) (by decide +kernel)) (by decide) hc_z
      replace hc_z := rn_iconst (w := (-1)) (am_cur_of (i := (21, 1, .iconst (-1), (0, 0, 0), 0)) (by decide +kernel)) (by decide) hc_z
      replace hc_z := rn_iret (am_cur_of (i := (22, 1, .ireturn, (0, 0, 0), 0)) (by decide +kernel)) hc_z
      obtain ⟨e191_z, e192_z⟩ := hc_z
      exact Or.inl ⟨by omega, e191_z⟩
    · replace y187_z := y187_z.symm
      subst y187_z
      replace b185_z : (0 : Int32).toInt ≤ bd.toInt := b185_z
      replace b186_z : (9999 : Int32).toInt < bd.toInt := b186_z
      replace hc_z : rn _ _ _ _ [.int 0] _ _ _ := hc_z
      replace hc_z := rn_ifF (am_cur_of (i := (18, 3, .ifCond .ne 5, (12, 0, 0), 0)) (by decide +kernel)) (by decide) hc_z
      replace hc_z := rn_iconst (w := (-1)) (am_cur_of (i := (21, 1, .iconst (-1), (0, 0, 0), 0)) (by decide +kernel)) (by decide) hc_z
      replace hc_z := rn_iret (am_cur_of (i := (22, 1, .ireturn, (0, 0, 0), 0)) (by decide +kernel)) hc_z
      obtain ⟨e193_z, e194_z⟩ := hc_z
      exact Or.inl ⟨by omega, e193_z⟩
    · replace y190_z := y190_z.symm
      subst y190_z
      replace b188_z : (0 : Int32).toInt ≤ bd.toInt := b188_z
      replace b189_z : bd.toInt ≤ (9999 : Int32).toInt := b189_z
      replace hc_z : rn _ _ _ _ [.int 1] _ _ _ := hc_z
      replace hc_z := rn_ifT (am_cur_of (i := (18, 3, .ifCond .ne 5, (12, 0, 0), 0)) (by decide +kernel)) (by decide) hc_z
      replace hc_z := rn_iconst (w := 0) (am_cur_of (i := (23, 1, .iconst 0, (0, 0, 0), 0)) (by decide +kernel)) (by decide) hc_z
      replace hc_z := rn_istore_n (am_cur_of (i := (24, 1, .istore_n 3, (0, 0, 0), 0)) (by decide +kernel)) hc_z
      obtain ⟨_, s195_z, s196_z, g3_z, hc_z⟩ := hc_z
      replace g0_z := s195_z 0 _ (by decide) rfl g0_z
      replace g1_z := s195_z 1 _ (by decide) rfl g1_z
      replace g2_z := s195_z 2 _ (by decide) rfl g2_z
      clear s195_z s196_z
      obtain ⟨x, q1_z, q2_z⟩ := fi_l23 (sc := sc) (bd := bd) hL H0 H9 p0_z p9_z l0_z l9_z S0 S9 (by omega) (by omega) _ (Hd.toInt.toNat + 1) 0 _ _ C0 (by decide) (by omega) g0_z g1_z g2_z g3_z hc_z
      exact Or.inr ⟨by omega, x, q1_z, q2_z⟩
